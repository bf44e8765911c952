set_option maxHeartbeats 4000000 in
set_option maxRecDepth 100000 in
theorem lp_M_tags_g0 {p : Program} {l : Launch} {e : Env} {s : State} {m : MethodId} {args : Array Value} {below : List Frame} {meth : Method} {c : Code} {Q : State → Prop} {A : Nat → Prop} {dC : Nat → ClassId} {dI : Nat → Nat → Nat} {k h : Nat → Nat} {g : Nat → ClassId} {ss : Int32} {li : Int32} {co : Int32} {bl : Int32} {te : Int32} {wo : Nat → Int64} {wz : Nat → Int32} {sr : Nat → Int32} {ro : Nat → Int32} {sa0 : Int32} {so0 : Int32} {fa0 : Int32} {op0 : Int32} (hx : p.tables.exec = Jvm.exec) (hb : c.code = b_M_tags) (hml : c.maxLocals = 6) (hown : s.vm.findClass "SieveDeskModel" = some m.cls) (ht : ∀ w ∈ TT, w.before args s = true) (hE : KE k A s s.heap) (hA : ∀ q : Nat, s.heap.size ≤ q → A q) (hK : va_K (dC, dI) cls (TM g) s) {w : Int32} (h_0 : 0 ≤ Int32.toInt ss) (h_1 : Int32.toInt ss ≤ 400) (fin : ∀ (u : Int32 × Int32 × Int32 × Int32 × Int32 × Int32 × (Nat → Int64) × (Nat → Int32) × Int32 × Int32) (H : Heap) (locs : List Loc) (pc : Nat) (ls : Array Slot), decode b_M_tags pc = .ok (.return_, 1) → (0 ≤ Int32.toInt u.1 ∧ Int32.toInt u.1 ≤ Int32.toInt ss ∧ 0 ≤ Int32.toInt u.2.2.1 ∧ Int32.toInt u.2.2.1 ≤ 400 ∧ -1 ≤ Int32.toInt u.2.2.2.1 ∧ Int32.toInt u.2.2.2.1 ≤ 400 ∧ (Int32.toInt u.2.2.2.1 < 0 ∨ (Int32.toInt u.2.1 = 0 ∧ Int32.toInt u.2.2.2.2.1 = 0)) ∧ 0 ≤ Int32.toInt u.2.2.2.2.2.1 ∧ Int32.toInt u.2.2.2.2.2.1 ≤ 400 ∧ PR ss sa0 so0 fa0 op0 u.1 u.2.1 u.2.2.2.1 u.2.2.2.2.1) → va_P (dC, dI) cls (ME h g ss u.1 u.2.1 u.2.2.1 u.2.2.2.2.2.1 u.2.2.2.1 li co u.2.2.2.2.2.2.2.2.1 u.2.2.2.2.2.2.2.2.2 bl te u.2.2.2.2.1 wo wz sr u.2.2.2.2.2.2.1 u.2.2.2.2.2.2.2.1 ro) H → va_D A (ME h g ss u.1 u.2.1 u.2.2.1 u.2.2.2.2.2.1 u.2.2.2.1 li co u.2.2.2.2.2.2.2.2.1 u.2.2.2.2.2.2.2.2.2 bl te u.2.2.2.2.1 wo wz sr u.2.2.2.2.2.2.1 u.2.2.2.2.2.2.2.1 ro) → va_S A s.heap H locs → W p l e ({ frames := 7, cells := 0, slots := 0, locals := 151 } : Room) s m args below meth c H locs 0 0 Q (F0 m pc ls [])) : ∀ (nn : Nat), (∀ (fg : Int32) (cp : Int32) (sa : Int32) (so : Int32) (pl : Int32) (fa : Int32) (op : Int32) (si : Int32) (le : Nat → Int64) (tx : Nat → Int32) (st : Int32) (rq : Int32), PR ss sa0 so0 fa0 op0 sa so fa op → 0 ≤ Int32.toInt sa → Int32.toInt sa ≤ Int32.toInt ss → 0 ≤ Int32.toInt pl → Int32.toInt pl ≤ 400 → -1 ≤ Int32.toInt fa → Int32.toInt fa ≤ 400 → (Int32.toInt fa < 0 ∨ (Int32.toInt so = 0 ∧ Int32.toInt op = 0)) → 0 ≤ Int32.toInt si → Int32.toInt si ≤ 400 → 16 * YY ss sa so fa + 4 < nn → ∀ (H : Heap) (locs : List Loc) (ls : Array Slot), va_P (dC, dI) cls (ME h g ss sa so pl si fa li co st rq bl te op wo wz sr le tx ro) H → va_D A (ME h g ss sa so pl si fa li co st rq bl te op wo wz sr le tx ro) → va_S A s.heap H locs → lv_has ls 6 [(2, .int fg), (3, .int cp), (0, .ref (h 0)), (1, .int w)] → W p l e ({ frames := 7, cells := 0, slots := 0, locals := 151 } : Room) s m args below meth c H locs 0 0 Q (F0 m 4 ls [])) ∧ (∀ (fg : Int32) (cp : Int32) (fl : Int32) (sa : Int32) (so : Int32) (pl : Int32) (fa : Int32) (op : Int32) (si : Int32) (le : Nat → Int64) (tx : Nat → Int32) (st : Int32) (rq : Int32), PR ss sa0 so0 fa0 op0 sa so fa op → Int32.toInt fa < 0 → Int32.toInt so = 2 → 0 ≤ Int32.toInt sa → Int32.toInt sa ≤ Int32.toInt ss → 0 ≤ Int32.toInt pl → Int32.toInt pl ≤ 400 → -1 ≤ Int32.toInt fa → Int32.toInt fa ≤ 400 → (Int32.toInt fa < 0 ∨ (Int32.toInt so = 0 ∧ Int32.toInt op = 0)) → 0 ≤ Int32.toInt si → Int32.toInt si ≤ 400 → 16 * YY ss sa so fa + 3 < nn → ∀ (H : Heap) (locs : List Loc) (ls : Array Slot), va_P (dC, dI) cls (ME h g ss sa so pl si fa li co st rq bl te op wo wz sr le tx ro) H → va_D A (ME h g ss sa so pl si fa li co st rq bl te op wo wz sr le tx ro) → va_S A s.heap H locs → lv_has ls 6 [(2, .int fg), (3, .int cp), (4, .int fl), (0, .ref (h 0)), (1, .int w)] → W p l e ({ frames := 7, cells := 0, slots := 0, locals := 151 } : Room) s m args below meth c H locs 0 0 Q (F0 m 38 ls [])) ∧ (∀ (fg : Int32) (cp : Int32) (fl : Int32) (cy : Int32) (sa : Int32) (so : Int32) (pl : Int32) (fa : Int32) (op : Int32) (si : Int32) (le : Nat → Int64) (tx : Nat → Int32) (st : Int32) (rq : Int32), PR ss sa0 so0 fa0 op0 sa so fa op → Int32.toInt fa < 0 → Int32.toInt so = 2 → 0 ≤ Int32.toInt sa → Int32.toInt sa ≤ Int32.toInt ss → 0 ≤ Int32.toInt pl → Int32.toInt pl ≤ 400 → -1 ≤ Int32.toInt fa → Int32.toInt fa ≤ 400 → (Int32.toInt fa < 0 ∨ (Int32.toInt so = 0 ∧ Int32.toInt op = 0)) → 0 ≤ Int32.toInt si → Int32.toInt si ≤ 400 → 16 * YY ss sa so fa + 2 < nn → ∀ (H : Heap) (locs : List Loc) (ls : Array Slot), va_P (dC, dI) cls (ME h g ss sa so pl si fa li co st rq bl te op wo wz sr le tx ro) H → va_D A (ME h g ss sa so pl si fa li co st rq bl te op wo wz sr le tx ro) → va_S A s.heap H locs → lv_has ls 6 [(2, .int fg), (3, .int cp), (4, .int fl), (5, .int cy), (0, .ref (h 0)), (1, .int w)] → W p l e ({ frames := 7, cells := 0, slots := 0, locals := 151 } : Room) s m args below meth c H locs 0 0 Q (F0 m 64 ls [])) ∧ (∀ (fg : Int32) (cp : Int32) (fl : Int32) (cy : Int32) (sa : Int32) (so : Int32) (pl : Int32) (fa : Int32) (op : Int32) (si : Int32) (le : Nat → Int64) (tx : Nat → Int32) (st : Int32) (rq : Int32), PR ss sa0 so0 fa0 op0 sa so fa op → 0 ≤ Int32.toInt sa → Int32.toInt sa ≤ Int32.toInt ss → 0 ≤ Int32.toInt pl → Int32.toInt pl ≤ 400 → -1 ≤ Int32.toInt fa → Int32.toInt fa ≤ 400 → (Int32.toInt fa < 0 ∨ (Int32.toInt so = 0 ∧ Int32.toInt op = 0)) → 0 ≤ Int32.toInt si → Int32.toInt si ≤ 400 → 16 * YY ss sa so fa + 8 < nn → ∀ (H : Heap) (locs : List Loc) (ls : Array Slot), va_P (dC, dI) cls (ME h g ss sa so pl si fa li co st rq bl te op wo wz sr le tx ro) H → va_D A (ME h g ss sa so pl si fa li co st rq bl te op wo wz sr le tx ro) → va_S A s.heap H locs → lv_has ls 6 [(2, .int fg), (3, .int cp), (4, .int fl), (5, .int cy), (0, .ref (h 0)), (1, .int w)] → W p l e ({ frames := 7, cells := 0, slots := 0, locals := 151 } : Room) s m args below meth c H locs 0 0 Q (F0 m 98 ls [])) ∧ (∀ (fg : Int32) (cp : Int32) (fl : Int32) (cy : Int32) (sa : Int32) (so : Int32) (pl : Int32) (fa : Int32) (op : Int32) (si : Int32) (le : Nat → Int64) (tx : Nat → Int32) (st : Int32) (rq : Int32), PR ss sa0 so0 fa0 op0 sa so fa op → 0 ≤ Int32.toInt sa → Int32.toInt sa ≤ Int32.toInt ss → 0 ≤ Int32.toInt pl → Int32.toInt pl ≤ 400 → -1 ≤ Int32.toInt fa → Int32.toInt fa ≤ 400 → (Int32.toInt fa < 0 ∨ (Int32.toInt so = 0 ∧ Int32.toInt op = 0)) → 0 ≤ Int32.toInt si → Int32.toInt si ≤ 400 → 16 * YY ss sa so fa + 7 < nn → ∀ (H : Heap) (locs : List Loc) (ls : Array Slot), va_P (dC, dI) cls (ME h g ss sa so pl si fa li co st rq bl te op wo wz sr le tx ro) H → va_D A (ME h g ss sa so pl si fa li co st rq bl te op wo wz sr le tx ro) → va_S A s.heap H locs → lv_has ls 6 [(2, .int fg), (3, .int cp), (4, .int fl), (5, .int cy), (0, .ref (h 0)), (1, .int w)] → W p l e ({ frames := 7, cells := 0, slots := 0, locals := 151 } : Room) s m args below meth c H locs 0 0 Q (F0 m 113 ls [])) ∧ (∀ (fg : Int32) (cp : Int32) (fl : Int32) (cy : Int32) (sa : Int32) (so : Int32) (pl : Int32) (fa : Int32) (op : Int32) (si : Int32) (le : Nat → Int64) (tx : Nat → Int32) (st : Int32) (rq : Int32), PR ss sa0 so0 fa0 op0 sa so fa op → 0 ≤ Int32.toInt sa → Int32.toInt sa ≤ Int32.toInt ss → 0 ≤ Int32.toInt pl → Int32.toInt pl ≤ 400 → -1 ≤ Int32.toInt fa → Int32.toInt fa ≤ 400 → (Int32.toInt fa < 0 ∨ (Int32.toInt so = 0 ∧ Int32.toInt op = 0)) → 0 ≤ Int32.toInt si → Int32.toInt si ≤ 400 → 16 * YY ss sa so fa + 6 < nn → ∀ (H : Heap) (locs : List Loc) (ls : Array Slot), va_P (dC, dI) cls (ME h g ss sa so pl si fa li co st rq bl te op wo wz sr le tx ro) H → va_D A (ME h g ss sa so pl si fa li co st rq bl te op wo wz sr le tx ro) → va_S A s.heap H locs → lv_has ls 6 [(2, .int fg), (3, .int cp), (4, .int fl), (5, .int cy), (0, .ref (h 0)), (1, .int w)] → W p l e ({ frames := 7, cells := 0, slots := 0, locals := 151 } : Room) s m args below meth c H locs 0 0 Q (F0 m 128 ls [])) := by
  intro nn
  induction nn with
  | zero =>
    refine ⟨fun _ _ _ _ _ _ _ _ _ _ _ _ _ _ _ _ _ _ _ _ _ _ hm => absurd hm (Nat.not_lt_zero _), fun _ _ _ _ _ _ _ _ _ _ _ _ _ _ _ _ _ _ _ _ _ _ _ _ _ hm => absurd hm (Nat.not_lt_zero _), fun _ _ _ _ _ _ _ _ _ _ _ _ _ _ _ _ _ _ _ _ _ _ _ _ _ _ hm => absurd hm (Nat.not_lt_zero _), fun _ _ _ _ _ _ _ _ _ _ _ _ _ _ _ _ _ _ _ _ _ _ _ _ hm => absurd hm (Nat.not_lt_zero _), fun _ _ _ _ _ _ _ _ _ _ _ _ _ _ _ _ _ _ _ _ _ _ _ _ hm => absurd hm (Nat.not_lt_zero _), fun _ _ _ _ _ _ _ _ _ _ _ _ _ _ _ _ _ _ _ _ _ _ _ _ hm => absurd hm (Nat.not_lt_zero _)⟩
  | succ nn ih =>
    refine ⟨?_, ?_, ?_, ?_, ?_, ?_⟩
    · intro fg cp sa so pl fa op si le tx st rq v_0 v_1 v_2 v_3 v_4 v_5 v_6 v_7 v_8 v_9 hm H locs ls hP hD hS hl
      refine lv_aload_n hx hb d_M_tags_4 rfl (lv_at hl 2 rfl) ?_
      refine lv_iconst (v := 2) hx hb d_M_tags_5 (by decide) ?_
      have hc_2 : Int32.toInt 2 = 2 := by decide
      have hFc := va_free (wc := (ME h g ss sa so pl si fa li co st rq bl te op wo wz sr le tx ro)) hD hS hA [0, 1, 2, 3, 4, 5, 6] rfl
      refine va_calli (va_runV (As := [.int 2]) (rest := []) ⟨hx, hb, hml, hown, ht⟩ (c_M_is l dC dI k h g ss sa so pl si fa li co st rq bl te op wo le wz sr tx ro 2 _ (by omega) (by omega) ) (cwV 1 ht (g_V k_771 k_773 k_52 k_80 k_774) rfl rfl rfl (by decide +kernel) ⟨(Nat.le_of_ble_eq_true rfl), (Nat.le_of_ble_eq_true rfl)⟩) ⟨fb_X, va_recv hK hP (ci := 4) (q0 := 0) rfl rfl, pre_X hE hS hFc hP hK hD⟩ rfl rfl hl.1 rfl (lv_room (Nat.le_of_ble_eq_true rfl)) d_M_tags_6 ⟨(Nat.le_of_ble_eq_true rfl), (Nat.le_of_ble_eq_true rfl)⟩) hS (fun q _ h9 => hFc q h9) hFc (fun r_2 u_1 t H locs het hvm hw hB hz1 hk1 hS => ?_)
      obtain ⟨p_3, p_4⟩ := hw
      obtain ⟨hP1, hK1, hD1⟩ := hB
      rw [het] at hP1
      have hP : va_P (dC, dI) cls (ME h g ss sa so pl si fa li co st rq bl te op wo wz sr le tx ro) H := hP1
      have hD : va_D A (ME h g ss sa so pl si fa li co st rq bl te op wo wz sr le tx ro) := hD1.weaken (fun _ _ _ h9 => hFc _ h9)
      refine lv_if_eq (tgt := 141) hx hb d_M_tags_9 (by decide) (fun c_5 => ?_) (fun c_5 => ?_)
      · have dc_5 := i_eq c_5 rfl (show Int32.toInt 0 = 0 by decide)
        exact fin  (sa, so, pl, fa, op, si, le, tx, st, rq) _ _ _ ls d_M_tags_141 ⟨(by (try dsimp only); omega), (by (try dsimp only); omega), (by (try dsimp only); omega), (by (try dsimp only); omega), (by (try dsimp only); omega), (by (try dsimp only); omega), (by (try dsimp only); omega), (by (try dsimp only); omega), (by (try dsimp only); omega), v_0⟩ hP hD hS
      · have dc_5 := i_ne c_5 rfl (show Int32.toInt 0 = 0 by decide)
        refine lv_aload_n hx hb d_M_tags_12 rfl (lv_at hl 2 rfl) ?_
        refine lv_bipush (v := 25) hx hb d_M_tags_13 (by decide) ?_
        have hc_25 : Int32.toInt 25 = 25 := by decide
        have hFc := va_free (wc := (ME h g ss sa so pl si fa li co st rq bl te op wo wz sr le tx ro)) hD hS hA [0, 1, 2, 3, 4, 5, 6] rfl
        refine va_calli (va_runV (As := [.int 25]) (rest := []) ⟨hx, hb, hml, hown, ht⟩ (c_M_like l dC dI k h g ss sa so pl si fa li co st rq bl te op wo le wz sr tx ro 25 _ (by omega) (by omega) ) (cwV 1 ht (g_V k_734 k_736 k_44 k_80 k_737) rfl rfl rfl (by decide +kernel) ⟨(Nat.le_of_ble_eq_true rfl), (Nat.le_of_ble_eq_true rfl)⟩) ⟨fb_X, va_recv hK hP (ci := 4) (q0 := 0) rfl rfl, pre_X hE hS hFc hP hK hD⟩ rfl rfl hl.1 rfl (lv_room (Nat.le_of_ble_eq_true rfl)) d_M_tags_15 ⟨(Nat.le_of_ble_eq_true rfl), (Nat.le_of_ble_eq_true rfl)⟩) hS (fun q _ h9 => hFc q h9) hFc (fun r_7 u_6 t H locs het hvm hw hB hz1 hk1 hS => ?_)
        have p_8 := hw
        obtain ⟨hP1, hK1, hD1⟩ := hB
        rw [het] at hP1
        have hP : va_P (dC, dI) cls (ME h g ss sa so pl si fa li co st rq bl te op wo wz sr le tx ro) H := hP1
        have hD : va_D A (ME h g ss sa so pl si fa li co st rq bl te op wo wz sr le tx ro) := hD1.weaken (fun _ _ _ h9 => hFc _ h9)
        refine lv_if_eq (tgt := 35) hx hb d_M_tags_18 (by decide) (fun c_9 => ?_) (fun c_9 => ?_)
        · have dc_9 := i_eq c_9 rfl (show Int32.toInt 0 = 0 by decide)
          refine lv_iconst (v := 0) hx hb d_M_tags_35 (by decide) ?_
          refine lv_istore (lv' := [(4, .int 0), (2, .int fg), (3, .int cp), (0, .ref (h 0)), (1, .int w)]) hx hb d_M_tags_36 hl (by decide) rfl (fun ls hl => ?_)
          have hc_0 : Int32.toInt 0 = 0 := by decide
          exact ih.2.1 fg cp 0 sa so pl fa op si le tx st rq v_0 (by omega) (by omega) (by omega) (by omega) (by omega) (by omega) (by omega) (by omega) (by omega) (by omega) (by omega) (by omega) _ _ ls hP hD hS (lv_sub hl [1, 2, 0, 3, 4] rfl)
        · have dc_9 := i_ne c_9 rfl (show Int32.toInt 0 = 0 by decide)
          refine lv_iload_n hx hb d_M_tags_21 rfl (lv_at hl 3 rfl) ?_
          refine lv_bipush (v := 8) hx hb d_M_tags_22 (by decide) ?_
          refine lv_icmp_eq (tgt := 35) hx hb d_M_tags_24 (by decide) (fun c_10 => ?_) (fun c_10 => ?_)
          · refine lv_iconst (v := 0) hx hb d_M_tags_35 (by decide) ?_
            refine lv_istore (lv' := [(4, .int 0), (2, .int fg), (3, .int cp), (0, .ref (h 0)), (1, .int w)]) hx hb d_M_tags_36 hl (by decide) rfl (fun ls hl => ?_)
            have hc_0 : Int32.toInt 0 = 0 := by decide
            exact ih.2.1 fg cp 0 sa so pl fa op si le tx st rq v_0 (by omega) (by omega) (by omega) (by omega) (by omega) (by omega) (by omega) (by omega) (by omega) (by omega) (by omega) (by omega) _ _ ls hP hD hS (lv_sub hl [1, 2, 0, 3, 4] rfl)
          · refine lv_iload_n hx hb d_M_tags_27 rfl (lv_at hl 0 rfl) ?_
            refine lv_if_ne (tgt := 35) hx hb d_M_tags_28 (by decide) (fun c_11 => ?_) (fun c_11 => ?_)
            · refine lv_iconst (v := 0) hx hb d_M_tags_35 (by decide) ?_
              refine lv_istore (lv' := [(4, .int 0), (2, .int fg), (3, .int cp), (0, .ref (h 0)), (1, .int w)]) hx hb d_M_tags_36 hl (by decide) rfl (fun ls hl => ?_)
              have hc_0 : Int32.toInt 0 = 0 := by decide
              exact ih.2.1 fg cp 0 sa so pl fa op si le tx st rq v_0 (by omega) (by omega) (by omega) (by omega) (by omega) (by omega) (by omega) (by omega) (by omega) (by omega) (by omega) (by omega) _ _ ls hP hD hS (lv_sub hl [1, 2, 0, 3, 4] rfl)
            · refine lv_iconst (v := 1) hx hb d_M_tags_31 (by decide) ?_
              refine lv_goto (tgt := 36) hx hb d_M_tags_32 (by decide) ?_
              refine lv_istore (lv' := [(4, .int 1), (2, .int fg), (3, .int cp), (0, .ref (h 0)), (1, .int w)]) hx hb d_M_tags_36 hl (by decide) rfl (fun ls hl => ?_)
              have hc_1 : Int32.toInt 1 = 1 := by decide
              exact ih.2.1 fg cp 1 sa so pl fa op si le tx st rq v_0 (by omega) (by omega) (by omega) (by omega) (by omega) (by omega) (by omega) (by omega) (by omega) (by omega) (by omega) (by omega) _ _ ls hP hD hS (lv_sub hl [1, 2, 0, 3, 4] rfl)
    · intro fg cp fl sa so pl fa op si le tx st rq v_0 v_1 v_2 v_3 v_4 v_5 v_6 v_7 v_8 v_9 v_10 v_11 hm H locs ls hP hD hS hl
      refine lv_aload_n hx hb d_M_tags_38 rfl (lv_at hl 3 rfl) ?_
      refine lv_bipush (v := 26) hx hb d_M_tags_39 (by decide) ?_
      have hc_26 : Int32.toInt 26 = 26 := by decide
      have hFc := va_free (wc := (ME h g ss sa so pl si fa li co st rq bl te op wo wz sr le tx ro)) hD hS hA [0, 1, 2, 3, 4, 5, 6] rfl
      refine va_calli (va_runV (As := [.int 26]) (rest := []) ⟨hx, hb, hml, hown, ht⟩ (c_M_like l dC dI k h g ss sa so pl si fa li co st rq bl te op wo le wz sr tx ro 26 _ (by omega) (by omega) ) (cwV 1 ht (g_V k_734 k_736 k_44 k_80 k_737) rfl rfl rfl (by decide +kernel) ⟨(Nat.le_of_ble_eq_true rfl), (Nat.le_of_ble_eq_true rfl)⟩) ⟨fb_X, va_recv hK hP (ci := 4) (q0 := 0) rfl rfl, pre_X hE hS hFc hP hK hD⟩ rfl rfl hl.1 rfl (lv_room (Nat.le_of_ble_eq_true rfl)) d_M_tags_41 ⟨(Nat.le_of_ble_eq_true rfl), (Nat.le_of_ble_eq_true rfl)⟩) hS (fun q _ h9 => hFc q h9) hFc (fun r_13 u_12 t H locs het hvm hw hB hz1 hk1 hS => ?_)
      have p_14 := hw
      obtain ⟨hP1, hK1, hD1⟩ := hB
      rw [het] at hP1
      have hP : va_P (dC, dI) cls (ME h g ss sa so pl si fa li co st rq bl te op wo wz sr le tx ro) H := hP1
      have hD : va_D A (ME h g ss sa so pl si fa li co st rq bl te op wo wz sr le tx ro) := hD1.weaken (fun _ _ _ h9 => hFc _ h9)
      refine lv_if_eq (tgt := 61) hx hb d_M_tags_44 (by decide) (fun c_15 => ?_) (fun c_15 => ?_)
      · have dc_15 := i_eq c_15 rfl (show Int32.toInt 0 = 0 by decide)
        refine lv_iconst (v := 0) hx hb d_M_tags_61 (by decide) ?_
        refine lv_istore (lv' := [(5, .int 0), (2, .int fg), (3, .int cp), (4, .int fl), (0, .ref (h 0)), (1, .int w)]) hx hb d_M_tags_62 hl (by decide) rfl (fun ls hl => ?_)
        have hc_0 : Int32.toInt 0 = 0 := by decide
        exact ih.2.2.1 fg cp fl 0 sa so pl fa op si le tx st rq v_0 (by omega) (by omega) (by omega) (by omega) (by omega) (by omega) (by omega) (by omega) (by omega) (by omega) (by omega) (by omega) _ _ ls hP hD hS (lv_sub hl [1, 2, 3, 0, 4, 5] rfl)
      · have dc_15 := i_ne c_15 rfl (show Int32.toInt 0 = 0 by decide)
        refine lv_iload_n hx hb d_M_tags_47 rfl (lv_at hl 4 rfl) ?_
        refine lv_bipush (v := 6) hx hb d_M_tags_48 (by decide) ?_
        refine lv_icmp_eq (tgt := 61) hx hb d_M_tags_50 (by decide) (fun c_16 => ?_) (fun c_16 => ?_)
        · refine lv_iconst (v := 0) hx hb d_M_tags_61 (by decide) ?_
          refine lv_istore (lv' := [(5, .int 0), (2, .int fg), (3, .int cp), (4, .int fl), (0, .ref (h 0)), (1, .int w)]) hx hb d_M_tags_62 hl (by decide) rfl (fun ls hl => ?_)
          have hc_0 : Int32.toInt 0 = 0 := by decide
          exact ih.2.2.1 fg cp fl 0 sa so pl fa op si le tx st rq v_0 (by omega) (by omega) (by omega) (by omega) (by omega) (by omega) (by omega) (by omega) (by omega) (by omega) (by omega) (by omega) _ _ ls hP hD hS (lv_sub hl [1, 2, 3, 0, 4, 5] rfl)
        · refine lv_iload_n hx hb d_M_tags_53 rfl (lv_at hl 1 rfl) ?_
          refine lv_if_ne (tgt := 61) hx hb d_M_tags_54 (by decide) (fun c_17 => ?_) (fun c_17 => ?_)
          · refine lv_iconst (v := 0) hx hb d_M_tags_61 (by decide) ?_
            refine lv_istore (lv' := [(5, .int 0), (2, .int fg), (3, .int cp), (4, .int fl), (0, .ref (h 0)), (1, .int w)]) hx hb d_M_tags_62 hl (by decide) rfl (fun ls hl => ?_)
            have hc_0 : Int32.toInt 0 = 0 := by decide
            exact ih.2.2.1 fg cp fl 0 sa so pl fa op si le tx st rq v_0 (by omega) (by omega) (by omega) (by omega) (by omega) (by omega) (by omega) (by omega) (by omega) (by omega) (by omega) (by omega) _ _ ls hP hD hS (lv_sub hl [1, 2, 3, 0, 4, 5] rfl)
          · refine lv_iconst (v := 1) hx hb d_M_tags_57 (by decide) ?_
            refine lv_goto (tgt := 62) hx hb d_M_tags_58 (by decide) ?_
            refine lv_istore (lv' := [(5, .int 1), (2, .int fg), (3, .int cp), (4, .int fl), (0, .ref (h 0)), (1, .int w)]) hx hb d_M_tags_62 hl (by decide) rfl (fun ls hl => ?_)
            have hc_1 : Int32.toInt 1 = 1 := by decide
            exact ih.2.2.1 fg cp fl 1 sa so pl fa op si le tx st rq v_0 (by omega) (by omega) (by omega) (by omega) (by omega) (by omega) (by omega) (by omega) (by omega) (by omega) (by omega) (by omega) _ _ ls hP hD hS (lv_sub hl [1, 2, 3, 0, 4, 5] rfl)
    · intro fg cp fl cy sa so pl fa op si le tx st rq v_0 v_1 v_2 v_3 v_4 v_5 v_6 v_7 v_8 v_9 v_10 v_11 hm H locs ls hP hD hS hl
      refine lv_iload hx hb d_M_tags_64 (lv_at hl 2 rfl) ?_
      refine lv_if_ne (tgt := 78) hx hb d_M_tags_66 (by decide) (fun c_18 => ?_) (fun c_18 => ?_)
      · refine lv_aload_n hx hb d_M_tags_78 rfl (lv_at hl 4 rfl) ?_
        refine lv_iload hx hb d_M_tags_79 (lv_at hl 2 rfl) ?_
        refine lv_if_eq (tgt := 89) hx hb d_M_tags_81 (by decide) (fun c_19 => ?_) (fun c_19 => ?_)
        · refine lv_bipush (v := 8) hx hb d_M_tags_89 (by decide) ?_
          have hc_8 : Int32.toInt 8 = 8 := by decide
          have hFc := va_free (wc := (ME h g ss sa so pl si fa li co st rq bl te op wo wz sr le tx ro)) hD hS hA [0, 1, 2, 3, 4, 5, 6] rfl
          refine va_callv (va_runV (As := [.int 8]) (rest := []) ⟨hx, hb, hml, hown, ht⟩ (c_M_needs l dC dI k h g ss sa so pl si fa li co st rq bl te op wo le wz sr tx ro 8 _ (by omega) (by omega) (by omega) (by omega) (by omega)) (cwV 1 ht (g_V k_811 k_813 k_62 k_80 k_814) rfl rfl rfl (by decide +kernel) ⟨(Nat.le_of_ble_eq_true rfl), (Nat.le_of_ble_eq_true rfl)⟩) ⟨fb_X, va_recv hK hP (ci := 4) (q0 := 0) rfl rfl, pre_X hE hS hFc hP hK hD⟩ rfl rfl hl.1 rfl (lv_room (Nat.le_of_ble_eq_true rfl)) d_M_tags_91 ⟨(Nat.le_of_ble_eq_true rfl), (Nat.le_of_ble_eq_true rfl)⟩) hS (fun q _ h9 => hFc q h9) hFc (fun u_23 t H locs het hvm hw hB hz1 hk1 hS => ?_)
          obtain ⟨so_20, fa_21, op_22⟩ := u_23
          try dsimp only at hw
          obtain ⟨p_25, p_26, p_27, p_28, p_29⟩ := hw
          obtain ⟨hP1, hK1, hD1⟩ := hB
          rw [het] at hP1
          have hP : va_P (dC, dI) cls (ME h g ss sa so_20 pl si fa_21 li co st rq bl te op_22 wo wz sr le tx ro) H := hP1
          have hD : va_D A (ME h g ss sa so_20 pl si fa_21 li co st rq bl te op_22 wo wz sr le tx ro) := hD1.weaken (fun _ _ _ h9 => hFc _ h9)
          refine lv_aload_n hx hb d_M_tags_94 rfl (lv_at hl 4 rfl) ?_
          have hFc := va_free (wc := (ME h g ss sa so_20 pl si fa_21 li co st rq bl te op_22 wo wz sr le tx ro)) hD hS hA [0, 1, 2, 3, 4, 5, 6] rfl
          refine va_callv (va_runV (As := []) (rest := []) ⟨hx, hb, hml, hown, ht⟩ (c_M_next l dC dI k h g ss sa so_20 pl si fa_21 li co st rq bl te op_22 wo le wz sr tx ro  _ (by omega) (by omega) (by omega) (by omega) (by omega) (by omega) (by omega) (by omega) (by omega) (by omega) (by omega)) (cwV 0 ht (g_V k_694 k_696 k_37 k_80 k_697) rfl rfl rfl (by decide +kernel) ⟨(Nat.le_of_ble_eq_true rfl), (Nat.le_of_ble_eq_true rfl)⟩) ⟨fb_X, va_recv hK hP (ci := 4) (q0 := 0) rfl rfl, pre_X hE hS hFc hP hK hD⟩ rfl rfl hl.1 rfl (lv_room (Nat.le_of_ble_eq_true rfl)) d_M_tags_95 ⟨(Nat.le_of_ble_eq_true rfl), (Nat.le_of_ble_eq_true rfl)⟩) hS (fun q _ h9 => hFc q h9) hFc (fun u_38 t H locs het hvm hw hB hz1 hk1 hS => ?_)
          obtain ⟨sa_30, so_31, pl_32, fa_33, op_34, si_35, le_36, tx_37⟩ := u_38
          try dsimp only at hw
          obtain ⟨p_40, p_41, p_42, p_43, p_44, p_45, p_46, p_47, p_48, p_49, p_50⟩ := hw
          obtain ⟨hP1, hK1, hD1⟩ := hB
          rw [het] at hP1
          have hP : va_P (dC, dI) cls (ME h g ss sa_30 so_31 pl_32 si_35 fa_33 li co st rq bl te op_34 wo wz sr le_36 tx_37 ro) H := hP1
          have hD : va_D A (ME h g ss sa_30 so_31 pl_32 si_35 fa_33 li co st rq bl te op_34 wo wz sr le_36 tx_37 ro) := hD1.weaken (fun _ _ _ h9 => hFc _ h9)
          have rl_51 := p_50.resolve_right (by omega)
          have rl_52 := rRS p_28 rl_51
          obtain ⟨ym_53a, ym_53b⟩ := PS.yd rl_52 (by omega)
          exact ih.2.2.2.1 fg cp fl cy sa_30 so_31 pl_32 fa_33 op_34 si_35 le_36 tx_37 st rq (rRS v_0 rl_52).pr (by omega) (by omega) (by omega) (by omega) (by omega) (by omega) (by omega) (by omega) (by omega) (by omega) _ _ ls hP hD hS (lv_sub hl [0, 1, 2, 3, 4, 5] rfl)
        · refine lv_bipush (v := 16) hx hb d_M_tags_84 (by decide) ?_
          refine lv_goto (tgt := 91) hx hb d_M_tags_86 (by decide) ?_
          have hc_16 : Int32.toInt 16 = 16 := by decide
          have hFc := va_free (wc := (ME h g ss sa so pl si fa li co st rq bl te op wo wz sr le tx ro)) hD hS hA [0, 1, 2, 3, 4, 5, 6] rfl
          refine va_callv (va_runV (As := [.int 16]) (rest := []) ⟨hx, hb, hml, hown, ht⟩ (c_M_needs l dC dI k h g ss sa so pl si fa li co st rq bl te op wo le wz sr tx ro 16 _ (by omega) (by omega) (by omega) (by omega) (by omega)) (cwV 1 ht (g_V k_811 k_813 k_62 k_80 k_814) rfl rfl rfl (by decide +kernel) ⟨(Nat.le_of_ble_eq_true rfl), (Nat.le_of_ble_eq_true rfl)⟩) ⟨fb_X, va_recv hK hP (ci := 4) (q0 := 0) rfl rfl, pre_X hE hS hFc hP hK hD⟩ rfl rfl hl.1 rfl (lv_room (Nat.le_of_ble_eq_true rfl)) d_M_tags_91 ⟨(Nat.le_of_ble_eq_true rfl), (Nat.le_of_ble_eq_true rfl)⟩) hS (fun q _ h9 => hFc q h9) hFc (fun u_57 t H locs het hvm hw hB hz1 hk1 hS => ?_)
          obtain ⟨so_54, fa_55, op_56⟩ := u_57
          try dsimp only at hw
          obtain ⟨p_59, p_60, p_61, p_62, p_63⟩ := hw
          obtain ⟨hP1, hK1, hD1⟩ := hB
          rw [het] at hP1
          have hP : va_P (dC, dI) cls (ME h g ss sa so_54 pl si fa_55 li co st rq bl te op_56 wo wz sr le tx ro) H := hP1
          have hD : va_D A (ME h g ss sa so_54 pl si fa_55 li co st rq bl te op_56 wo wz sr le tx ro) := hD1.weaken (fun _ _ _ h9 => hFc _ h9)
          refine lv_aload_n hx hb d_M_tags_94 rfl (lv_at hl 4 rfl) ?_
          have hFc := va_free (wc := (ME h g ss sa so_54 pl si fa_55 li co st rq bl te op_56 wo wz sr le tx ro)) hD hS hA [0, 1, 2, 3, 4, 5, 6] rfl
          refine va_callv (va_runV (As := []) (rest := []) ⟨hx, hb, hml, hown, ht⟩ (c_M_next l dC dI k h g ss sa so_54 pl si fa_55 li co st rq bl te op_56 wo le wz sr tx ro  _ (by omega) (by omega) (by omega) (by omega) (by omega) (by omega) (by omega) (by omega) (by omega) (by omega) (by omega)) (cwV 0 ht (g_V k_694 k_696 k_37 k_80 k_697) rfl rfl rfl (by decide +kernel) ⟨(Nat.le_of_ble_eq_true rfl), (Nat.le_of_ble_eq_true rfl)⟩) ⟨fb_X, va_recv hK hP (ci := 4) (q0 := 0) rfl rfl, pre_X hE hS hFc hP hK hD⟩ rfl rfl hl.1 rfl (lv_room (Nat.le_of_ble_eq_true rfl)) d_M_tags_95 ⟨(Nat.le_of_ble_eq_true rfl), (Nat.le_of_ble_eq_true rfl)⟩) hS (fun q _ h9 => hFc q h9) hFc (fun u_72 t H locs het hvm hw hB hz1 hk1 hS => ?_)
          obtain ⟨sa_64, so_65, pl_66, fa_67, op_68, si_69, le_70, tx_71⟩ := u_72
          try dsimp only at hw
          obtain ⟨p_74, p_75, p_76, p_77, p_78, p_79, p_80, p_81, p_82, p_83, p_84⟩ := hw
          obtain ⟨hP1, hK1, hD1⟩ := hB
          rw [het] at hP1
          have hP : va_P (dC, dI) cls (ME h g ss sa_64 so_65 pl_66 si_69 fa_67 li co st rq bl te op_68 wo wz sr le_70 tx_71 ro) H := hP1
          have hD : va_D A (ME h g ss sa_64 so_65 pl_66 si_69 fa_67 li co st rq bl te op_68 wo wz sr le_70 tx_71 ro) := hD1.weaken (fun _ _ _ h9 => hFc _ h9)
          have rl_85 := p_84.resolve_right (by omega)
          have rl_86 := rRS p_62 rl_85
          obtain ⟨ym_87a, ym_87b⟩ := PS.yd rl_86 (by omega)
          exact ih.2.2.2.1 fg cp fl cy sa_64 so_65 pl_66 fa_67 op_68 si_69 le_70 tx_71 st rq (rRS v_0 rl_86).pr (by omega) (by omega) (by omega) (by omega) (by omega) (by omega) (by omega) (by omega) (by omega) (by omega) _ _ ls hP hD hS (lv_sub hl [0, 1, 2, 3, 4, 5] rfl)
      · refine lv_iload hx hb d_M_tags_69 (lv_at hl 3 rfl) ?_
        refine lv_if_ne (tgt := 78) hx hb d_M_tags_71 (by decide) (fun c_88 => ?_) (fun c_88 => ?_)
        · refine lv_aload_n hx hb d_M_tags_78 rfl (lv_at hl 4 rfl) ?_
          refine lv_iload hx hb d_M_tags_79 (lv_at hl 2 rfl) ?_
          refine lv_if_eq (tgt := 89) hx hb d_M_tags_81 (by decide) (fun c_89 => ?_) (fun c_89 => ?_)
          · refine lv_bipush (v := 8) hx hb d_M_tags_89 (by decide) ?_
            have hc_8 : Int32.toInt 8 = 8 := by decide
            have hFc := va_free (wc := (ME h g ss sa so pl si fa li co st rq bl te op wo wz sr le tx ro)) hD hS hA [0, 1, 2, 3, 4, 5, 6] rfl
            refine va_callv (va_runV (As := [.int 8]) (rest := []) ⟨hx, hb, hml, hown, ht⟩ (c_M_needs l dC dI k h g ss sa so pl si fa li co st rq bl te op wo le wz sr tx ro 8 _ (by omega) (by omega) (by omega) (by omega) (by omega)) (cwV 1 ht (g_V k_811 k_813 k_62 k_80 k_814) rfl rfl rfl (by decide +kernel) ⟨(Nat.le_of_ble_eq_true rfl), (Nat.le_of_ble_eq_true rfl)⟩) ⟨fb_X, va_recv hK hP (ci := 4) (q0 := 0) rfl rfl, pre_X hE hS hFc hP hK hD⟩ rfl rfl hl.1 rfl (lv_room (Nat.le_of_ble_eq_true rfl)) d_M_tags_91 ⟨(Nat.le_of_ble_eq_true rfl), (Nat.le_of_ble_eq_true rfl)⟩) hS (fun q _ h9 => hFc q h9) hFc (fun u_93 t H locs het hvm hw hB hz1 hk1 hS => ?_)
            obtain ⟨so_90, fa_91, op_92⟩ := u_93
            try dsimp only at hw
            obtain ⟨p_95, p_96, p_97, p_98, p_99⟩ := hw
            obtain ⟨hP1, hK1, hD1⟩ := hB
            rw [het] at hP1
            have hP : va_P (dC, dI) cls (ME h g ss sa so_90 pl si fa_91 li co st rq bl te op_92 wo wz sr le tx ro) H := hP1
            have hD : va_D A (ME h g ss sa so_90 pl si fa_91 li co st rq bl te op_92 wo wz sr le tx ro) := hD1.weaken (fun _ _ _ h9 => hFc _ h9)
            refine lv_aload_n hx hb d_M_tags_94 rfl (lv_at hl 4 rfl) ?_
            have hFc := va_free (wc := (ME h g ss sa so_90 pl si fa_91 li co st rq bl te op_92 wo wz sr le tx ro)) hD hS hA [0, 1, 2, 3, 4, 5, 6] rfl
            refine va_callv (va_runV (As := []) (rest := []) ⟨hx, hb, hml, hown, ht⟩ (c_M_next l dC dI k h g ss sa so_90 pl si fa_91 li co st rq bl te op_92 wo le wz sr tx ro  _ (by omega) (by omega) (by omega) (by omega) (by omega) (by omega) (by omega) (by omega) (by omega) (by omega) (by omega)) (cwV 0 ht (g_V k_694 k_696 k_37 k_80 k_697) rfl rfl rfl (by decide +kernel) ⟨(Nat.le_of_ble_eq_true rfl), (Nat.le_of_ble_eq_true rfl)⟩) ⟨fb_X, va_recv hK hP (ci := 4) (q0 := 0) rfl rfl, pre_X hE hS hFc hP hK hD⟩ rfl rfl hl.1 rfl (lv_room (Nat.le_of_ble_eq_true rfl)) d_M_tags_95 ⟨(Nat.le_of_ble_eq_true rfl), (Nat.le_of_ble_eq_true rfl)⟩) hS (fun q _ h9 => hFc q h9) hFc (fun u_108 t H locs het hvm hw hB hz1 hk1 hS => ?_)
            obtain ⟨sa_100, so_101, pl_102, fa_103, op_104, si_105, le_106, tx_107⟩ := u_108
            try dsimp only at hw
            obtain ⟨p_110, p_111, p_112, p_113, p_114, p_115, p_116, p_117, p_118, p_119, p_120⟩ := hw
            obtain ⟨hP1, hK1, hD1⟩ := hB
            rw [het] at hP1
            have hP : va_P (dC, dI) cls (ME h g ss sa_100 so_101 pl_102 si_105 fa_103 li co st rq bl te op_104 wo wz sr le_106 tx_107 ro) H := hP1
            have hD : va_D A (ME h g ss sa_100 so_101 pl_102 si_105 fa_103 li co st rq bl te op_104 wo wz sr le_106 tx_107 ro) := hD1.weaken (fun _ _ _ h9 => hFc _ h9)
            have rl_121 := p_120.resolve_right (by omega)
            have rl_122 := rRS p_98 rl_121
            obtain ⟨ym_123a, ym_123b⟩ := PS.yd rl_122 (by omega)
            exact ih.2.2.2.1 fg cp fl cy sa_100 so_101 pl_102 fa_103 op_104 si_105 le_106 tx_107 st rq (rRS v_0 rl_122).pr (by omega) (by omega) (by omega) (by omega) (by omega) (by omega) (by omega) (by omega) (by omega) (by omega) _ _ ls hP hD hS (lv_sub hl [0, 1, 2, 3, 4, 5] rfl)
          · refine lv_bipush (v := 16) hx hb d_M_tags_84 (by decide) ?_
            refine lv_goto (tgt := 91) hx hb d_M_tags_86 (by decide) ?_
            have hc_16 : Int32.toInt 16 = 16 := by decide
            have hFc := va_free (wc := (ME h g ss sa so pl si fa li co st rq bl te op wo wz sr le tx ro)) hD hS hA [0, 1, 2, 3, 4, 5, 6] rfl
            refine va_callv (va_runV (As := [.int 16]) (rest := []) ⟨hx, hb, hml, hown, ht⟩ (c_M_needs l dC dI k h g ss sa so pl si fa li co st rq bl te op wo le wz sr tx ro 16 _ (by omega) (by omega) (by omega) (by omega) (by omega)) (cwV 1 ht (g_V k_811 k_813 k_62 k_80 k_814) rfl rfl rfl (by decide +kernel) ⟨(Nat.le_of_ble_eq_true rfl), (Nat.le_of_ble_eq_true rfl)⟩) ⟨fb_X, va_recv hK hP (ci := 4) (q0 := 0) rfl rfl, pre_X hE hS hFc hP hK hD⟩ rfl rfl hl.1 rfl (lv_room (Nat.le_of_ble_eq_true rfl)) d_M_tags_91 ⟨(Nat.le_of_ble_eq_true rfl), (Nat.le_of_ble_eq_true rfl)⟩) hS (fun q _ h9 => hFc q h9) hFc (fun u_127 t H locs het hvm hw hB hz1 hk1 hS => ?_)
            obtain ⟨so_124, fa_125, op_126⟩ := u_127
            try dsimp only at hw
            obtain ⟨p_129, p_130, p_131, p_132, p_133⟩ := hw
            obtain ⟨hP1, hK1, hD1⟩ := hB
            rw [het] at hP1
            have hP : va_P (dC, dI) cls (ME h g ss sa so_124 pl si fa_125 li co st rq bl te op_126 wo wz sr le tx ro) H := hP1
            have hD : va_D A (ME h g ss sa so_124 pl si fa_125 li co st rq bl te op_126 wo wz sr le tx ro) := hD1.weaken (fun _ _ _ h9 => hFc _ h9)
            refine lv_aload_n hx hb d_M_tags_94 rfl (lv_at hl 4 rfl) ?_
            have hFc := va_free (wc := (ME h g ss sa so_124 pl si fa_125 li co st rq bl te op_126 wo wz sr le tx ro)) hD hS hA [0, 1, 2, 3, 4, 5, 6] rfl
            refine va_callv (va_runV (As := []) (rest := []) ⟨hx, hb, hml, hown, ht⟩ (c_M_next l dC dI k h g ss sa so_124 pl si fa_125 li co st rq bl te op_126 wo le wz sr tx ro  _ (by omega) (by omega) (by omega) (by omega) (by omega) (by omega) (by omega) (by omega) (by omega) (by omega) (by omega)) (cwV 0 ht (g_V k_694 k_696 k_37 k_80 k_697) rfl rfl rfl (by decide +kernel) ⟨(Nat.le_of_ble_eq_true rfl), (Nat.le_of_ble_eq_true rfl)⟩) ⟨fb_X, va_recv hK hP (ci := 4) (q0 := 0) rfl rfl, pre_X hE hS hFc hP hK hD⟩ rfl rfl hl.1 rfl (lv_room (Nat.le_of_ble_eq_true rfl)) d_M_tags_95 ⟨(Nat.le_of_ble_eq_true rfl), (Nat.le_of_ble_eq_true rfl)⟩) hS (fun q _ h9 => hFc q h9) hFc (fun u_142 t H locs het hvm hw hB hz1 hk1 hS => ?_)
            obtain ⟨sa_134, so_135, pl_136, fa_137, op_138, si_139, le_140, tx_141⟩ := u_142
            try dsimp only at hw
            obtain ⟨p_144, p_145, p_146, p_147, p_148, p_149, p_150, p_151, p_152, p_153, p_154⟩ := hw
            obtain ⟨hP1, hK1, hD1⟩ := hB
            rw [het] at hP1
            have hP : va_P (dC, dI) cls (ME h g ss sa_134 so_135 pl_136 si_139 fa_137 li co st rq bl te op_138 wo wz sr le_140 tx_141 ro) H := hP1
            have hD : va_D A (ME h g ss sa_134 so_135 pl_136 si_139 fa_137 li co st rq bl te op_138 wo wz sr le_140 tx_141 ro) := hD1.weaken (fun _ _ _ h9 => hFc _ h9)
            have rl_155 := p_154.resolve_right (by omega)
            have rl_156 := rRS p_132 rl_155
            obtain ⟨ym_157a, ym_157b⟩ := PS.yd rl_156 (by omega)
            exact ih.2.2.2.1 fg cp fl cy sa_134 so_135 pl_136 fa_137 op_138 si_139 le_140 tx_141 st rq (rRS v_0 rl_156).pr (by omega) (by omega) (by omega) (by omega) (by omega) (by omega) (by omega) (by omega) (by omega) (by omega) _ _ ls hP hD hS (lv_sub hl [0, 1, 2, 3, 4, 5] rfl)
        · refine lv_aload_n hx hb d_M_tags_74 rfl (lv_at hl 4 rfl) ?_
          have hFc := va_free (wc := (ME h g ss sa so pl si fa li co st rq bl te op wo wz sr le tx ro)) hD hS hA [0, 1, 2, 3, 4, 5, 6] rfl
          refine va_callv (va_runV (As := []) (rest := []) ⟨hx, hb, hml, hown, ht⟩ (c_M_fail l dC dI k h g ss sa so pl si fa li co st rq bl te op wo le wz sr tx ro  _ (by omega) (by omega) (by omega) (by omega)) (cwV 0 ht (g_V k_763 k_765 k_50 k_80 k_766) rfl rfl rfl (by decide +kernel) ⟨(Nat.le_of_ble_eq_true rfl), (Nat.le_of_ble_eq_true rfl)⟩) ⟨fb_X, va_recv hK hP (ci := 4) (q0 := 0) rfl rfl, pre_X hE hS hFc hP hK hD⟩ rfl rfl hl.1 rfl (lv_room (Nat.le_of_ble_eq_true rfl)) d_M_tags_75 ⟨(Nat.le_of_ble_eq_true rfl), (Nat.le_of_ble_eq_true rfl)⟩) hS (fun q _ h9 => hFc q h9) hFc (fun u_161 t H locs het hvm hw hB hz1 hk1 hS => ?_)
          obtain ⟨so_158, fa_159, op_160⟩ := u_161
          try dsimp only at hw
          obtain ⟨p_163, p_164, p_165, p_166, p_167, p_168⟩ := hw
          obtain ⟨hP1, hK1, hD1⟩ := hB
          rw [het] at hP1
          have hP : va_P (dC, dI) cls (ME h g ss sa so_158 pl si fa_159 li co st rq bl te op_160 wo wz sr le tx ro) H := hP1
          have hD : va_D A (ME h g ss sa so_158 pl si fa_159 li co st rq bl te op_160 wo wz sr le tx ro) := hD1.weaken (fun _ _ _ h9 => hFc _ h9)
          have rl_169 : PS ss sa so fa op sa so_158 fa_159 op_160 := pr_out (by omega) (by omega) (by omega) _ _ _ _ (by omega)
          refine lv_aload_n hx hb d_M_tags_78 rfl (lv_at hl 4 rfl) ?_
          refine lv_iload hx hb d_M_tags_79 (lv_at hl 2 rfl) ?_
          refine lv_if_eq (tgt := 89) hx hb d_M_tags_81 (by decide) (fun c_170 => ?_) (fun c_170 => ?_)
          · refine lv_bipush (v := 8) hx hb d_M_tags_89 (by decide) ?_
            have hc_8 : Int32.toInt 8 = 8 := by decide
            have hFc := va_free (wc := (ME h g ss sa so_158 pl si fa_159 li co st rq bl te op_160 wo wz sr le tx ro)) hD hS hA [0, 1, 2, 3, 4, 5, 6] rfl
            refine va_callv (va_runV (As := [.int 8]) (rest := []) ⟨hx, hb, hml, hown, ht⟩ (c_M_needs l dC dI k h g ss sa so_158 pl si fa_159 li co st rq bl te op_160 wo le wz sr tx ro 8 _ (by omega) (by omega) (by omega) (by omega) (by omega)) (cwV 1 ht (g_V k_811 k_813 k_62 k_80 k_814) rfl rfl rfl (by decide +kernel) ⟨(Nat.le_of_ble_eq_true rfl), (Nat.le_of_ble_eq_true rfl)⟩) ⟨fb_X, va_recv hK hP (ci := 4) (q0 := 0) rfl rfl, pre_X hE hS hFc hP hK hD⟩ rfl rfl hl.1 rfl (lv_room (Nat.le_of_ble_eq_true rfl)) d_M_tags_91 ⟨(Nat.le_of_ble_eq_true rfl), (Nat.le_of_ble_eq_true rfl)⟩) hS (fun q _ h9 => hFc q h9) hFc (fun u_174 t H locs het hvm hw hB hz1 hk1 hS => ?_)
            obtain ⟨so_171, fa_172, op_173⟩ := u_174
            try dsimp only at hw
            obtain ⟨p_176, p_177, p_178, p_179, p_180⟩ := hw
            obtain ⟨hP1, hK1, hD1⟩ := hB
            rw [het] at hP1
            have hP : va_P (dC, dI) cls (ME h g ss sa so_171 pl si fa_172 li co st rq bl te op_173 wo wz sr le tx ro) H := hP1
            have hD : va_D A (ME h g ss sa so_171 pl si fa_172 li co st rq bl te op_173 wo wz sr le tx ro) := hD1.weaken (fun _ _ _ h9 => hFc _ h9)
            have rl_181 := rSR rl_169 p_179
            refine lv_aload_n hx hb d_M_tags_94 rfl (lv_at hl 4 rfl) ?_
            have hFc := va_free (wc := (ME h g ss sa so_171 pl si fa_172 li co st rq bl te op_173 wo wz sr le tx ro)) hD hS hA [0, 1, 2, 3, 4, 5, 6] rfl
            refine va_callv (va_runV (As := []) (rest := []) ⟨hx, hb, hml, hown, ht⟩ (c_M_next l dC dI k h g ss sa so_171 pl si fa_172 li co st rq bl te op_173 wo le wz sr tx ro  _ (by omega) (by omega) (by omega) (by omega) (by omega) (by omega) (by omega) (by omega) (by omega) (by omega) (by omega)) (cwV 0 ht (g_V k_694 k_696 k_37 k_80 k_697) rfl rfl rfl (by decide +kernel) ⟨(Nat.le_of_ble_eq_true rfl), (Nat.le_of_ble_eq_true rfl)⟩) ⟨fb_X, va_recv hK hP (ci := 4) (q0 := 0) rfl rfl, pre_X hE hS hFc hP hK hD⟩ rfl rfl hl.1 rfl (lv_room (Nat.le_of_ble_eq_true rfl)) d_M_tags_95 ⟨(Nat.le_of_ble_eq_true rfl), (Nat.le_of_ble_eq_true rfl)⟩) hS (fun q _ h9 => hFc q h9) hFc (fun u_190 t H locs het hvm hw hB hz1 hk1 hS => ?_)
            obtain ⟨sa_182, so_183, pl_184, fa_185, op_186, si_187, le_188, tx_189⟩ := u_190
            try dsimp only at hw
            obtain ⟨p_192, p_193, p_194, p_195, p_196, p_197, p_198, p_199, p_200, p_201, p_202⟩ := hw
            obtain ⟨hP1, hK1, hD1⟩ := hB
            rw [het] at hP1
            have hP : va_P (dC, dI) cls (ME h g ss sa_182 so_183 pl_184 si_187 fa_185 li co st rq bl te op_186 wo wz sr le_188 tx_189 ro) H := hP1
            have hD : va_D A (ME h g ss sa_182 so_183 pl_184 si_187 fa_185 li co st rq bl te op_186 wo wz sr le_188 tx_189 ro) := hD1.weaken (fun _ _ _ h9 => hFc _ h9)
            have rl_203 := p_202.resolve_right (by omega)
            have rl_204 := rSS rl_181 rl_203
            obtain ⟨ym_205a, ym_205b⟩ := PS.yd rl_204 (by omega)
            exact ih.2.2.2.1 fg cp fl cy sa_182 so_183 pl_184 fa_185 op_186 si_187 le_188 tx_189 st rq (rRS v_0 rl_204).pr (by omega) (by omega) (by omega) (by omega) (by omega) (by omega) (by omega) (by omega) (by omega) (by omega) _ _ ls hP hD hS (lv_sub hl [0, 1, 2, 3, 4, 5] rfl)
          · refine lv_bipush (v := 16) hx hb d_M_tags_84 (by decide) ?_
            refine lv_goto (tgt := 91) hx hb d_M_tags_86 (by decide) ?_
            have hc_16 : Int32.toInt 16 = 16 := by decide
            have hFc := va_free (wc := (ME h g ss sa so_158 pl si fa_159 li co st rq bl te op_160 wo wz sr le tx ro)) hD hS hA [0, 1, 2, 3, 4, 5, 6] rfl
            refine va_callv (va_runV (As := [.int 16]) (rest := []) ⟨hx, hb, hml, hown, ht⟩ (c_M_needs l dC dI k h g ss sa so_158 pl si fa_159 li co st rq bl te op_160 wo le wz sr tx ro 16 _ (by omega) (by omega) (by omega) (by omega) (by omega)) (cwV 1 ht (g_V k_811 k_813 k_62 k_80 k_814) rfl rfl rfl (by decide +kernel) ⟨(Nat.le_of_ble_eq_true rfl), (Nat.le_of_ble_eq_true rfl)⟩) ⟨fb_X, va_recv hK hP (ci := 4) (q0 := 0) rfl rfl, pre_X hE hS hFc hP hK hD⟩ rfl rfl hl.1 rfl (lv_room (Nat.le_of_ble_eq_true rfl)) d_M_tags_91 ⟨(Nat.le_of_ble_eq_true rfl), (Nat.le_of_ble_eq_true rfl)⟩) hS (fun q _ h9 => hFc q h9) hFc (fun u_209 t H locs het hvm hw hB hz1 hk1 hS => ?_)
            obtain ⟨so_206, fa_207, op_208⟩ := u_209
            try dsimp only at hw
            obtain ⟨p_211, p_212, p_213, p_214, p_215⟩ := hw
            obtain ⟨hP1, hK1, hD1⟩ := hB
            rw [het] at hP1
            have hP : va_P (dC, dI) cls (ME h g ss sa so_206 pl si fa_207 li co st rq bl te op_208 wo wz sr le tx ro) H := hP1
            have hD : va_D A (ME h g ss sa so_206 pl si fa_207 li co st rq bl te op_208 wo wz sr le tx ro) := hD1.weaken (fun _ _ _ h9 => hFc _ h9)
            have rl_216 := rSR rl_169 p_214
            refine lv_aload_n hx hb d_M_tags_94 rfl (lv_at hl 4 rfl) ?_
            have hFc := va_free (wc := (ME h g ss sa so_206 pl si fa_207 li co st rq bl te op_208 wo wz sr le tx ro)) hD hS hA [0, 1, 2, 3, 4, 5, 6] rfl
            refine va_callv (va_runV (As := []) (rest := []) ⟨hx, hb, hml, hown, ht⟩ (c_M_next l dC dI k h g ss sa so_206 pl si fa_207 li co st rq bl te op_208 wo le wz sr tx ro  _ (by omega) (by omega) (by omega) (by omega) (by omega) (by omega) (by omega) (by omega) (by omega) (by omega) (by omega)) (cwV 0 ht (g_V k_694 k_696 k_37 k_80 k_697) rfl rfl rfl (by decide +kernel) ⟨(Nat.le_of_ble_eq_true rfl), (Nat.le_of_ble_eq_true rfl)⟩) ⟨fb_X, va_recv hK hP (ci := 4) (q0 := 0) rfl rfl, pre_X hE hS hFc hP hK hD⟩ rfl rfl hl.1 rfl (lv_room (Nat.le_of_ble_eq_true rfl)) d_M_tags_95 ⟨(Nat.le_of_ble_eq_true rfl), (Nat.le_of_ble_eq_true rfl)⟩) hS (fun q _ h9 => hFc q h9) hFc (fun u_225 t H locs het hvm hw hB hz1 hk1 hS => ?_)
            obtain ⟨sa_217, so_218, pl_219, fa_220, op_221, si_222, le_223, tx_224⟩ := u_225
            try dsimp only at hw
            obtain ⟨p_227, p_228, p_229, p_230, p_231, p_232, p_233, p_234, p_235, p_236, p_237⟩ := hw
            obtain ⟨hP1, hK1, hD1⟩ := hB
            rw [het] at hP1
            have hP : va_P (dC, dI) cls (ME h g ss sa_217 so_218 pl_219 si_222 fa_220 li co st rq bl te op_221 wo wz sr le_223 tx_224 ro) H := hP1
            have hD : va_D A (ME h g ss sa_217 so_218 pl_219 si_222 fa_220 li co st rq bl te op_221 wo wz sr le_223 tx_224 ro) := hD1.weaken (fun _ _ _ h9 => hFc _ h9)
            have rl_238 := p_237.resolve_right (by omega)
            have rl_239 := rSS rl_216 rl_238
            obtain ⟨ym_240a, ym_240b⟩ := PS.yd rl_239 (by omega)
            exact ih.2.2.2.1 fg cp fl cy sa_217 so_218 pl_219 fa_220 op_221 si_222 le_223 tx_224 st rq (rRS v_0 rl_239).pr (by omega) (by omega) (by omega) (by omega) (by omega) (by omega) (by omega) (by omega) (by omega) (by omega) _ _ ls hP hD hS (lv_sub hl [0, 1, 2, 3, 4, 5] rfl)
    · intro fg cp fl cy sa so pl fa op si le tx st rq v_0 v_1 v_2 v_3 v_4 v_5 v_6 v_7 v_8 v_9 hm H locs ls hP hD hS hl
      refine lv_iload_n hx hb d_M_tags_98 rfl (lv_at hl 0 rfl) ?_
      refine lv_if_ne (tgt := 107) hx hb d_M_tags_99 (by decide) (fun c_241 => ?_) (fun c_241 => ?_)
      · refine lv_iconst (v := 1) hx hb d_M_tags_107 (by decide) ?_
        refine lv_goto (tgt := 112) hx hb d_M_tags_108 (by decide) ?_
        refine lv_istore_n (lv' := [(2, .int 1), (3, .int cp), (4, .int fl), (5, .int cy), (0, .ref (h 0)), (1, .int w)]) hx hb d_M_tags_112 rfl hl (by decide) rfl (fun ls hl => ?_)
        have hc_1 : Int32.toInt 1 = 1 := by decide
        exact ih.2.2.2.2.1 1 cp fl cy sa so pl fa op si le tx st rq v_0 (by omega) (by omega) (by omega) (by omega) (by omega) (by omega) (by omega) (by omega) (by omega) (by omega) _ _ ls hP hD hS (lv_sub hl [0, 1, 2, 3, 4, 5] rfl)
      · refine lv_iload hx hb d_M_tags_102 (lv_at hl 2 rfl) ?_
        refine lv_if_eq (tgt := 111) hx hb d_M_tags_104 (by decide) (fun c_242 => ?_) (fun c_242 => ?_)
        · refine lv_iconst (v := 0) hx hb d_M_tags_111 (by decide) ?_
          refine lv_istore_n (lv' := [(2, .int 0), (3, .int cp), (4, .int fl), (5, .int cy), (0, .ref (h 0)), (1, .int w)]) hx hb d_M_tags_112 rfl hl (by decide) rfl (fun ls hl => ?_)
          have hc_0 : Int32.toInt 0 = 0 := by decide
          exact ih.2.2.2.2.1 0 cp fl cy sa so pl fa op si le tx st rq v_0 (by omega) (by omega) (by omega) (by omega) (by omega) (by omega) (by omega) (by omega) (by omega) (by omega) _ _ ls hP hD hS (lv_sub hl [0, 1, 2, 3, 4, 5] rfl)
        · refine lv_iconst (v := 1) hx hb d_M_tags_107 (by decide) ?_
          refine lv_goto (tgt := 112) hx hb d_M_tags_108 (by decide) ?_
          refine lv_istore_n (lv' := [(2, .int 1), (3, .int cp), (4, .int fl), (5, .int cy), (0, .ref (h 0)), (1, .int w)]) hx hb d_M_tags_112 rfl hl (by decide) rfl (fun ls hl => ?_)
          have hc_1 : Int32.toInt 1 = 1 := by decide
          exact ih.2.2.2.2.1 1 cp fl cy sa so pl fa op si le tx st rq v_0 (by omega) (by omega) (by omega) (by omega) (by omega) (by omega) (by omega) (by omega) (by omega) (by omega) _ _ ls hP hD hS (lv_sub hl [0, 1, 2, 3, 4, 5] rfl)
    · intro fg cp fl cy sa so pl fa op si le tx st rq v_0 v_1 v_2 v_3 v_4 v_5 v_6 v_7 v_8 v_9 hm H locs ls hP hD hS hl
      refine lv_iload_n hx hb d_M_tags_113 rfl (lv_at hl 1 rfl) ?_
      refine lv_if_ne (tgt := 122) hx hb d_M_tags_114 (by decide) (fun c_243 => ?_) (fun c_243 => ?_)
      · refine lv_iconst (v := 1) hx hb d_M_tags_122 (by decide) ?_
        refine lv_goto (tgt := 127) hx hb d_M_tags_123 (by decide) ?_
        refine lv_istore_n (lv' := [(3, .int 1), (2, .int fg), (4, .int fl), (5, .int cy), (0, .ref (h 0)), (1, .int w)]) hx hb d_M_tags_127 rfl hl (by decide) rfl (fun ls hl => ?_)
        have hc_1 : Int32.toInt 1 = 1 := by decide
        exact ih.2.2.2.2.2 fg 1 fl cy sa so pl fa op si le tx st rq v_0 (by omega) (by omega) (by omega) (by omega) (by omega) (by omega) (by omega) (by omega) (by omega) (by omega) _ _ ls hP hD hS (lv_sub hl [1, 0, 2, 3, 4, 5] rfl)
      · refine lv_iload hx hb d_M_tags_117 (lv_at hl 3 rfl) ?_
        refine lv_if_eq (tgt := 126) hx hb d_M_tags_119 (by decide) (fun c_244 => ?_) (fun c_244 => ?_)
        · refine lv_iconst (v := 0) hx hb d_M_tags_126 (by decide) ?_
          refine lv_istore_n (lv' := [(3, .int 0), (2, .int fg), (4, .int fl), (5, .int cy), (0, .ref (h 0)), (1, .int w)]) hx hb d_M_tags_127 rfl hl (by decide) rfl (fun ls hl => ?_)
          have hc_0 : Int32.toInt 0 = 0 := by decide
          exact ih.2.2.2.2.2 fg 0 fl cy sa so pl fa op si le tx st rq v_0 (by omega) (by omega) (by omega) (by omega) (by omega) (by omega) (by omega) (by omega) (by omega) (by omega) _ _ ls hP hD hS (lv_sub hl [1, 0, 2, 3, 4, 5] rfl)
        · refine lv_iconst (v := 1) hx hb d_M_tags_122 (by decide) ?_
          refine lv_goto (tgt := 127) hx hb d_M_tags_123 (by decide) ?_
          refine lv_istore_n (lv' := [(3, .int 1), (2, .int fg), (4, .int fl), (5, .int cy), (0, .ref (h 0)), (1, .int w)]) hx hb d_M_tags_127 rfl hl (by decide) rfl (fun ls hl => ?_)
          have hc_1 : Int32.toInt 1 = 1 := by decide
          exact ih.2.2.2.2.2 fg 1 fl cy sa so pl fa op si le tx st rq v_0 (by omega) (by omega) (by omega) (by omega) (by omega) (by omega) (by omega) (by omega) (by omega) (by omega) _ _ ls hP hD hS (lv_sub hl [1, 0, 2, 3, 4, 5] rfl)
    · intro fg cp fl cy sa so pl fa op si le tx st rq v_0 v_1 v_2 v_3 v_4 v_5 v_6 v_7 v_8 v_9 hm H locs ls hP hD hS hl
      refine lv_iload hx hb d_M_tags_128 (lv_at hl 2 rfl) ?_
      refine lv_if_eq (tgt := 138) hx hb d_M_tags_130 (by decide) (fun c_245 => ?_) (fun c_245 => ?_)
      · refine lv_goto (tgt := 4) hx hb d_M_tags_138 (by decide) ?_
        exact ih.1 fg cp sa so pl fa op si le tx st rq v_0 (by omega) (by omega) (by omega) (by omega) (by omega) (by omega) (by omega) (by omega) (by omega) (by omega) _ _ ls hP hD hS (lv_sub hl [0, 1, 4, 5] rfl)
      · refine lv_aload_n hx hb d_M_tags_133 rfl (lv_at hl 4 rfl) ?_
        refine lv_iconst (v := 0) hx hb d_M_tags_134 (by decide) ?_
        have hc_0 : Int32.toInt 0 = 0 := by decide
        have hFc := va_free (wc := (ME h g ss sa so pl si fa li co st rq bl te op wo wz sr le tx ro)) hD hS hA [0, 1, 2, 3, 4, 5, 6] rfl
        refine va_callv (va_runV (As := [.int 0]) (rest := []) ⟨hx, hb, hml, hown, ht⟩ (c_M_list l dC dI k h g ss sa so pl si fa li co st rq bl te op wo le wz sr tx ro 0 _ (by omega) (by omega) (by omega) (by omega) (by omega) (by omega) (by omega) (by omega) (by omega) (by omega) (by omega)) (cwV 1 ht (g_V k_775 k_777 k_53 k_80 k_778) rfl rfl rfl (by decide +kernel) ⟨(Nat.le_of_ble_eq_true rfl), (Nat.le_of_ble_eq_true rfl)⟩) ⟨fb_X, va_recv hK hP (ci := 4) (q0 := 0) rfl rfl, pre_X hE hS hFc hP hK hD⟩ rfl rfl hl.1 rfl (lv_room (Nat.le_of_ble_eq_true rfl)) d_M_tags_135 ⟨(Nat.le_of_ble_eq_true rfl), (Nat.le_of_ble_eq_true rfl)⟩) hS (fun q _ h9 => hFc q h9) hFc (fun u_256 t H locs het hvm hw hB hz1 hk1 hS => ?_)
        obtain ⟨sa_246, so_247, pl_248, fa_249, op_250, si_251, le_252, tx_253, st_254, rq_255⟩ := u_256
        try dsimp only at hw
        obtain ⟨p_258, p_259, p_260, p_261, p_262, p_263, p_264, p_265, p_266, p_267⟩ := hw
        obtain ⟨hP1, hK1, hD1⟩ := hB
        rw [het] at hP1
        have hP : va_P (dC, dI) cls (ME h g ss sa_246 so_247 pl_248 si_251 fa_249 li co st_254 rq_255 bl te op_250 wo wz sr le_252 tx_253 ro) H := hP1
        have hD : va_D A (ME h g ss sa_246 so_247 pl_248 si_251 fa_249 li co st_254 rq_255 bl te op_250 wo wz sr le_252 tx_253 ro) := hD1.weaken (fun _ _ _ h9 => hFc _ h9)
        refine lv_goto (tgt := 4) hx hb d_M_tags_138 (by decide) ?_
        obtain ⟨ym_268a, ym_268b⟩ := PS.yd p_267 (by omega)
        exact ih.1 fg cp sa_246 so_247 pl_248 fa_249 op_250 si_251 le_252 tx_253 st_254 rq_255 (rRS v_0 p_267).pr (by omega) (by omega) (by omega) (by omega) (by omega) (by omega) (by omega) (by omega) (by omega) (by omega) _ _ ls hP hD hS (lv_sub hl [0, 1, 4, 5] rfl)
set_option maxHeartbeats 4000000 in
set_option maxRecDepth 100000 in
theorem bd_M_tags_0 {p : Program} {l : Launch} {e : Env} {s : State} {m : MethodId} {args : Array Value} {below : List Frame} {meth : Method} {c : Code} {Q : State → Prop} {A : Nat → Prop} {dC : Nat → ClassId} {dI : Nat → Nat → Nat} {k h : Nat → Nat} {g : Nat → ClassId} {ss : Int32} {li : Int32} {co : Int32} {bl : Int32} {te : Int32} {wo : Nat → Int64} {wz : Nat → Int32} {sr : Nat → Int32} {ro : Nat → Int32} {sa0 : Int32} {so0 : Int32} {fa0 : Int32} {op0 : Int32} (hx : p.tables.exec = Jvm.exec) (hb : c.code = b_M_tags) (hml : c.maxLocals = 6) (hown : s.vm.findClass "SieveDeskModel" = some m.cls) (ht : ∀ w ∈ TT, w.before args s = true) (hE : KE k A s s.heap) (hA : ∀ q : Nat, s.heap.size ≤ q → A q) (hK : va_K (dC, dI) cls (TM g) s) {w : Int32} (h_0 : 0 ≤ Int32.toInt ss) (h_1 : Int32.toInt ss ≤ 400) (fin : ∀ (u : Int32 × Int32 × Int32 × Int32 × Int32 × Int32 × (Nat → Int64) × (Nat → Int32) × Int32 × Int32) (H : Heap) (locs : List Loc) (pc : Nat) (ls : Array Slot), decode b_M_tags pc = .ok (.return_, 1) → (0 ≤ Int32.toInt u.1 ∧ Int32.toInt u.1 ≤ Int32.toInt ss ∧ 0 ≤ Int32.toInt u.2.2.1 ∧ Int32.toInt u.2.2.1 ≤ 400 ∧ -1 ≤ Int32.toInt u.2.2.2.1 ∧ Int32.toInt u.2.2.2.1 ≤ 400 ∧ (Int32.toInt u.2.2.2.1 < 0 ∨ (Int32.toInt u.2.1 = 0 ∧ Int32.toInt u.2.2.2.2.1 = 0)) ∧ 0 ≤ Int32.toInt u.2.2.2.2.2.1 ∧ Int32.toInt u.2.2.2.2.2.1 ≤ 400 ∧ PR ss sa0 so0 fa0 op0 u.1 u.2.1 u.2.2.2.1 u.2.2.2.2.1) → va_P (dC, dI) cls (ME h g ss u.1 u.2.1 u.2.2.1 u.2.2.2.2.2.1 u.2.2.2.1 li co u.2.2.2.2.2.2.2.2.1 u.2.2.2.2.2.2.2.2.2 bl te u.2.2.2.2.1 wo wz sr u.2.2.2.2.2.2.1 u.2.2.2.2.2.2.2.1 ro) H → va_D A (ME h g ss u.1 u.2.1 u.2.2.1 u.2.2.2.2.2.1 u.2.2.2.1 li co u.2.2.2.2.2.2.2.2.1 u.2.2.2.2.2.2.2.2.2 bl te u.2.2.2.2.1 wo wz sr u.2.2.2.2.2.2.1 u.2.2.2.2.2.2.2.1 ro) → va_S A s.heap H locs → W p l e ({ frames := 7, cells := 0, slots := 0, locals := 151 } : Room) s m args below meth c H locs 0 0 Q (F0 m pc ls [])) : ∀ (sa : Int32) (so : Int32) (pl : Int32) (fa : Int32) (op : Int32) (si : Int32) (le : Nat → Int64) (tx : Nat → Int32) (st : Int32) (rq : Int32), sa = sa0 → so = so0 → fa = fa0 → op = op0 → 0 ≤ Int32.toInt sa → Int32.toInt sa ≤ Int32.toInt ss → 0 ≤ Int32.toInt pl → Int32.toInt pl ≤ 400 → -1 ≤ Int32.toInt fa → Int32.toInt fa ≤ 400 → (Int32.toInt fa < 0 ∨ (Int32.toInt so = 0 ∧ Int32.toInt op = 0)) → 0 ≤ Int32.toInt si → Int32.toInt si ≤ 400 → ∀ (H : Heap) (locs : List Loc) (ls : Array Slot), va_P (dC, dI) cls (ME h g ss sa so pl si fa li co st rq bl te op wo wz sr le tx ro) H → va_D A (ME h g ss sa so pl si fa li co st rq bl te op wo wz sr le tx ro) → va_S A s.heap H locs → lv_has ls 6 [(0, .ref (h 0)), (1, .int w)] → W p l e ({ frames := 7, cells := 0, slots := 0, locals := 151 } : Room) s m args below meth c H locs 0 0 Q (F0 m 0 ls []) := by
  intro sa so pl fa op si le tx st rq v_0 v_1 v_2 v_3 v_4 v_5 v_6 v_7 v_8 v_9 v_10 v_11 v_12 H locs ls hP hD hS hl
  subst v_0
  subst v_1
  subst v_2
  subst v_3
  refine lv_iconst (v := 0) hx hb d_M_tags_0 (by decide) ?_
  refine lv_istore_n (lv' := [(2, .int 0), (0, .ref (h 0)), (1, .int w)]) hx hb d_M_tags_1 rfl hl (by decide) rfl (fun ls hl => ?_)
  refine lv_iconst (v := 0) hx hb d_M_tags_2 (by decide) ?_
  refine lv_istore_n (lv' := [(3, .int 0), (2, .int 0), (0, .ref (h 0)), (1, .int w)]) hx hb d_M_tags_3 rfl hl (by decide) rfl (fun ls hl => ?_)
  have hc_0 : Int32.toInt 0 = 0 := by decide
  exact (lp_M_tags_g0 (w := w) hx hb hml hown ht hE hA hK h_0 h_1 fin _).1 0 0 sa so pl fa op si le tx st rq (PR.refl (by omega)) (by omega) (by omega) (by omega) (by omega) (by omega) (by omega) (by omega) (by omega) (by omega) (Nat.lt_succ_self _) _ _ ls hP hD hS (lv_sub hl [1, 0, 2, 3] rfl)
set_option maxHeartbeats 4000000 in
set_option maxRecDepth 100000 in
theorem c_M_tags (l : Launch) (dC : Nat → ClassId) (dI : Nat → Nat → Nat) (k : Nat → Nat) (h : Nat → Nat) (g : Nat → ClassId) (ss : Int32) (sa : Int32) (so : Int32) (pl : Int32) (si : Int32) (fa : Int32) (li : Int32) (co : Int32) (st : Int32) (rq : Int32) (bl : Int32) (te : Int32) (op : Int32) (wo : Nat → Int64) (le : Nat → Int64) (wz : Nat → Int32) (sr : Nat → Int32) (tx : Nat → Int32) (ro : Nat → Int32) (w : Int32) (sz : Nat) (h_0 : 0 ≤ Int32.toInt ss) (h_1 : Int32.toInt ss ≤ 400) (v_0 : 0 ≤ Int32.toInt sa) (v_1 : Int32.toInt sa ≤ Int32.toInt ss) (v_2 : 0 ≤ Int32.toInt pl) (v_3 : Int32.toInt pl ≤ 400) (v_4 : -1 ≤ Int32.toInt fa) (v_5 : Int32.toInt fa ≤ 400) (v_6 : Int32.toInt fa < 0 ∨ (Int32.toInt so = 0 ∧ Int32.toInt op = 0)) (v_7 : 0 ≤ Int32.toInt si) (v_8 : Int32.toInt si ≤ 400) : Met l y_M_tags (.code y_M_tags b_M_tags 6 none :: TT) ({ frames := 7, cells := 0, slots := 0, locals := 151 }) (va_Pc [.ref (h 0), .int w] (PX dC dI k (TM g) (ME h g ss sa so pl si fa li co st rq bl te op wo wz sr le tx ro) sz)) (va_Qv (fun u : Int32 × Int32 × Int32 × Int32 × Int32 × Int32 × (Nat → Int64) × (Nat → Int32) × Int32 × Int32 => 0 ≤ Int32.toInt u.1 ∧ Int32.toInt u.1 ≤ Int32.toInt ss ∧ 0 ≤ Int32.toInt u.2.2.1 ∧ Int32.toInt u.2.2.1 ≤ 400 ∧ -1 ≤ Int32.toInt u.2.2.2.1 ∧ Int32.toInt u.2.2.2.1 ≤ 400 ∧ (Int32.toInt u.2.2.2.1 < 0 ∨ (Int32.toInt u.2.1 = 0 ∧ Int32.toInt u.2.2.2.2.1 = 0)) ∧ 0 ≤ Int32.toInt u.2.2.2.2.2.1 ∧ Int32.toInt u.2.2.2.2.2.1 ≤ 400 ∧ PR ss sa so fa op u.1 u.2.1 u.2.2.2.1 u.2.2.2.2.1) (fun u t => BX dC dI (TM g) (va_A (ME h g ss sa so pl si fa li co st rq bl te op wo wz sr le tx ro) sz) (ME h g ss u.1 u.2.1 u.2.2.1 u.2.2.2.2.2.1 u.2.2.2.1 li co u.2.2.2.2.2.2.2.2.1 u.2.2.2.2.2.2.2.2.2 bl te u.2.2.2.2.1 wo wz sr u.2.2.2.2.2.2.1 u.2.2.2.2.2.2.2.1 ro) t) (va_A (ME h g ss sa so pl si fa li co st rq bl te op wo wz sr le tx ro) sz)) 0 0 (va_A (ME h g ss sa so pl si fa li co st rq bl te op wo wz sr le tx ro) sz) := by
  refine Met.ofW (cc := b_M_tags) (maxL := 6) (ret := none) (by decide) rfl ?_
  intro p e s m args below meth c s₁ B hml hv
  obtain ⟨rfl, hsz, hE, hP, hK, hD0⟩ := hv
  have hx := B.exec
  have hb := B.bytes
  have hr := B.returns
  have ht : ∀ w ∈ TT, w.before _ s = true := fun w hw => atoms_spec (ws := .code y_M_tags b_M_tags 6 none :: TT) B.pre w (List.mem_cons_of_mem _ hw)
  have hown : s.vm.findClass "SieveDeskModel" = some m.cls := findClass_of_methodNamed B.named
  have hlocks := B.notSynchronized
  subst hsz
  have hD := hD0.self (sz := s.heap.size)
  generalize hAe : va_A (ME h g ss sa so pl si fa li co st rq bl te op wo wz sr le tx ro) s.heap.size = A at hE hD ⊢
  have hA : ∀ q : Nat, s.heap.size ≤ q → A q := fun q h9 => by rw [← hAe]; exact Or.inr h9
  have hS : va_S A s.heap s.heap [] := va_S.rf
  have hl := lv_entry ([.ref (h 0), .int w]) (n := 6) (Nat.le_of_ble_eq_true rfl)
  rw [lg_entry_eq]
  generalize (lg_sl ([.ref (h 0), .int w]) ++ List.replicate (6 - (lg_sl ([.ref (h 0), .int w])).length) Slot.unset).toArray = ls at hl ⊢
  have hl : lv_has ls 6 [(0, .ref (h 0)), (1, .int w)] := hl
  exact bd_M_tags_0 (w := w) hx hb hml hown ht hE hA hK h_0 h_1 (fun u H locs pc ls hd hp hP hD hS => W.vret hx hb hr (fun t het hW => ⟨⟨u, rfl, hp, by rw [het]; exact hP, va_K.moved hW.alike hK, hD⟩, hS.F het⟩) hS.2.2 hd) sa so pl fa op si le tx st rq rfl rfl rfl rfl v_0 v_1 v_2 v_3 v_4 v_5 v_6 v_7 v_8 _ _ ls hP hD hS hl

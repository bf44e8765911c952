set_option maxHeartbeats 4000000 in
set_option maxRecDepth 100000 in
theorem lp_M_how_g0 {p : Program} {l : Launch} {e : Env} {s : State} {m : MethodId} {args : Array Value} {below : List Frame} {meth : Method} {c : Code} {Q : State → Prop} {A : Nat → Prop} {dC : Nat → ClassId} {dI : Nat → Nat → Nat} {k h : Nat → Nat} {g : Nat → ClassId} {ss : Int32} {li : Int32} {co : Int32} {rq : Int32} {bl : Int32} {te : Int32} {wo : Nat → Int64} {wz : Nat → Int32} {sr : Nat → Int32} {ro : Nat → Int32} {sa0 : Int32} {so0 : Int32} {fa0 : Int32} {op0 : Int32} (hx : p.tables.exec = Jvm.exec) (hb : c.code = b_M_how) (hml : c.maxLocals = 5) (hown : s.vm.findClass "SieveDeskModel" = some m.cls) (ht : ∀ w ∈ TT, w.before args s = true) (hE : KE k A s s.heap) (hA : ∀ q : Nat, s.heap.size ≤ q → A q) (hK : va_K (dC, dI) cls (TM g) s) {ob : Int32} (h_0 : 0 ≤ Int32.toInt ss) (h_1 : Int32.toInt ss ≤ 400) (fin : ∀ (u : Int32 × Int32 × Int32 × Int32 × Int32 × Int32 × (Nat → Int64) × (Nat → Int32) × Int32) (H : Heap) (locs : List Loc) (pc : Nat) (ls : Array Slot), decode b_M_how pc = .ok (.return_, 1) → (0 ≤ Int32.toInt u.1 ∧ Int32.toInt u.1 ≤ Int32.toInt ss ∧ 0 ≤ Int32.toInt u.2.2.1 ∧ Int32.toInt u.2.2.1 ≤ 400 ∧ -1 ≤ Int32.toInt u.2.2.2.1 ∧ Int32.toInt u.2.2.2.1 ≤ 400 ∧ (Int32.toInt u.2.2.2.1 < 0 ∨ (Int32.toInt u.2.1 = 0 ∧ Int32.toInt u.2.2.2.2.1 = 0)) ∧ 0 ≤ Int32.toInt u.2.2.2.2.2.1 ∧ Int32.toInt u.2.2.2.2.2.1 ≤ 400 ∧ PR ss sa0 so0 fa0 op0 u.1 u.2.1 u.2.2.2.1 u.2.2.2.2.1) → va_P (dC, dI) cls (ME h g ss u.1 u.2.1 u.2.2.1 u.2.2.2.2.2.1 u.2.2.2.1 li co u.2.2.2.2.2.2.2.2 rq bl te u.2.2.2.2.1 wo wz sr u.2.2.2.2.2.2.1 u.2.2.2.2.2.2.2.1 ro) H → va_D A (ME h g ss u.1 u.2.1 u.2.2.1 u.2.2.2.2.2.1 u.2.2.2.1 li co u.2.2.2.2.2.2.2.2 rq bl te u.2.2.2.2.1 wo wz sr u.2.2.2.2.2.2.1 u.2.2.2.2.2.2.2.1 ro) → va_S A s.heap H locs → W p l e ({ frames := 6, cells := 0, slots := 0, locals := 129 } : Room) s m args below meth c H locs 0 0 Q (F0 m pc ls [])) : ∀ (nn : Nat), (∀ (se : Int32) (sa : Int32) (so : Int32) (pl : Int32) (fa : Int32) (op : Int32) (si : Int32) (le : Nat → Int64) (tx : Nat → Int32) (st : Int32), PR ss sa0 so0 fa0 op0 sa so fa op → 0 ≤ Int32.toInt sa → Int32.toInt sa ≤ Int32.toInt ss → 0 ≤ Int32.toInt pl → Int32.toInt pl ≤ 400 → -1 ≤ Int32.toInt fa → Int32.toInt fa ≤ 400 → (Int32.toInt fa < 0 ∨ (Int32.toInt so = 0 ∧ Int32.toInt op = 0)) → 0 ≤ Int32.toInt si → Int32.toInt si ≤ 400 → 16 * YY ss sa so fa + 4 < nn → ∀ (H : Heap) (locs : List Loc) (ls : Array Slot), va_P (dC, dI) cls (ME h g ss sa so pl si fa li co st rq bl te op wo wz sr le tx ro) H → va_D A (ME h g ss sa so pl si fa li co st rq bl te op wo wz sr le tx ro) → va_S A s.heap H locs → lv_has ls 5 [(2, .int se), (0, .ref (h 0)), (1, .int ob)] → W p l e ({ frames := 6, cells := 0, slots := 0, locals := 129 } : Room) s m args below meth c H locs 0 0 Q (F0 m 2 ls [])) ∧ (∀ (se : Int32) (w : Int32) (bt : Int32) (sa : Int32) (so : Int32) (pl : Int32) (fa : Int32) (op : Int32) (si : Int32) (le : Nat → Int64) (tx : Nat → Int32) (st : Int32), PR ss sa0 so0 fa0 op0 sa so fa op → Int32.toInt fa < 0 → Int32.toInt so = 2 → 0 ≤ Int32.toInt sa → Int32.toInt sa ≤ Int32.toInt ss → 0 ≤ Int32.toInt pl → Int32.toInt pl ≤ 400 → -1 ≤ Int32.toInt fa → Int32.toInt fa ≤ 400 → (Int32.toInt fa < 0 ∨ (Int32.toInt so = 0 ∧ Int32.toInt op = 0)) → 0 ≤ Int32.toInt si → Int32.toInt si ≤ 400 → 16 * YY ss sa so fa + 3 < nn → ∀ (H : Heap) (locs : List Loc) (ls : Array Slot), va_P (dC, dI) cls (ME h g ss sa so pl si fa li co st rq bl te op wo wz sr le tx ro) H → va_D A (ME h g ss sa so pl si fa li co st rq bl te op wo wz sr le tx ro) → va_S A s.heap H locs → lv_has ls 5 [(2, .int se), (3, .int w), (4, .int bt), (0, .ref (h 0)), (1, .int ob)] → W p l e ({ frames := 6, cells := 0, slots := 0, locals := 129 } : Room) s m args below meth c H locs 0 0 Q (F0 m 50 ls [])) ∧ (∀ (se : Int32) (w : Int32) (bt : Int32) (gp : Nat) (sa : Int32) (so : Int32) (pl : Int32) (fa : Int32) (op : Int32) (si : Int32) (le : Nat → Int64) (tx : Nat → Int32) (st : Int32), PR ss sa0 so0 fa0 op0 sa so fa op → ((gp = 0 ∧ Int32.toInt fa < 0 ∧ Int32.toInt so = 2) ∨ (gp = 1 ∧ 0 ≤ Int32.toInt fa)) → 0 ≤ Int32.toInt sa → Int32.toInt sa ≤ Int32.toInt ss → 0 ≤ Int32.toInt pl → Int32.toInt pl ≤ 400 → -1 ≤ Int32.toInt fa → Int32.toInt fa ≤ 400 → (Int32.toInt fa < 0 ∨ (Int32.toInt so = 0 ∧ Int32.toInt op = 0)) → 0 ≤ Int32.toInt si → Int32.toInt si ≤ 400 → 16 * YY ss sa so fa + 2 + 8 * gp < nn → ∀ (H : Heap) (locs : List Loc) (ls : Array Slot), va_P (dC, dI) cls (ME h g ss sa so pl si fa li co st rq bl te op wo wz sr le tx ro) H → va_D A (ME h g ss sa so pl si fa li co st rq bl te op wo wz sr le tx ro) → va_S A s.heap H locs → lv_has ls 5 [(2, .int se), (3, .int w), (4, .int bt), (0, .ref (h 0)), (1, .int ob)] → W p l e ({ frames := 6, cells := 0, slots := 0, locals := 129 } : Room) s m args below meth c H locs 0 0 Q (F0 m 75 ls [])) := by
  intro nn
  induction nn with
  | zero =>
    refine ⟨fun _ _ _ _ _ _ _ _ _ _ _ _ _ _ _ _ _ _ _ _ hm => absurd hm (Nat.not_lt_zero _), fun _ _ _ _ _ _ _ _ _ _ _ _ _ _ _ _ _ _ _ _ _ _ _ _ hm => absurd hm (Nat.not_lt_zero _), fun _ _ _ _ _ _ _ _ _ _ _ _ _ _ _ _ _ _ _ _ _ _ _ _ hm => absurd hm (Nat.not_lt_zero _)⟩
  | succ nn ih =>
    refine ⟨?_, ?_, ?_⟩
    · intro se sa so pl fa op si le tx st v_0 v_1 v_2 v_3 v_4 v_5 v_6 v_7 v_8 v_9 hm H locs ls hP hD hS hl
      refine lv_aload_n hx hb d_M_how_2 rfl (lv_at hl 1 rfl) ?_
      refine lv_iconst (v := 2) hx hb d_M_how_3 (by decide) ?_
      have hc_2 : Int32.toInt 2 = 2 := by decide
      have hFc := va_free (wc := (ME h g ss sa so pl si fa li co st rq bl te op wo wz sr le tx ro)) hD hS hA [0, 1, 2, 3, 4, 5, 6] rfl
      refine va_calli (va_runV (As := [.int 2]) (rest := []) ⟨hx, hb, hml, hown, ht⟩ (c_M_is l dC dI k h g ss sa so pl si fa li co st rq bl te op wo le wz sr tx ro 2 _ (by omega) (by omega) ) (cwV 1 ht (g_V k_771 k_773 k_52 k_80 k_774) rfl rfl rfl (by decide +kernel) ⟨(Nat.le_of_ble_eq_true rfl), (Nat.le_of_ble_eq_true rfl)⟩) ⟨fb_X, va_recv hK hP (ci := 4) (q0 := 0) rfl rfl, pre_X hE hS hFc hP hK hD⟩ rfl rfl hl.1 rfl (lv_room (Nat.le_of_ble_eq_true rfl)) d_M_how_4 ⟨(Nat.le_of_ble_eq_true rfl), (Nat.le_of_ble_eq_true rfl)⟩) hS (fun q _ h9 => hFc q h9) hFc (fun r_2 u_1 t H locs het hvm hw hB hz1 hk1 hS => ?_)
      obtain ⟨p_3, p_4⟩ := hw
      obtain ⟨hP1, hK1, hD1⟩ := hB
      rw [het] at hP1
      have hP : va_P (dC, dI) cls (ME h g ss sa so pl si fa li co st rq bl te op wo wz sr le tx ro) H := hP1
      have hD : va_D A (ME h g ss sa so pl si fa li co st rq bl te op wo wz sr le tx ro) := hD1.weaken (fun _ _ _ h9 => hFc _ h9)
      refine lv_if_eq (tgt := 138) hx hb d_M_how_7 (by decide) (fun c_5 => ?_) (fun c_5 => ?_)
      · have dc_5 := i_eq c_5 rfl (show Int32.toInt 0 = 0 by decide)
        exact fin  (sa, so, pl, fa, op, si, le, tx, st) _ _ _ ls d_M_how_138 ⟨(by (try dsimp only); omega), (by (try dsimp only); omega), (by (try dsimp only); omega), (by (try dsimp only); omega), (by (try dsimp only); omega), (by (try dsimp only); omega), (by (try dsimp only); omega), (by (try dsimp only); omega), (by (try dsimp only); omega), v_0⟩ hP hD hS
      · have dc_5 := i_ne c_5 rfl (show Int32.toInt 0 = 0 by decide)
        refine lv_aload_n hx hb d_M_how_10 rfl (lv_at hl 1 rfl) ?_
        refine lv_bipush (v := 33) hx hb d_M_how_11 (by decide) ?_
        refine lv_bipush (v := 9) hx hb d_M_how_13 (by decide) ?_
        have hc_33 : Int32.toInt 33 = 33 := by decide
        have hc_9 : Int32.toInt 9 = 9 := by decide
        have hFc := va_free (wc := (ME h g ss sa so pl si fa li co st rq bl te op wo wz sr le tx ro)) hD hS hA [0, 1, 2, 3, 4, 5, 6] rfl
        refine va_calli (va_runV (As := [.int 33, .int 9]) (rest := []) ⟨hx, hb, hml, hown, ht⟩ (c_M_which l dC dI k h g ss sa so pl si fa li co st rq bl te op wo le wz sr tx ro 33 9 _ (by omega) (by omega) (by omega) ) (cwV 2 ht (g_V k_738 k_740 k_45 k_80 k_741) rfl rfl rfl (by decide +kernel) ⟨(Nat.le_of_ble_eq_true rfl), (Nat.le_of_ble_eq_true rfl)⟩) ⟨fb_X, va_recv hK hP (ci := 4) (q0 := 0) rfl rfl, pre_X hE hS hFc hP hK hD⟩ rfl rfl hl.1 rfl (lv_room (Nat.le_of_ble_eq_true rfl)) d_M_how_15 ⟨(Nat.le_of_ble_eq_true rfl), (Nat.le_of_ble_eq_true rfl)⟩) hS (fun q _ h9 => hFc q h9) hFc (fun r_7 u_6 t H locs het hvm hw hB hz1 hk1 hS => ?_)
        have p_8 := hw
        obtain ⟨hP1, hK1, hD1⟩ := hB
        rw [het] at hP1
        have hP : va_P (dC, dI) cls (ME h g ss sa so pl si fa li co st rq bl te op wo wz sr le tx ro) H := hP1
        have hD : va_D A (ME h g ss sa so pl si fa li co st rq bl te op wo wz sr le tx ro) := hD1.weaken (fun _ _ _ h9 => hFc _ h9)
        refine lv_istore_n (lv' := [(3, .int r_7), (2, .int se), (0, .ref (h 0)), (1, .int ob)]) hx hb d_M_how_18 rfl hl (by decide) rfl (fun ls hl => ?_)
        refine lv_iload_n hx hb d_M_how_19 rfl (lv_at hl 0 rfl) ?_
        refine lv_if_ge (tgt := 27) hx hb d_M_how_20 (by decide) (fun c_9 => ?_) (fun c_9 => ?_)
        · have dc_9 := i_le c_9 (show Int32.toInt 0 = 0 by decide) rfl
          refine lv_iload_n hx hb d_M_how_27 rfl (lv_at hl 0 rfl) ?_
          refine lv_bipush (v := 38) hx hb d_M_how_28 (by decide) ?_
          refine lv_icmp_ge (tgt := 37) hx hb d_M_how_30 (by decide) (fun c_10 => ?_) (fun c_10 => ?_)
          · have dc_10 := i_le c_10 (show Int32.toInt 38 = 38 by decide) rfl
            refine lv_iload_n hx hb d_M_how_37 rfl (lv_at hl 0 rfl) ?_
            refine lv_bipush (v := 38) hx hb d_M_how_38 (by decide) ?_
            refine lv_icmp_ne (tgt := 47) hx hb d_M_how_40 (by decide) (fun c_11 => ?_) (fun c_11 => ?_)
            · have dc_11 := i_ne c_11 rfl (show Int32.toInt 38 = 38 by decide)
              refine lv_iconst (v := 4) hx hb d_M_how_47 (by decide) ?_
              refine lv_istore (lv' := [(4, .int 4), (3, .int r_7), (2, .int se), (0, .ref (h 0)), (1, .int ob)]) hx hb d_M_how_48 hl (by decide) rfl (fun ls hl => ?_)
              have hc_4 : Int32.toInt 4 = 4 := by decide
              exact ih.2.1 se r_7 4 sa so pl fa op si le tx st v_0 (by omega) (by omega) (by omega) (by omega) (by omega) (by omega) (by omega) (by omega) (by omega) (by omega) (by omega) (by omega) _ _ ls hP hD hS (lv_sub hl [2, 1, 0, 3, 4] rfl)
            · have dc_11 := i_eq c_11 rfl (show Int32.toInt 38 = 38 by decide)
              refine lv_iconst (v := 2) hx hb d_M_how_43 (by decide) ?_
              refine lv_goto (tgt := 48) hx hb d_M_how_44 (by decide) ?_
              refine lv_istore (lv' := [(4, .int 2), (3, .int r_7), (2, .int se), (0, .ref (h 0)), (1, .int ob)]) hx hb d_M_how_48 hl (by decide) rfl (fun ls hl => ?_)
              exact ih.2.1 se r_7 2 sa so pl fa op si le tx st v_0 (by omega) (by omega) (by omega) (by omega) (by omega) (by omega) (by omega) (by omega) (by omega) (by omega) (by omega) (by omega) _ _ ls hP hD hS (lv_sub hl [2, 1, 0, 3, 4] rfl)
          · have dc_10 := i_nle c_10 (show Int32.toInt 38 = 38 by decide) rfl
            refine lv_iconst (v := 1) hx hb d_M_how_33 (by decide) ?_
            refine lv_goto (tgt := 48) hx hb d_M_how_34 (by decide) ?_
            refine lv_istore (lv' := [(4, .int 1), (3, .int r_7), (2, .int se), (0, .ref (h 0)), (1, .int ob)]) hx hb d_M_how_48 hl (by decide) rfl (fun ls hl => ?_)
            have hc_1 : Int32.toInt 1 = 1 := by decide
            exact ih.2.1 se r_7 1 sa so pl fa op si le tx st v_0 (by omega) (by omega) (by omega) (by omega) (by omega) (by omega) (by omega) (by omega) (by omega) (by omega) (by omega) (by omega) _ _ ls hP hD hS (lv_sub hl [2, 1, 0, 3, 4] rfl)
        · have dc_9 := i_nle c_9 (show Int32.toInt 0 = 0 by decide) rfl
          refine lv_iconst (v := 0) hx hb d_M_how_23 (by decide) ?_
          refine lv_goto (tgt := 48) hx hb d_M_how_24 (by decide) ?_
          refine lv_istore (lv' := [(4, .int 0), (3, .int r_7), (2, .int se), (0, .ref (h 0)), (1, .int ob)]) hx hb d_M_how_48 hl (by decide) rfl (fun ls hl => ?_)
          have hc_0 : Int32.toInt 0 = 0 := by decide
          exact ih.2.1 se r_7 0 sa so pl fa op si le tx st v_0 (by omega) (by omega) (by omega) (by omega) (by omega) (by omega) (by omega) (by omega) (by omega) (by omega) (by omega) (by omega) _ _ ls hP hD hS (lv_sub hl [2, 1, 0, 3, 4] rfl)
    · intro se w bt sa so pl fa op si le tx st v_0 v_1 v_2 v_3 v_4 v_5 v_6 v_7 v_8 v_9 v_10 v_11 hm H locs ls hP hD hS hl
      refine lv_iload_n hx hb d_M_how_50 rfl (lv_at hl 1 rfl) ?_
      refine lv_if_lt (tgt := 71) hx hb d_M_how_51 (by decide) (fun c_12 => ?_) (fun c_12 => ?_)
      · refine lv_aload_n hx hb d_M_how_71 rfl (lv_at hl 3 rfl) ?_
        have hFc := va_free (wc := (ME h g ss sa so pl si fa li co st rq bl te op wo wz sr le tx ro)) hD hS hA [0, 1, 2, 3, 4, 5, 6] rfl
        refine va_callv (va_runV (As := []) (rest := []) ⟨hx, hb, hml, hown, ht⟩ (c_M_fail l dC dI k h g ss sa so pl si fa li co st rq bl te op wo le wz sr tx ro  _ (by omega) (by omega) (by omega) (by omega)) (cwV 0 ht (g_V k_763 k_765 k_50 k_80 k_766) rfl rfl rfl (by decide +kernel) ⟨(Nat.le_of_ble_eq_true rfl), (Nat.le_of_ble_eq_true rfl)⟩) ⟨fb_X, va_recv hK hP (ci := 4) (q0 := 0) rfl rfl, pre_X hE hS hFc hP hK hD⟩ rfl rfl hl.1 rfl (lv_room (Nat.le_of_ble_eq_true rfl)) d_M_how_72 ⟨(Nat.le_of_ble_eq_true rfl), (Nat.le_of_ble_eq_true rfl)⟩) hS (fun q _ h9 => hFc q h9) hFc (fun u_16 t H locs het hvm hw hB hz1 hk1 hS => ?_)
        obtain ⟨so_13, fa_14, op_15⟩ := u_16
        try dsimp only at hw
        obtain ⟨p_18, p_19, p_20, p_21, p_22, p_23⟩ := hw
        obtain ⟨hP1, hK1, hD1⟩ := hB
        rw [het] at hP1
        have hP : va_P (dC, dI) cls (ME h g ss sa so_13 pl si fa_14 li co st rq bl te op_15 wo wz sr le tx ro) H := hP1
        have hD : va_D A (ME h g ss sa so_13 pl si fa_14 li co st rq bl te op_15 wo wz sr le tx ro) := hD1.weaken (fun _ _ _ h9 => hFc _ h9)
        have rl_24 : PS ss sa so fa op sa so_13 fa_14 op_15 := pr_out (by omega) (by omega) (by omega) _ _ _ _ (by omega)
        obtain ⟨ym_25a, ym_25b⟩ := PS.yd rl_24 (by omega)
        exact ih.2.2 se w bt 1 sa so_13 pl fa_14 op_15 si le tx st (rRS v_0 rl_24).pr (by omega) (by omega) (by omega) (by omega) (by omega) (by omega) (by omega) (by omega) (by omega) (by omega) (by omega) _ _ ls hP hD hS (lv_sub hl [0, 1, 2, 3, 4] rfl)
      · refine lv_iload_n hx hb d_M_how_54 rfl (lv_at hl 0 rfl) ?_
        refine lv_iload hx hb d_M_how_55 (lv_at hl 2 rfl) ?_
        refine lv_iand hx hb d_M_how_57 ?_
        refine lv_if_ne (tgt := 71) hx hb d_M_how_58 (by decide) (fun c_26 => ?_) (fun c_26 => ?_)
        · refine lv_aload_n hx hb d_M_how_71 rfl (lv_at hl 3 rfl) ?_
          have hFc := va_free (wc := (ME h g ss sa so pl si fa li co st rq bl te op wo wz sr le tx ro)) hD hS hA [0, 1, 2, 3, 4, 5, 6] rfl
          refine va_callv (va_runV (As := []) (rest := []) ⟨hx, hb, hml, hown, ht⟩ (c_M_fail l dC dI k h g ss sa so pl si fa li co st rq bl te op wo le wz sr tx ro  _ (by omega) (by omega) (by omega) (by omega)) (cwV 0 ht (g_V k_763 k_765 k_50 k_80 k_766) rfl rfl rfl (by decide +kernel) ⟨(Nat.le_of_ble_eq_true rfl), (Nat.le_of_ble_eq_true rfl)⟩) ⟨fb_X, va_recv hK hP (ci := 4) (q0 := 0) rfl rfl, pre_X hE hS hFc hP hK hD⟩ rfl rfl hl.1 rfl (lv_room (Nat.le_of_ble_eq_true rfl)) d_M_how_72 ⟨(Nat.le_of_ble_eq_true rfl), (Nat.le_of_ble_eq_true rfl)⟩) hS (fun q _ h9 => hFc q h9) hFc (fun u_30 t H locs het hvm hw hB hz1 hk1 hS => ?_)
          obtain ⟨so_27, fa_28, op_29⟩ := u_30
          try dsimp only at hw
          obtain ⟨p_32, p_33, p_34, p_35, p_36, p_37⟩ := hw
          obtain ⟨hP1, hK1, hD1⟩ := hB
          rw [het] at hP1
          have hP : va_P (dC, dI) cls (ME h g ss sa so_27 pl si fa_28 li co st rq bl te op_29 wo wz sr le tx ro) H := hP1
          have hD : va_D A (ME h g ss sa so_27 pl si fa_28 li co st rq bl te op_29 wo wz sr le tx ro) := hD1.weaken (fun _ _ _ h9 => hFc _ h9)
          have rl_38 : PS ss sa so fa op sa so_27 fa_28 op_29 := pr_out (by omega) (by omega) (by omega) _ _ _ _ (by omega)
          obtain ⟨ym_39a, ym_39b⟩ := PS.yd rl_38 (by omega)
          exact ih.2.2 se w bt 1 sa so_27 pl fa_28 op_29 si le tx st (rRS v_0 rl_38).pr (by omega) (by omega) (by omega) (by omega) (by omega) (by omega) (by omega) (by omega) (by omega) (by omega) (by omega) _ _ ls hP hD hS (lv_sub hl [0, 1, 2, 3, 4] rfl)
        · refine lv_iload hx hb d_M_how_61 (lv_at hl 2 rfl) ?_
          refine lv_iconst (v := 4) hx hb d_M_how_63 (by decide) ?_
          refine lv_icmp_ne (tgt := 75) hx hb d_M_how_64 (by decide) (fun c_40 => ?_) (fun c_40 => ?_)
          · exact ih.2.2 se w bt 0 sa so pl fa op si le tx st v_0 (by omega) (by omega) (by omega) (by omega) (by omega) (by omega) (by omega) (by omega) (by omega) (by omega) (by omega) _ _ ls hP hD hS (lv_sub hl [0, 1, 2, 3, 4] rfl)
          · refine lv_iload_n hx hb d_M_how_67 rfl (lv_at hl 4 rfl) ?_
            refine lv_if_ne (tgt := 75) hx hb d_M_how_68 (by decide) (fun c_41 => ?_) (fun c_41 => ?_)
            · exact ih.2.2 se w bt 0 sa so pl fa op si le tx st v_0 (by omega) (by omega) (by omega) (by omega) (by omega) (by omega) (by omega) (by omega) (by omega) (by omega) (by omega) _ _ ls hP hD hS (lv_sub hl [0, 1, 2, 3, 4] rfl)
            · refine lv_aload_n hx hb d_M_how_71 rfl (lv_at hl 3 rfl) ?_
              have hFc := va_free (wc := (ME h g ss sa so pl si fa li co st rq bl te op wo wz sr le tx ro)) hD hS hA [0, 1, 2, 3, 4, 5, 6] rfl
              refine va_callv (va_runV (As := []) (rest := []) ⟨hx, hb, hml, hown, ht⟩ (c_M_fail l dC dI k h g ss sa so pl si fa li co st rq bl te op wo le wz sr tx ro  _ (by omega) (by omega) (by omega) (by omega)) (cwV 0 ht (g_V k_763 k_765 k_50 k_80 k_766) rfl rfl rfl (by decide +kernel) ⟨(Nat.le_of_ble_eq_true rfl), (Nat.le_of_ble_eq_true rfl)⟩) ⟨fb_X, va_recv hK hP (ci := 4) (q0 := 0) rfl rfl, pre_X hE hS hFc hP hK hD⟩ rfl rfl hl.1 rfl (lv_room (Nat.le_of_ble_eq_true rfl)) d_M_how_72 ⟨(Nat.le_of_ble_eq_true rfl), (Nat.le_of_ble_eq_true rfl)⟩) hS (fun q _ h9 => hFc q h9) hFc (fun u_45 t H locs het hvm hw hB hz1 hk1 hS => ?_)
              obtain ⟨so_42, fa_43, op_44⟩ := u_45
              try dsimp only at hw
              obtain ⟨p_47, p_48, p_49, p_50, p_51, p_52⟩ := hw
              obtain ⟨hP1, hK1, hD1⟩ := hB
              rw [het] at hP1
              have hP : va_P (dC, dI) cls (ME h g ss sa so_42 pl si fa_43 li co st rq bl te op_44 wo wz sr le tx ro) H := hP1
              have hD : va_D A (ME h g ss sa so_42 pl si fa_43 li co st rq bl te op_44 wo wz sr le tx ro) := hD1.weaken (fun _ _ _ h9 => hFc _ h9)
              have rl_53 : PS ss sa so fa op sa so_42 fa_43 op_44 := pr_out (by omega) (by omega) (by omega) _ _ _ _ (by omega)
              obtain ⟨ym_54a, ym_54b⟩ := PS.yd rl_53 (by omega)
              exact ih.2.2 se w bt 1 sa so_42 pl fa_43 op_44 si le tx st (rRS v_0 rl_53).pr (by omega) (by omega) (by omega) (by omega) (by omega) (by omega) (by omega) (by omega) (by omega) (by omega) (by omega) _ _ ls hP hD hS (lv_sub hl [0, 1, 2, 3, 4] rfl)
    · intro se w bt gp sa so pl fa op si le tx st v_0 v_1 v_2 v_3 v_4 v_5 v_6 v_7 v_8 v_9 v_10 hm H locs ls hP hD hS hl
      refine lv_iload_n hx hb d_M_how_75 rfl (lv_at hl 1 rfl) ?_
      refine lv_bipush (v := 36) hx hb d_M_how_76 (by decide) ?_
      refine lv_icmp_eq (tgt := 87) hx hb d_M_how_78 (by decide) (fun c_55 => ?_) (fun c_55 => ?_)
      · refine lv_aload_n hx hb d_M_how_87 rfl (lv_at hl 3 rfl) ?_
        refine lv_bipush (v := 32) hx hb d_M_how_88 (by decide) ?_
        have hc_32 : Int32.toInt 32 = 32 := by decide
        have hFc := va_free (wc := (ME h g ss sa so pl si fa li co st rq bl te op wo wz sr le tx ro)) hD hS hA [0, 1, 2, 3, 4, 5, 6] rfl
        refine va_callv (va_runV (As := [.int 32]) (rest := []) ⟨hx, hb, hml, hown, ht⟩ (c_M_needs l dC dI k h g ss sa so pl si fa li co st rq bl te op wo le wz sr tx ro 32 _ (by omega) (by omega) (by omega) (by omega) (by omega)) (cwV 1 ht (g_V k_811 k_813 k_62 k_80 k_814) rfl rfl rfl (by decide +kernel) ⟨(Nat.le_of_ble_eq_true rfl), (Nat.le_of_ble_eq_true rfl)⟩) ⟨fb_X, va_recv hK hP (ci := 4) (q0 := 0) rfl rfl, pre_X hE hS hFc hP hK hD⟩ rfl rfl hl.1 rfl (lv_room (Nat.le_of_ble_eq_true rfl)) d_M_how_90 ⟨(Nat.le_of_ble_eq_true rfl), (Nat.le_of_ble_eq_true rfl)⟩) hS (fun q _ h9 => hFc q h9) hFc (fun u_59 t H locs het hvm hw hB hz1 hk1 hS => ?_)
        obtain ⟨so_56, fa_57, op_58⟩ := u_59
        try dsimp only at hw
        obtain ⟨p_61, p_62, p_63, p_64, p_65⟩ := hw
        obtain ⟨hP1, hK1, hD1⟩ := hB
        rw [het] at hP1
        have hP : va_P (dC, dI) cls (ME h g ss sa so_56 pl si fa_57 li co st rq bl te op_58 wo wz sr le tx ro) H := hP1
        have hD : va_D A (ME h g ss sa so_56 pl si fa_57 li co st rq bl te op_58 wo wz sr le tx ro) := hD1.weaken (fun _ _ _ h9 => hFc _ h9)
        refine lv_iload_n hx hb d_M_how_93 rfl (lv_at hl 0 rfl) ?_
        refine lv_iload hx hb d_M_how_94 (lv_at hl 2 rfl) ?_
        refine lv_ior hx hb d_M_how_96 ?_
        refine lv_istore_n (lv' := [(2, .int (se ||| bt)), (3, .int w), (4, .int bt), (0, .ref (h 0)), (1, .int ob)]) hx hb d_M_how_97 rfl hl (by decide) rfl (fun ls hl => ?_)
        refine lv_aload_n hx hb d_M_how_98 rfl (lv_at hl 3 rfl) ?_
        have hFc := va_free (wc := (ME h g ss sa so_56 pl si fa_57 li co st rq bl te op_58 wo wz sr le tx ro)) hD hS hA [0, 1, 2, 3, 4, 5, 6] rfl
        refine va_callv (va_runV (As := []) (rest := []) ⟨hx, hb, hml, hown, ht⟩ (c_M_next l dC dI k h g ss sa so_56 pl si fa_57 li co st rq bl te op_58 wo le wz sr tx ro  _ (by omega) (by omega) (by omega) (by omega) (by omega) (by omega) (by omega) (by omega) (by omega) (by omega) (by omega)) (cwV 0 ht (g_V k_694 k_696 k_37 k_80 k_697) rfl rfl rfl (by decide +kernel) ⟨(Nat.le_of_ble_eq_true rfl), (Nat.le_of_ble_eq_true rfl)⟩) ⟨fb_X, va_recv hK hP (ci := 4) (q0 := 0) rfl rfl, pre_X hE hS hFc hP hK hD⟩ rfl rfl hl.1 rfl (lv_room (Nat.le_of_ble_eq_true rfl)) d_M_how_99 ⟨(Nat.le_of_ble_eq_true rfl), (Nat.le_of_ble_eq_true rfl)⟩) hS (fun q _ h9 => hFc q h9) hFc (fun u_74 t H locs het hvm hw hB hz1 hk1 hS => ?_)
        obtain ⟨sa_66, so_67, pl_68, fa_69, op_70, si_71, le_72, tx_73⟩ := u_74
        try dsimp only at hw
        obtain ⟨p_76, p_77, p_78, p_79, p_80, p_81, p_82, p_83, p_84, p_85, p_86⟩ := hw
        obtain ⟨hP1, hK1, hD1⟩ := hB
        rw [het] at hP1
        have hP : va_P (dC, dI) cls (ME h g ss sa_66 so_67 pl_68 si_71 fa_69 li co st rq bl te op_70 wo wz sr le_72 tx_73 ro) H := hP1
        have hD : va_D A (ME h g ss sa_66 so_67 pl_68 si_71 fa_69 li co st rq bl te op_70 wo wz sr le_72 tx_73 ro) := hD1.weaken (fun _ _ _ h9 => hFc _ h9)
        have rl_87 := p_86.resolve_right (by omega)
        have rl_88 := rRS p_64 rl_87
        refine lv_iload_n hx hb d_M_how_102 rfl (lv_at hl 1 rfl) ?_
        refine lv_bipush (v := 36) hx hb d_M_how_103 (by decide) ?_
        refine lv_icmp_eq (tgt := 114) hx hb d_M_how_105 (by decide) (fun c_89 => ?_) (fun c_89 => ?_)
        · refine lv_aload_n hx hb d_M_how_114 rfl (lv_at hl 3 rfl) ?_
          refine lv_bipush (v := 42) hx hb d_M_how_115 (by decide) ?_
          refine lv_bipush (v := 6) hx hb d_M_how_117 (by decide) ?_
          have hc_42 : Int32.toInt 42 = 42 := by decide
          have hc_6 : Int32.toInt 6 = 6 := by decide
          have hFc := va_free (wc := (ME h g ss sa_66 so_67 pl_68 si_71 fa_69 li co st rq bl te op_70 wo wz sr le_72 tx_73 ro)) hD hS hA [0, 1, 2, 3, 4, 5, 6] rfl
          refine va_callv (va_runV (As := [.int 42, .int 6]) (rest := []) ⟨hx, hb, hml, hown, ht⟩ (c_M_one l dC dI k h g ss sa_66 so_67 pl_68 si_71 fa_69 li co st rq bl te op_70 wo le_72 wz sr tx_73 ro 42 6 _ (by omega) (by omega) (by omega) (by omega) (by omega) (by omega) (by omega) (by omega) (by omega) (by omega) (by omega) (by omega) (by omega) (by omega)) (cwV 2 ht (g_V k_854 k_856 k_72 k_80 k_857) rfl rfl rfl (by decide +kernel) ⟨(Nat.le_of_ble_eq_true rfl), (Nat.le_of_ble_eq_true rfl)⟩) ⟨fb_X, va_recv hK hP (ci := 4) (q0 := 0) rfl rfl, pre_X hE hS hFc hP hK hD⟩ rfl rfl hl.1 rfl (lv_room (Nat.le_of_ble_eq_true rfl)) d_M_how_119 ⟨(Nat.le_of_ble_eq_true rfl), (Nat.le_of_ble_eq_true rfl)⟩) hS (fun q _ h9 => hFc q h9) hFc (fun u_99 t H locs het hvm hw hB hz1 hk1 hS => ?_)
          obtain ⟨sa_90, so_91, pl_92, fa_93, op_94, si_95, le_96, tx_97, st_98⟩ := u_99
          try dsimp only at hw
          obtain ⟨p_101, p_102, p_103, p_104, p_105, p_106, p_107, p_108, p_109, p_110⟩ := hw
          obtain ⟨hP1, hK1, hD1⟩ := hB
          rw [het] at hP1
          have hP : va_P (dC, dI) cls (ME h g ss sa_90 so_91 pl_92 si_95 fa_93 li co st_98 rq bl te op_94 wo wz sr le_96 tx_97 ro) H := hP1
          have hD : va_D A (ME h g ss sa_90 so_91 pl_92 si_95 fa_93 li co st_98 rq bl te op_94 wo wz sr le_96 tx_97 ro) := hD1.weaken (fun _ _ _ h9 => hFc _ h9)
          have rl_111 := rSS rl_88 p_110
          refine lv_iload_n hx hb d_M_how_122 rfl (lv_at hl 1 rfl) ?_
          refine lv_bipush (v := 38) hx hb d_M_how_123 (by decide) ?_
          refine lv_icmp_ne (tgt := 135) hx hb d_M_how_125 (by decide) (fun c_112 => ?_) (fun c_112 => ?_)
          · refine lv_goto (tgt := 2) hx hb d_M_how_135 (by decide) ?_
            obtain ⟨ym_113a, ym_113b⟩ := PS.yd rl_111 (by omega)
            exact ih.1 (se ||| bt) sa_90 so_91 pl_92 fa_93 op_94 si_95 le_96 tx_97 st_98 (rRS v_0 rl_111).pr (by omega) (by omega) (by omega) (by omega) (by omega) (by omega) (by omega) (by omega) (by omega) (by omega) _ _ ls hP hD hS (lv_sub hl [0, 3, 4] rfl)
          · refine lv_aload_n hx hb d_M_how_128 rfl (lv_at hl 3 rfl) ?_
            refine lv_bipush (v := 48) hx hb d_M_how_129 (by decide) ?_
            refine lv_iconst (v := 3) hx hb d_M_how_131 (by decide) ?_
            have hc_48 : Int32.toInt 48 = 48 := by decide
            have hc_3 : Int32.toInt 3 = 3 := by decide
            have hFc := va_free (wc := (ME h g ss sa_90 so_91 pl_92 si_95 fa_93 li co st_98 rq bl te op_94 wo wz sr le_96 tx_97 ro)) hD hS hA [0, 1, 2, 3, 4, 5, 6] rfl
            refine va_callv (va_runV (As := [.int 48, .int 3]) (rest := []) ⟨hx, hb, hml, hown, ht⟩ (c_M_one l dC dI k h g ss sa_90 so_91 pl_92 si_95 fa_93 li co st_98 rq bl te op_94 wo le_96 wz sr tx_97 ro 48 3 _ (by omega) (by omega) (by omega) (by omega) (by omega) (by omega) (by omega) (by omega) (by omega) (by omega) (by omega) (by omega) (by omega) (by omega)) (cwV 2 ht (g_V k_854 k_856 k_72 k_80 k_857) rfl rfl rfl (by decide +kernel) ⟨(Nat.le_of_ble_eq_true rfl), (Nat.le_of_ble_eq_true rfl)⟩) ⟨fb_X, va_recv hK hP (ci := 4) (q0 := 0) rfl rfl, pre_X hE hS hFc hP hK hD⟩ rfl rfl hl.1 rfl (lv_room (Nat.le_of_ble_eq_true rfl)) d_M_how_132 ⟨(Nat.le_of_ble_eq_true rfl), (Nat.le_of_ble_eq_true rfl)⟩) hS (fun q _ h9 => hFc q h9) hFc (fun u_123 t H locs het hvm hw hB hz1 hk1 hS => ?_)
            obtain ⟨sa_114, so_115, pl_116, fa_117, op_118, si_119, le_120, tx_121, st_122⟩ := u_123
            try dsimp only at hw
            obtain ⟨p_125, p_126, p_127, p_128, p_129, p_130, p_131, p_132, p_133, p_134⟩ := hw
            obtain ⟨hP1, hK1, hD1⟩ := hB
            rw [het] at hP1
            have hP : va_P (dC, dI) cls (ME h g ss sa_114 so_115 pl_116 si_119 fa_117 li co st_122 rq bl te op_118 wo wz sr le_120 tx_121 ro) H := hP1
            have hD : va_D A (ME h g ss sa_114 so_115 pl_116 si_119 fa_117 li co st_122 rq bl te op_118 wo wz sr le_120 tx_121 ro) := hD1.weaken (fun _ _ _ h9 => hFc _ h9)
            have rl_135 := rSS rl_111 p_134
            refine lv_goto (tgt := 2) hx hb d_M_how_135 (by decide) ?_
            obtain ⟨ym_136a, ym_136b⟩ := PS.yd rl_135 (by omega)
            exact ih.1 (se ||| bt) sa_114 so_115 pl_116 fa_117 op_118 si_119 le_120 tx_121 st_122 (rRS v_0 rl_135).pr (by omega) (by omega) (by omega) (by omega) (by omega) (by omega) (by omega) (by omega) (by omega) (by omega) _ _ ls hP hD hS (lv_sub hl [0, 3, 4] rfl)
        · refine lv_iload_n hx hb d_M_how_108 rfl (lv_at hl 1 rfl) ?_
          refine lv_bipush (v := 37) hx hb d_M_how_109 (by decide) ?_
          refine lv_icmp_ne (tgt := 122) hx hb d_M_how_111 (by decide) (fun c_137 => ?_) (fun c_137 => ?_)
          · refine lv_iload_n hx hb d_M_how_122 rfl (lv_at hl 1 rfl) ?_
            refine lv_bipush (v := 38) hx hb d_M_how_123 (by decide) ?_
            refine lv_icmp_ne (tgt := 135) hx hb d_M_how_125 (by decide) (fun c_138 => ?_) (fun c_138 => ?_)
            · refine lv_goto (tgt := 2) hx hb d_M_how_135 (by decide) ?_
              obtain ⟨ym_139a, ym_139b⟩ := PS.yd rl_88 (by omega)
              exact ih.1 (se ||| bt) sa_66 so_67 pl_68 fa_69 op_70 si_71 le_72 tx_73 st (rRS v_0 rl_88).pr (by omega) (by omega) (by omega) (by omega) (by omega) (by omega) (by omega) (by omega) (by omega) (by omega) _ _ ls hP hD hS (lv_sub hl [0, 3, 4] rfl)
            · refine lv_aload_n hx hb d_M_how_128 rfl (lv_at hl 3 rfl) ?_
              refine lv_bipush (v := 48) hx hb d_M_how_129 (by decide) ?_
              refine lv_iconst (v := 3) hx hb d_M_how_131 (by decide) ?_
              have hc_48 : Int32.toInt 48 = 48 := by decide
              have hc_3 : Int32.toInt 3 = 3 := by decide
              have hFc := va_free (wc := (ME h g ss sa_66 so_67 pl_68 si_71 fa_69 li co st rq bl te op_70 wo wz sr le_72 tx_73 ro)) hD hS hA [0, 1, 2, 3, 4, 5, 6] rfl
              refine va_callv (va_runV (As := [.int 48, .int 3]) (rest := []) ⟨hx, hb, hml, hown, ht⟩ (c_M_one l dC dI k h g ss sa_66 so_67 pl_68 si_71 fa_69 li co st rq bl te op_70 wo le_72 wz sr tx_73 ro 48 3 _ (by omega) (by omega) (by omega) (by omega) (by omega) (by omega) (by omega) (by omega) (by omega) (by omega) (by omega) (by omega) (by omega) (by omega)) (cwV 2 ht (g_V k_854 k_856 k_72 k_80 k_857) rfl rfl rfl (by decide +kernel) ⟨(Nat.le_of_ble_eq_true rfl), (Nat.le_of_ble_eq_true rfl)⟩) ⟨fb_X, va_recv hK hP (ci := 4) (q0 := 0) rfl rfl, pre_X hE hS hFc hP hK hD⟩ rfl rfl hl.1 rfl (lv_room (Nat.le_of_ble_eq_true rfl)) d_M_how_132 ⟨(Nat.le_of_ble_eq_true rfl), (Nat.le_of_ble_eq_true rfl)⟩) hS (fun q _ h9 => hFc q h9) hFc (fun u_149 t H locs het hvm hw hB hz1 hk1 hS => ?_)
              obtain ⟨sa_140, so_141, pl_142, fa_143, op_144, si_145, le_146, tx_147, st_148⟩ := u_149
              try dsimp only at hw
              obtain ⟨p_151, p_152, p_153, p_154, p_155, p_156, p_157, p_158, p_159, p_160⟩ := hw
              obtain ⟨hP1, hK1, hD1⟩ := hB
              rw [het] at hP1
              have hP : va_P (dC, dI) cls (ME h g ss sa_140 so_141 pl_142 si_145 fa_143 li co st_148 rq bl te op_144 wo wz sr le_146 tx_147 ro) H := hP1
              have hD : va_D A (ME h g ss sa_140 so_141 pl_142 si_145 fa_143 li co st_148 rq bl te op_144 wo wz sr le_146 tx_147 ro) := hD1.weaken (fun _ _ _ h9 => hFc _ h9)
              have rl_161 := rSS rl_88 p_160
              refine lv_goto (tgt := 2) hx hb d_M_how_135 (by decide) ?_
              obtain ⟨ym_162a, ym_162b⟩ := PS.yd rl_161 (by omega)
              exact ih.1 (se ||| bt) sa_140 so_141 pl_142 fa_143 op_144 si_145 le_146 tx_147 st_148 (rRS v_0 rl_161).pr (by omega) (by omega) (by omega) (by omega) (by omega) (by omega) (by omega) (by omega) (by omega) (by omega) _ _ ls hP hD hS (lv_sub hl [0, 3, 4] rfl)
          · refine lv_aload_n hx hb d_M_how_114 rfl (lv_at hl 3 rfl) ?_
            refine lv_bipush (v := 42) hx hb d_M_how_115 (by decide) ?_
            refine lv_bipush (v := 6) hx hb d_M_how_117 (by decide) ?_
            have hc_42 : Int32.toInt 42 = 42 := by decide
            have hc_6 : Int32.toInt 6 = 6 := by decide
            have hFc := va_free (wc := (ME h g ss sa_66 so_67 pl_68 si_71 fa_69 li co st rq bl te op_70 wo wz sr le_72 tx_73 ro)) hD hS hA [0, 1, 2, 3, 4, 5, 6] rfl
            refine va_callv (va_runV (As := [.int 42, .int 6]) (rest := []) ⟨hx, hb, hml, hown, ht⟩ (c_M_one l dC dI k h g ss sa_66 so_67 pl_68 si_71 fa_69 li co st rq bl te op_70 wo le_72 wz sr tx_73 ro 42 6 _ (by omega) (by omega) (by omega) (by omega) (by omega) (by omega) (by omega) (by omega) (by omega) (by omega) (by omega) (by omega) (by omega) (by omega)) (cwV 2 ht (g_V k_854 k_856 k_72 k_80 k_857) rfl rfl rfl (by decide +kernel) ⟨(Nat.le_of_ble_eq_true rfl), (Nat.le_of_ble_eq_true rfl)⟩) ⟨fb_X, va_recv hK hP (ci := 4) (q0 := 0) rfl rfl, pre_X hE hS hFc hP hK hD⟩ rfl rfl hl.1 rfl (lv_room (Nat.le_of_ble_eq_true rfl)) d_M_how_119 ⟨(Nat.le_of_ble_eq_true rfl), (Nat.le_of_ble_eq_true rfl)⟩) hS (fun q _ h9 => hFc q h9) hFc (fun u_172 t H locs het hvm hw hB hz1 hk1 hS => ?_)
            obtain ⟨sa_163, so_164, pl_165, fa_166, op_167, si_168, le_169, tx_170, st_171⟩ := u_172
            try dsimp only at hw
            obtain ⟨p_174, p_175, p_176, p_177, p_178, p_179, p_180, p_181, p_182, p_183⟩ := hw
            obtain ⟨hP1, hK1, hD1⟩ := hB
            rw [het] at hP1
            have hP : va_P (dC, dI) cls (ME h g ss sa_163 so_164 pl_165 si_168 fa_166 li co st_171 rq bl te op_167 wo wz sr le_169 tx_170 ro) H := hP1
            have hD : va_D A (ME h g ss sa_163 so_164 pl_165 si_168 fa_166 li co st_171 rq bl te op_167 wo wz sr le_169 tx_170 ro) := hD1.weaken (fun _ _ _ h9 => hFc _ h9)
            have rl_184 := rSS rl_88 p_183
            refine lv_iload_n hx hb d_M_how_122 rfl (lv_at hl 1 rfl) ?_
            refine lv_bipush (v := 38) hx hb d_M_how_123 (by decide) ?_
            refine lv_icmp_ne (tgt := 135) hx hb d_M_how_125 (by decide) (fun c_185 => ?_) (fun c_185 => ?_)
            · refine lv_goto (tgt := 2) hx hb d_M_how_135 (by decide) ?_
              obtain ⟨ym_186a, ym_186b⟩ := PS.yd rl_184 (by omega)
              exact ih.1 (se ||| bt) sa_163 so_164 pl_165 fa_166 op_167 si_168 le_169 tx_170 st_171 (rRS v_0 rl_184).pr (by omega) (by omega) (by omega) (by omega) (by omega) (by omega) (by omega) (by omega) (by omega) (by omega) _ _ ls hP hD hS (lv_sub hl [0, 3, 4] rfl)
            · refine lv_aload_n hx hb d_M_how_128 rfl (lv_at hl 3 rfl) ?_
              refine lv_bipush (v := 48) hx hb d_M_how_129 (by decide) ?_
              refine lv_iconst (v := 3) hx hb d_M_how_131 (by decide) ?_
              have hc_48 : Int32.toInt 48 = 48 := by decide
              have hc_3 : Int32.toInt 3 = 3 := by decide
              have hFc := va_free (wc := (ME h g ss sa_163 so_164 pl_165 si_168 fa_166 li co st_171 rq bl te op_167 wo wz sr le_169 tx_170 ro)) hD hS hA [0, 1, 2, 3, 4, 5, 6] rfl
              refine va_callv (va_runV (As := [.int 48, .int 3]) (rest := []) ⟨hx, hb, hml, hown, ht⟩ (c_M_one l dC dI k h g ss sa_163 so_164 pl_165 si_168 fa_166 li co st_171 rq bl te op_167 wo le_169 wz sr tx_170 ro 48 3 _ (by omega) (by omega) (by omega) (by omega) (by omega) (by omega) (by omega) (by omega) (by omega) (by omega) (by omega) (by omega) (by omega) (by omega)) (cwV 2 ht (g_V k_854 k_856 k_72 k_80 k_857) rfl rfl rfl (by decide +kernel) ⟨(Nat.le_of_ble_eq_true rfl), (Nat.le_of_ble_eq_true rfl)⟩) ⟨fb_X, va_recv hK hP (ci := 4) (q0 := 0) rfl rfl, pre_X hE hS hFc hP hK hD⟩ rfl rfl hl.1 rfl (lv_room (Nat.le_of_ble_eq_true rfl)) d_M_how_132 ⟨(Nat.le_of_ble_eq_true rfl), (Nat.le_of_ble_eq_true rfl)⟩) hS (fun q _ h9 => hFc q h9) hFc (fun u_196 t H locs het hvm hw hB hz1 hk1 hS => ?_)
              obtain ⟨sa_187, so_188, pl_189, fa_190, op_191, si_192, le_193, tx_194, st_195⟩ := u_196
              try dsimp only at hw
              obtain ⟨p_198, p_199, p_200, p_201, p_202, p_203, p_204, p_205, p_206, p_207⟩ := hw
              obtain ⟨hP1, hK1, hD1⟩ := hB
              rw [het] at hP1
              have hP : va_P (dC, dI) cls (ME h g ss sa_187 so_188 pl_189 si_192 fa_190 li co st_195 rq bl te op_191 wo wz sr le_193 tx_194 ro) H := hP1
              have hD : va_D A (ME h g ss sa_187 so_188 pl_189 si_192 fa_190 li co st_195 rq bl te op_191 wo wz sr le_193 tx_194 ro) := hD1.weaken (fun _ _ _ h9 => hFc _ h9)
              have rl_208 := rSS rl_184 p_207
              refine lv_goto (tgt := 2) hx hb d_M_how_135 (by decide) ?_
              obtain ⟨ym_209a, ym_209b⟩ := PS.yd rl_208 (by omega)
              exact ih.1 (se ||| bt) sa_187 so_188 pl_189 fa_190 op_191 si_192 le_193 tx_194 st_195 (rRS v_0 rl_208).pr (by omega) (by omega) (by omega) (by omega) (by omega) (by omega) (by omega) (by omega) (by omega) (by omega) _ _ ls hP hD hS (lv_sub hl [0, 3, 4] rfl)
      · refine lv_iload_n hx hb d_M_how_81 rfl (lv_at hl 1 rfl) ?_
        refine lv_bipush (v := 37) hx hb d_M_how_82 (by decide) ?_
        refine lv_icmp_ne (tgt := 93) hx hb d_M_how_84 (by decide) (fun c_210 => ?_) (fun c_210 => ?_)
        · refine lv_iload_n hx hb d_M_how_93 rfl (lv_at hl 0 rfl) ?_
          refine lv_iload hx hb d_M_how_94 (lv_at hl 2 rfl) ?_
          refine lv_ior hx hb d_M_how_96 ?_
          refine lv_istore_n (lv' := [(2, .int (se ||| bt)), (3, .int w), (4, .int bt), (0, .ref (h 0)), (1, .int ob)]) hx hb d_M_how_97 rfl hl (by decide) rfl (fun ls hl => ?_)
          refine lv_aload_n hx hb d_M_how_98 rfl (lv_at hl 3 rfl) ?_
          have hFc := va_free (wc := (ME h g ss sa so pl si fa li co st rq bl te op wo wz sr le tx ro)) hD hS hA [0, 1, 2, 3, 4, 5, 6] rfl
          refine va_callv (va_runV (As := []) (rest := []) ⟨hx, hb, hml, hown, ht⟩ (c_M_next l dC dI k h g ss sa so pl si fa li co st rq bl te op wo le wz sr tx ro  _ (by omega) (by omega) (by omega) (by omega) (by omega) (by omega) (by omega) (by omega) (by omega) (by omega) (by omega)) (cwV 0 ht (g_V k_694 k_696 k_37 k_80 k_697) rfl rfl rfl (by decide +kernel) ⟨(Nat.le_of_ble_eq_true rfl), (Nat.le_of_ble_eq_true rfl)⟩) ⟨fb_X, va_recv hK hP (ci := 4) (q0 := 0) rfl rfl, pre_X hE hS hFc hP hK hD⟩ rfl rfl hl.1 rfl (lv_room (Nat.le_of_ble_eq_true rfl)) d_M_how_99 ⟨(Nat.le_of_ble_eq_true rfl), (Nat.le_of_ble_eq_true rfl)⟩) hS (fun q _ h9 => hFc q h9) hFc (fun u_219 t H locs het hvm hw hB hz1 hk1 hS => ?_)
          obtain ⟨sa_211, so_212, pl_213, fa_214, op_215, si_216, le_217, tx_218⟩ := u_219
          try dsimp only at hw
          obtain ⟨p_221, p_222, p_223, p_224, p_225, p_226, p_227, p_228, p_229, p_230, p_231⟩ := hw
          obtain ⟨hP1, hK1, hD1⟩ := hB
          rw [het] at hP1
          have hP : va_P (dC, dI) cls (ME h g ss sa_211 so_212 pl_213 si_216 fa_214 li co st rq bl te op_215 wo wz sr le_217 tx_218 ro) H := hP1
          have hD : va_D A (ME h g ss sa_211 so_212 pl_213 si_216 fa_214 li co st rq bl te op_215 wo wz sr le_217 tx_218 ro) := hD1.weaken (fun _ _ _ h9 => hFc _ h9)
          have rl_232 := p_231.resolve_right (by omega)
          refine lv_iload_n hx hb d_M_how_102 rfl (lv_at hl 1 rfl) ?_
          refine lv_bipush (v := 36) hx hb d_M_how_103 (by decide) ?_
          refine lv_icmp_eq (tgt := 114) hx hb d_M_how_105 (by decide) (fun c_233 => ?_) (fun c_233 => ?_)
          · refine lv_aload_n hx hb d_M_how_114 rfl (lv_at hl 3 rfl) ?_
            refine lv_bipush (v := 42) hx hb d_M_how_115 (by decide) ?_
            refine lv_bipush (v := 6) hx hb d_M_how_117 (by decide) ?_
            have hc_42 : Int32.toInt 42 = 42 := by decide
            have hc_6 : Int32.toInt 6 = 6 := by decide
            have hFc := va_free (wc := (ME h g ss sa_211 so_212 pl_213 si_216 fa_214 li co st rq bl te op_215 wo wz sr le_217 tx_218 ro)) hD hS hA [0, 1, 2, 3, 4, 5, 6] rfl
            refine va_callv (va_runV (As := [.int 42, .int 6]) (rest := []) ⟨hx, hb, hml, hown, ht⟩ (c_M_one l dC dI k h g ss sa_211 so_212 pl_213 si_216 fa_214 li co st rq bl te op_215 wo le_217 wz sr tx_218 ro 42 6 _ (by omega) (by omega) (by omega) (by omega) (by omega) (by omega) (by omega) (by omega) (by omega) (by omega) (by omega) (by omega) (by omega) (by omega)) (cwV 2 ht (g_V k_854 k_856 k_72 k_80 k_857) rfl rfl rfl (by decide +kernel) ⟨(Nat.le_of_ble_eq_true rfl), (Nat.le_of_ble_eq_true rfl)⟩) ⟨fb_X, va_recv hK hP (ci := 4) (q0 := 0) rfl rfl, pre_X hE hS hFc hP hK hD⟩ rfl rfl hl.1 rfl (lv_room (Nat.le_of_ble_eq_true rfl)) d_M_how_119 ⟨(Nat.le_of_ble_eq_true rfl), (Nat.le_of_ble_eq_true rfl)⟩) hS (fun q _ h9 => hFc q h9) hFc (fun u_243 t H locs het hvm hw hB hz1 hk1 hS => ?_)
            obtain ⟨sa_234, so_235, pl_236, fa_237, op_238, si_239, le_240, tx_241, st_242⟩ := u_243
            try dsimp only at hw
            obtain ⟨p_245, p_246, p_247, p_248, p_249, p_250, p_251, p_252, p_253, p_254⟩ := hw
            obtain ⟨hP1, hK1, hD1⟩ := hB
            rw [het] at hP1
            have hP : va_P (dC, dI) cls (ME h g ss sa_234 so_235 pl_236 si_239 fa_237 li co st_242 rq bl te op_238 wo wz sr le_240 tx_241 ro) H := hP1
            have hD : va_D A (ME h g ss sa_234 so_235 pl_236 si_239 fa_237 li co st_242 rq bl te op_238 wo wz sr le_240 tx_241 ro) := hD1.weaken (fun _ _ _ h9 => hFc _ h9)
            have rl_255 := rSS rl_232 p_254
            refine lv_iload_n hx hb d_M_how_122 rfl (lv_at hl 1 rfl) ?_
            refine lv_bipush (v := 38) hx hb d_M_how_123 (by decide) ?_
            refine lv_icmp_ne (tgt := 135) hx hb d_M_how_125 (by decide) (fun c_256 => ?_) (fun c_256 => ?_)
            · refine lv_goto (tgt := 2) hx hb d_M_how_135 (by decide) ?_
              obtain ⟨ym_257a, ym_257b⟩ := PS.yd rl_255 (by omega)
              exact ih.1 (se ||| bt) sa_234 so_235 pl_236 fa_237 op_238 si_239 le_240 tx_241 st_242 (rRS v_0 rl_255).pr (by omega) (by omega) (by omega) (by omega) (by omega) (by omega) (by omega) (by omega) (by omega) (by omega) _ _ ls hP hD hS (lv_sub hl [0, 3, 4] rfl)
            · refine lv_aload_n hx hb d_M_how_128 rfl (lv_at hl 3 rfl) ?_
              refine lv_bipush (v := 48) hx hb d_M_how_129 (by decide) ?_
              refine lv_iconst (v := 3) hx hb d_M_how_131 (by decide) ?_
              have hc_48 : Int32.toInt 48 = 48 := by decide
              have hc_3 : Int32.toInt 3 = 3 := by decide
              have hFc := va_free (wc := (ME h g ss sa_234 so_235 pl_236 si_239 fa_237 li co st_242 rq bl te op_238 wo wz sr le_240 tx_241 ro)) hD hS hA [0, 1, 2, 3, 4, 5, 6] rfl
              refine va_callv (va_runV (As := [.int 48, .int 3]) (rest := []) ⟨hx, hb, hml, hown, ht⟩ (c_M_one l dC dI k h g ss sa_234 so_235 pl_236 si_239 fa_237 li co st_242 rq bl te op_238 wo le_240 wz sr tx_241 ro 48 3 _ (by omega) (by omega) (by omega) (by omega) (by omega) (by omega) (by omega) (by omega) (by omega) (by omega) (by omega) (by omega) (by omega) (by omega)) (cwV 2 ht (g_V k_854 k_856 k_72 k_80 k_857) rfl rfl rfl (by decide +kernel) ⟨(Nat.le_of_ble_eq_true rfl), (Nat.le_of_ble_eq_true rfl)⟩) ⟨fb_X, va_recv hK hP (ci := 4) (q0 := 0) rfl rfl, pre_X hE hS hFc hP hK hD⟩ rfl rfl hl.1 rfl (lv_room (Nat.le_of_ble_eq_true rfl)) d_M_how_132 ⟨(Nat.le_of_ble_eq_true rfl), (Nat.le_of_ble_eq_true rfl)⟩) hS (fun q _ h9 => hFc q h9) hFc (fun u_267 t H locs het hvm hw hB hz1 hk1 hS => ?_)
              obtain ⟨sa_258, so_259, pl_260, fa_261, op_262, si_263, le_264, tx_265, st_266⟩ := u_267
              try dsimp only at hw
              obtain ⟨p_269, p_270, p_271, p_272, p_273, p_274, p_275, p_276, p_277, p_278⟩ := hw
              obtain ⟨hP1, hK1, hD1⟩ := hB
              rw [het] at hP1
              have hP : va_P (dC, dI) cls (ME h g ss sa_258 so_259 pl_260 si_263 fa_261 li co st_266 rq bl te op_262 wo wz sr le_264 tx_265 ro) H := hP1
              have hD : va_D A (ME h g ss sa_258 so_259 pl_260 si_263 fa_261 li co st_266 rq bl te op_262 wo wz sr le_264 tx_265 ro) := hD1.weaken (fun _ _ _ h9 => hFc _ h9)
              have rl_279 := rSS rl_255 p_278
              refine lv_goto (tgt := 2) hx hb d_M_how_135 (by decide) ?_
              obtain ⟨ym_280a, ym_280b⟩ := PS.yd rl_279 (by omega)
              exact ih.1 (se ||| bt) sa_258 so_259 pl_260 fa_261 op_262 si_263 le_264 tx_265 st_266 (rRS v_0 rl_279).pr (by omega) (by omega) (by omega) (by omega) (by omega) (by omega) (by omega) (by omega) (by omega) (by omega) _ _ ls hP hD hS (lv_sub hl [0, 3, 4] rfl)
          · refine lv_iload_n hx hb d_M_how_108 rfl (lv_at hl 1 rfl) ?_
            refine lv_bipush (v := 37) hx hb d_M_how_109 (by decide) ?_
            refine lv_icmp_ne (tgt := 122) hx hb d_M_how_111 (by decide) (fun c_281 => ?_) (fun c_281 => ?_)
            · refine lv_iload_n hx hb d_M_how_122 rfl (lv_at hl 1 rfl) ?_
              refine lv_bipush (v := 38) hx hb d_M_how_123 (by decide) ?_
              refine lv_icmp_ne (tgt := 135) hx hb d_M_how_125 (by decide) (fun c_282 => ?_) (fun c_282 => ?_)
              · refine lv_goto (tgt := 2) hx hb d_M_how_135 (by decide) ?_
                obtain ⟨ym_283a, ym_283b⟩ := PS.yd rl_232 (by omega)
                exact ih.1 (se ||| bt) sa_211 so_212 pl_213 fa_214 op_215 si_216 le_217 tx_218 st (rRS v_0 rl_232).pr (by omega) (by omega) (by omega) (by omega) (by omega) (by omega) (by omega) (by omega) (by omega) (by omega) _ _ ls hP hD hS (lv_sub hl [0, 3, 4] rfl)
              · refine lv_aload_n hx hb d_M_how_128 rfl (lv_at hl 3 rfl) ?_
                refine lv_bipush (v := 48) hx hb d_M_how_129 (by decide) ?_
                refine lv_iconst (v := 3) hx hb d_M_how_131 (by decide) ?_
                have hc_48 : Int32.toInt 48 = 48 := by decide
                have hc_3 : Int32.toInt 3 = 3 := by decide
                have hFc := va_free (wc := (ME h g ss sa_211 so_212 pl_213 si_216 fa_214 li co st rq bl te op_215 wo wz sr le_217 tx_218 ro)) hD hS hA [0, 1, 2, 3, 4, 5, 6] rfl
                refine va_callv (va_runV (As := [.int 48, .int 3]) (rest := []) ⟨hx, hb, hml, hown, ht⟩ (c_M_one l dC dI k h g ss sa_211 so_212 pl_213 si_216 fa_214 li co st rq bl te op_215 wo le_217 wz sr tx_218 ro 48 3 _ (by omega) (by omega) (by omega) (by omega) (by omega) (by omega) (by omega) (by omega) (by omega) (by omega) (by omega) (by omega) (by omega) (by omega)) (cwV 2 ht (g_V k_854 k_856 k_72 k_80 k_857) rfl rfl rfl (by decide +kernel) ⟨(Nat.le_of_ble_eq_true rfl), (Nat.le_of_ble_eq_true rfl)⟩) ⟨fb_X, va_recv hK hP (ci := 4) (q0 := 0) rfl rfl, pre_X hE hS hFc hP hK hD⟩ rfl rfl hl.1 rfl (lv_room (Nat.le_of_ble_eq_true rfl)) d_M_how_132 ⟨(Nat.le_of_ble_eq_true rfl), (Nat.le_of_ble_eq_true rfl)⟩) hS (fun q _ h9 => hFc q h9) hFc (fun u_293 t H locs het hvm hw hB hz1 hk1 hS => ?_)
                obtain ⟨sa_284, so_285, pl_286, fa_287, op_288, si_289, le_290, tx_291, st_292⟩ := u_293
                try dsimp only at hw
                obtain ⟨p_295, p_296, p_297, p_298, p_299, p_300, p_301, p_302, p_303, p_304⟩ := hw
                obtain ⟨hP1, hK1, hD1⟩ := hB
                rw [het] at hP1
                have hP : va_P (dC, dI) cls (ME h g ss sa_284 so_285 pl_286 si_289 fa_287 li co st_292 rq bl te op_288 wo wz sr le_290 tx_291 ro) H := hP1
                have hD : va_D A (ME h g ss sa_284 so_285 pl_286 si_289 fa_287 li co st_292 rq bl te op_288 wo wz sr le_290 tx_291 ro) := hD1.weaken (fun _ _ _ h9 => hFc _ h9)
                have rl_305 := rSS rl_232 p_304
                refine lv_goto (tgt := 2) hx hb d_M_how_135 (by decide) ?_
                obtain ⟨ym_306a, ym_306b⟩ := PS.yd rl_305 (by omega)
                exact ih.1 (se ||| bt) sa_284 so_285 pl_286 fa_287 op_288 si_289 le_290 tx_291 st_292 (rRS v_0 rl_305).pr (by omega) (by omega) (by omega) (by omega) (by omega) (by omega) (by omega) (by omega) (by omega) (by omega) _ _ ls hP hD hS (lv_sub hl [0, 3, 4] rfl)
            · refine lv_aload_n hx hb d_M_how_114 rfl (lv_at hl 3 rfl) ?_
              refine lv_bipush (v := 42) hx hb d_M_how_115 (by decide) ?_
              refine lv_bipush (v := 6) hx hb d_M_how_117 (by decide) ?_
              have hc_42 : Int32.toInt 42 = 42 := by decide
              have hc_6 : Int32.toInt 6 = 6 := by decide
              have hFc := va_free (wc := (ME h g ss sa_211 so_212 pl_213 si_216 fa_214 li co st rq bl te op_215 wo wz sr le_217 tx_218 ro)) hD hS hA [0, 1, 2, 3, 4, 5, 6] rfl
              refine va_callv (va_runV (As := [.int 42, .int 6]) (rest := []) ⟨hx, hb, hml, hown, ht⟩ (c_M_one l dC dI k h g ss sa_211 so_212 pl_213 si_216 fa_214 li co st rq bl te op_215 wo le_217 wz sr tx_218 ro 42 6 _ (by omega) (by omega) (by omega) (by omega) (by omega) (by omega) (by omega) (by omega) (by omega) (by omega) (by omega) (by omega) (by omega) (by omega)) (cwV 2 ht (g_V k_854 k_856 k_72 k_80 k_857) rfl rfl rfl (by decide +kernel) ⟨(Nat.le_of_ble_eq_true rfl), (Nat.le_of_ble_eq_true rfl)⟩) ⟨fb_X, va_recv hK hP (ci := 4) (q0 := 0) rfl rfl, pre_X hE hS hFc hP hK hD⟩ rfl rfl hl.1 rfl (lv_room (Nat.le_of_ble_eq_true rfl)) d_M_how_119 ⟨(Nat.le_of_ble_eq_true rfl), (Nat.le_of_ble_eq_true rfl)⟩) hS (fun q _ h9 => hFc q h9) hFc (fun u_316 t H locs het hvm hw hB hz1 hk1 hS => ?_)
              obtain ⟨sa_307, so_308, pl_309, fa_310, op_311, si_312, le_313, tx_314, st_315⟩ := u_316
              try dsimp only at hw
              obtain ⟨p_318, p_319, p_320, p_321, p_322, p_323, p_324, p_325, p_326, p_327⟩ := hw
              obtain ⟨hP1, hK1, hD1⟩ := hB
              rw [het] at hP1
              have hP : va_P (dC, dI) cls (ME h g ss sa_307 so_308 pl_309 si_312 fa_310 li co st_315 rq bl te op_311 wo wz sr le_313 tx_314 ro) H := hP1
              have hD : va_D A (ME h g ss sa_307 so_308 pl_309 si_312 fa_310 li co st_315 rq bl te op_311 wo wz sr le_313 tx_314 ro) := hD1.weaken (fun _ _ _ h9 => hFc _ h9)
              have rl_328 := rSS rl_232 p_327
              refine lv_iload_n hx hb d_M_how_122 rfl (lv_at hl 1 rfl) ?_
              refine lv_bipush (v := 38) hx hb d_M_how_123 (by decide) ?_
              refine lv_icmp_ne (tgt := 135) hx hb d_M_how_125 (by decide) (fun c_329 => ?_) (fun c_329 => ?_)
              · refine lv_goto (tgt := 2) hx hb d_M_how_135 (by decide) ?_
                obtain ⟨ym_330a, ym_330b⟩ := PS.yd rl_328 (by omega)
                exact ih.1 (se ||| bt) sa_307 so_308 pl_309 fa_310 op_311 si_312 le_313 tx_314 st_315 (rRS v_0 rl_328).pr (by omega) (by omega) (by omega) (by omega) (by omega) (by omega) (by omega) (by omega) (by omega) (by omega) _ _ ls hP hD hS (lv_sub hl [0, 3, 4] rfl)
              · refine lv_aload_n hx hb d_M_how_128 rfl (lv_at hl 3 rfl) ?_
                refine lv_bipush (v := 48) hx hb d_M_how_129 (by decide) ?_
                refine lv_iconst (v := 3) hx hb d_M_how_131 (by decide) ?_
                have hc_48 : Int32.toInt 48 = 48 := by decide
                have hc_3 : Int32.toInt 3 = 3 := by decide
                have hFc := va_free (wc := (ME h g ss sa_307 so_308 pl_309 si_312 fa_310 li co st_315 rq bl te op_311 wo wz sr le_313 tx_314 ro)) hD hS hA [0, 1, 2, 3, 4, 5, 6] rfl
                refine va_callv (va_runV (As := [.int 48, .int 3]) (rest := []) ⟨hx, hb, hml, hown, ht⟩ (c_M_one l dC dI k h g ss sa_307 so_308 pl_309 si_312 fa_310 li co st_315 rq bl te op_311 wo le_313 wz sr tx_314 ro 48 3 _ (by omega) (by omega) (by omega) (by omega) (by omega) (by omega) (by omega) (by omega) (by omega) (by omega) (by omega) (by omega) (by omega) (by omega)) (cwV 2 ht (g_V k_854 k_856 k_72 k_80 k_857) rfl rfl rfl (by decide +kernel) ⟨(Nat.le_of_ble_eq_true rfl), (Nat.le_of_ble_eq_true rfl)⟩) ⟨fb_X, va_recv hK hP (ci := 4) (q0 := 0) rfl rfl, pre_X hE hS hFc hP hK hD⟩ rfl rfl hl.1 rfl (lv_room (Nat.le_of_ble_eq_true rfl)) d_M_how_132 ⟨(Nat.le_of_ble_eq_true rfl), (Nat.le_of_ble_eq_true rfl)⟩) hS (fun q _ h9 => hFc q h9) hFc (fun u_340 t H locs het hvm hw hB hz1 hk1 hS => ?_)
                obtain ⟨sa_331, so_332, pl_333, fa_334, op_335, si_336, le_337, tx_338, st_339⟩ := u_340
                try dsimp only at hw
                obtain ⟨p_342, p_343, p_344, p_345, p_346, p_347, p_348, p_349, p_350, p_351⟩ := hw
                obtain ⟨hP1, hK1, hD1⟩ := hB
                rw [het] at hP1
                have hP : va_P (dC, dI) cls (ME h g ss sa_331 so_332 pl_333 si_336 fa_334 li co st_339 rq bl te op_335 wo wz sr le_337 tx_338 ro) H := hP1
                have hD : va_D A (ME h g ss sa_331 so_332 pl_333 si_336 fa_334 li co st_339 rq bl te op_335 wo wz sr le_337 tx_338 ro) := hD1.weaken (fun _ _ _ h9 => hFc _ h9)
                have rl_352 := rSS rl_328 p_351
                refine lv_goto (tgt := 2) hx hb d_M_how_135 (by decide) ?_
                obtain ⟨ym_353a, ym_353b⟩ := PS.yd rl_352 (by omega)
                exact ih.1 (se ||| bt) sa_331 so_332 pl_333 fa_334 op_335 si_336 le_337 tx_338 st_339 (rRS v_0 rl_352).pr (by omega) (by omega) (by omega) (by omega) (by omega) (by omega) (by omega) (by omega) (by omega) (by omega) _ _ ls hP hD hS (lv_sub hl [0, 3, 4] rfl)
        · refine lv_aload_n hx hb d_M_how_87 rfl (lv_at hl 3 rfl) ?_
          refine lv_bipush (v := 32) hx hb d_M_how_88 (by decide) ?_
          have hc_32 : Int32.toInt 32 = 32 := by decide
          have hFc := va_free (wc := (ME h g ss sa so pl si fa li co st rq bl te op wo wz sr le tx ro)) hD hS hA [0, 1, 2, 3, 4, 5, 6] rfl
          refine va_callv (va_runV (As := [.int 32]) (rest := []) ⟨hx, hb, hml, hown, ht⟩ (c_M_needs l dC dI k h g ss sa so pl si fa li co st rq bl te op wo le wz sr tx ro 32 _ (by omega) (by omega) (by omega) (by omega) (by omega)) (cwV 1 ht (g_V k_811 k_813 k_62 k_80 k_814) rfl rfl rfl (by decide +kernel) ⟨(Nat.le_of_ble_eq_true rfl), (Nat.le_of_ble_eq_true rfl)⟩) ⟨fb_X, va_recv hK hP (ci := 4) (q0 := 0) rfl rfl, pre_X hE hS hFc hP hK hD⟩ rfl rfl hl.1 rfl (lv_room (Nat.le_of_ble_eq_true rfl)) d_M_how_90 ⟨(Nat.le_of_ble_eq_true rfl), (Nat.le_of_ble_eq_true rfl)⟩) hS (fun q _ h9 => hFc q h9) hFc (fun u_357 t H locs het hvm hw hB hz1 hk1 hS => ?_)
          obtain ⟨so_354, fa_355, op_356⟩ := u_357
          try dsimp only at hw
          obtain ⟨p_359, p_360, p_361, p_362, p_363⟩ := hw
          obtain ⟨hP1, hK1, hD1⟩ := hB
          rw [het] at hP1
          have hP : va_P (dC, dI) cls (ME h g ss sa so_354 pl si fa_355 li co st rq bl te op_356 wo wz sr le tx ro) H := hP1
          have hD : va_D A (ME h g ss sa so_354 pl si fa_355 li co st rq bl te op_356 wo wz sr le tx ro) := hD1.weaken (fun _ _ _ h9 => hFc _ h9)
          refine lv_iload_n hx hb d_M_how_93 rfl (lv_at hl 0 rfl) ?_
          refine lv_iload hx hb d_M_how_94 (lv_at hl 2 rfl) ?_
          refine lv_ior hx hb d_M_how_96 ?_
          refine lv_istore_n (lv' := [(2, .int (se ||| bt)), (3, .int w), (4, .int bt), (0, .ref (h 0)), (1, .int ob)]) hx hb d_M_how_97 rfl hl (by decide) rfl (fun ls hl => ?_)
          refine lv_aload_n hx hb d_M_how_98 rfl (lv_at hl 3 rfl) ?_
          have hFc := va_free (wc := (ME h g ss sa so_354 pl si fa_355 li co st rq bl te op_356 wo wz sr le tx ro)) hD hS hA [0, 1, 2, 3, 4, 5, 6] rfl
          refine va_callv (va_runV (As := []) (rest := []) ⟨hx, hb, hml, hown, ht⟩ (c_M_next l dC dI k h g ss sa so_354 pl si fa_355 li co st rq bl te op_356 wo le wz sr tx ro  _ (by omega) (by omega) (by omega) (by omega) (by omega) (by omega) (by omega) (by omega) (by omega) (by omega) (by omega)) (cwV 0 ht (g_V k_694 k_696 k_37 k_80 k_697) rfl rfl rfl (by decide +kernel) ⟨(Nat.le_of_ble_eq_true rfl), (Nat.le_of_ble_eq_true rfl)⟩) ⟨fb_X, va_recv hK hP (ci := 4) (q0 := 0) rfl rfl, pre_X hE hS hFc hP hK hD⟩ rfl rfl hl.1 rfl (lv_room (Nat.le_of_ble_eq_true rfl)) d_M_how_99 ⟨(Nat.le_of_ble_eq_true rfl), (Nat.le_of_ble_eq_true rfl)⟩) hS (fun q _ h9 => hFc q h9) hFc (fun u_372 t H locs het hvm hw hB hz1 hk1 hS => ?_)
          obtain ⟨sa_364, so_365, pl_366, fa_367, op_368, si_369, le_370, tx_371⟩ := u_372
          try dsimp only at hw
          obtain ⟨p_374, p_375, p_376, p_377, p_378, p_379, p_380, p_381, p_382, p_383, p_384⟩ := hw
          obtain ⟨hP1, hK1, hD1⟩ := hB
          rw [het] at hP1
          have hP : va_P (dC, dI) cls (ME h g ss sa_364 so_365 pl_366 si_369 fa_367 li co st rq bl te op_368 wo wz sr le_370 tx_371 ro) H := hP1
          have hD : va_D A (ME h g ss sa_364 so_365 pl_366 si_369 fa_367 li co st rq bl te op_368 wo wz sr le_370 tx_371 ro) := hD1.weaken (fun _ _ _ h9 => hFc _ h9)
          have rl_385 := p_384.resolve_right (by omega)
          have rl_386 := rRS p_362 rl_385
          refine lv_iload_n hx hb d_M_how_102 rfl (lv_at hl 1 rfl) ?_
          refine lv_bipush (v := 36) hx hb d_M_how_103 (by decide) ?_
          refine lv_icmp_eq (tgt := 114) hx hb d_M_how_105 (by decide) (fun c_387 => ?_) (fun c_387 => ?_)
          · refine lv_aload_n hx hb d_M_how_114 rfl (lv_at hl 3 rfl) ?_
            refine lv_bipush (v := 42) hx hb d_M_how_115 (by decide) ?_
            refine lv_bipush (v := 6) hx hb d_M_how_117 (by decide) ?_
            have hc_42 : Int32.toInt 42 = 42 := by decide
            have hc_6 : Int32.toInt 6 = 6 := by decide
            have hFc := va_free (wc := (ME h g ss sa_364 so_365 pl_366 si_369 fa_367 li co st rq bl te op_368 wo wz sr le_370 tx_371 ro)) hD hS hA [0, 1, 2, 3, 4, 5, 6] rfl
            refine va_callv (va_runV (As := [.int 42, .int 6]) (rest := []) ⟨hx, hb, hml, hown, ht⟩ (c_M_one l dC dI k h g ss sa_364 so_365 pl_366 si_369 fa_367 li co st rq bl te op_368 wo le_370 wz sr tx_371 ro 42 6 _ (by omega) (by omega) (by omega) (by omega) (by omega) (by omega) (by omega) (by omega) (by omega) (by omega) (by omega) (by omega) (by omega) (by omega)) (cwV 2 ht (g_V k_854 k_856 k_72 k_80 k_857) rfl rfl rfl (by decide +kernel) ⟨(Nat.le_of_ble_eq_true rfl), (Nat.le_of_ble_eq_true rfl)⟩) ⟨fb_X, va_recv hK hP (ci := 4) (q0 := 0) rfl rfl, pre_X hE hS hFc hP hK hD⟩ rfl rfl hl.1 rfl (lv_room (Nat.le_of_ble_eq_true rfl)) d_M_how_119 ⟨(Nat.le_of_ble_eq_true rfl), (Nat.le_of_ble_eq_true rfl)⟩) hS (fun q _ h9 => hFc q h9) hFc (fun u_397 t H locs het hvm hw hB hz1 hk1 hS => ?_)
            obtain ⟨sa_388, so_389, pl_390, fa_391, op_392, si_393, le_394, tx_395, st_396⟩ := u_397
            try dsimp only at hw
            obtain ⟨p_399, p_400, p_401, p_402, p_403, p_404, p_405, p_406, p_407, p_408⟩ := hw
            obtain ⟨hP1, hK1, hD1⟩ := hB
            rw [het] at hP1
            have hP : va_P (dC, dI) cls (ME h g ss sa_388 so_389 pl_390 si_393 fa_391 li co st_396 rq bl te op_392 wo wz sr le_394 tx_395 ro) H := hP1
            have hD : va_D A (ME h g ss sa_388 so_389 pl_390 si_393 fa_391 li co st_396 rq bl te op_392 wo wz sr le_394 tx_395 ro) := hD1.weaken (fun _ _ _ h9 => hFc _ h9)
            have rl_409 := rSS rl_386 p_408
            refine lv_iload_n hx hb d_M_how_122 rfl (lv_at hl 1 rfl) ?_
            refine lv_bipush (v := 38) hx hb d_M_how_123 (by decide) ?_
            refine lv_icmp_ne (tgt := 135) hx hb d_M_how_125 (by decide) (fun c_410 => ?_) (fun c_410 => ?_)
            · refine lv_goto (tgt := 2) hx hb d_M_how_135 (by decide) ?_
              obtain ⟨ym_411a, ym_411b⟩ := PS.yd rl_409 (by omega)
              exact ih.1 (se ||| bt) sa_388 so_389 pl_390 fa_391 op_392 si_393 le_394 tx_395 st_396 (rRS v_0 rl_409).pr (by omega) (by omega) (by omega) (by omega) (by omega) (by omega) (by omega) (by omega) (by omega) (by omega) _ _ ls hP hD hS (lv_sub hl [0, 3, 4] rfl)
            · refine lv_aload_n hx hb d_M_how_128 rfl (lv_at hl 3 rfl) ?_
              refine lv_bipush (v := 48) hx hb d_M_how_129 (by decide) ?_
              refine lv_iconst (v := 3) hx hb d_M_how_131 (by decide) ?_
              have hc_48 : Int32.toInt 48 = 48 := by decide
              have hc_3 : Int32.toInt 3 = 3 := by decide
              have hFc := va_free (wc := (ME h g ss sa_388 so_389 pl_390 si_393 fa_391 li co st_396 rq bl te op_392 wo wz sr le_394 tx_395 ro)) hD hS hA [0, 1, 2, 3, 4, 5, 6] rfl
              refine va_callv (va_runV (As := [.int 48, .int 3]) (rest := []) ⟨hx, hb, hml, hown, ht⟩ (c_M_one l dC dI k h g ss sa_388 so_389 pl_390 si_393 fa_391 li co st_396 rq bl te op_392 wo le_394 wz sr tx_395 ro 48 3 _ (by omega) (by omega) (by omega) (by omega) (by omega) (by omega) (by omega) (by omega) (by omega) (by omega) (by omega) (by omega) (by omega) (by omega)) (cwV 2 ht (g_V k_854 k_856 k_72 k_80 k_857) rfl rfl rfl (by decide +kernel) ⟨(Nat.le_of_ble_eq_true rfl), (Nat.le_of_ble_eq_true rfl)⟩) ⟨fb_X, va_recv hK hP (ci := 4) (q0 := 0) rfl rfl, pre_X hE hS hFc hP hK hD⟩ rfl rfl hl.1 rfl (lv_room (Nat.le_of_ble_eq_true rfl)) d_M_how_132 ⟨(Nat.le_of_ble_eq_true rfl), (Nat.le_of_ble_eq_true rfl)⟩) hS (fun q _ h9 => hFc q h9) hFc (fun u_421 t H locs het hvm hw hB hz1 hk1 hS => ?_)
              obtain ⟨sa_412, so_413, pl_414, fa_415, op_416, si_417, le_418, tx_419, st_420⟩ := u_421
              try dsimp only at hw
              obtain ⟨p_423, p_424, p_425, p_426, p_427, p_428, p_429, p_430, p_431, p_432⟩ := hw
              obtain ⟨hP1, hK1, hD1⟩ := hB
              rw [het] at hP1
              have hP : va_P (dC, dI) cls (ME h g ss sa_412 so_413 pl_414 si_417 fa_415 li co st_420 rq bl te op_416 wo wz sr le_418 tx_419 ro) H := hP1
              have hD : va_D A (ME h g ss sa_412 so_413 pl_414 si_417 fa_415 li co st_420 rq bl te op_416 wo wz sr le_418 tx_419 ro) := hD1.weaken (fun _ _ _ h9 => hFc _ h9)
              have rl_433 := rSS rl_409 p_432
              refine lv_goto (tgt := 2) hx hb d_M_how_135 (by decide) ?_
              obtain ⟨ym_434a, ym_434b⟩ := PS.yd rl_433 (by omega)
              exact ih.1 (se ||| bt) sa_412 so_413 pl_414 fa_415 op_416 si_417 le_418 tx_419 st_420 (rRS v_0 rl_433).pr (by omega) (by omega) (by omega) (by omega) (by omega) (by omega) (by omega) (by omega) (by omega) (by omega) _ _ ls hP hD hS (lv_sub hl [0, 3, 4] rfl)
          · refine lv_iload_n hx hb d_M_how_108 rfl (lv_at hl 1 rfl) ?_
            refine lv_bipush (v := 37) hx hb d_M_how_109 (by decide) ?_
            refine lv_icmp_ne (tgt := 122) hx hb d_M_how_111 (by decide) (fun c_435 => ?_) (fun c_435 => ?_)
            · refine lv_iload_n hx hb d_M_how_122 rfl (lv_at hl 1 rfl) ?_
              refine lv_bipush (v := 38) hx hb d_M_how_123 (by decide) ?_
              refine lv_icmp_ne (tgt := 135) hx hb d_M_how_125 (by decide) (fun c_436 => ?_) (fun c_436 => ?_)
              · refine lv_goto (tgt := 2) hx hb d_M_how_135 (by decide) ?_
                obtain ⟨ym_437a, ym_437b⟩ := PS.yd rl_386 (by omega)
                exact ih.1 (se ||| bt) sa_364 so_365 pl_366 fa_367 op_368 si_369 le_370 tx_371 st (rRS v_0 rl_386).pr (by omega) (by omega) (by omega) (by omega) (by omega) (by omega) (by omega) (by omega) (by omega) (by omega) _ _ ls hP hD hS (lv_sub hl [0, 3, 4] rfl)
              · refine lv_aload_n hx hb d_M_how_128 rfl (lv_at hl 3 rfl) ?_
                refine lv_bipush (v := 48) hx hb d_M_how_129 (by decide) ?_
                refine lv_iconst (v := 3) hx hb d_M_how_131 (by decide) ?_
                have hc_48 : Int32.toInt 48 = 48 := by decide
                have hc_3 : Int32.toInt 3 = 3 := by decide
                have hFc := va_free (wc := (ME h g ss sa_364 so_365 pl_366 si_369 fa_367 li co st rq bl te op_368 wo wz sr le_370 tx_371 ro)) hD hS hA [0, 1, 2, 3, 4, 5, 6] rfl
                refine va_callv (va_runV (As := [.int 48, .int 3]) (rest := []) ⟨hx, hb, hml, hown, ht⟩ (c_M_one l dC dI k h g ss sa_364 so_365 pl_366 si_369 fa_367 li co st rq bl te op_368 wo le_370 wz sr tx_371 ro 48 3 _ (by omega) (by omega) (by omega) (by omega) (by omega) (by omega) (by omega) (by omega) (by omega) (by omega) (by omega) (by omega) (by omega) (by omega)) (cwV 2 ht (g_V k_854 k_856 k_72 k_80 k_857) rfl rfl rfl (by decide +kernel) ⟨(Nat.le_of_ble_eq_true rfl), (Nat.le_of_ble_eq_true rfl)⟩) ⟨fb_X, va_recv hK hP (ci := 4) (q0 := 0) rfl rfl, pre_X hE hS hFc hP hK hD⟩ rfl rfl hl.1 rfl (lv_room (Nat.le_of_ble_eq_true rfl)) d_M_how_132 ⟨(Nat.le_of_ble_eq_true rfl), (Nat.le_of_ble_eq_true rfl)⟩) hS (fun q _ h9 => hFc q h9) hFc (fun u_447 t H locs het hvm hw hB hz1 hk1 hS => ?_)
                obtain ⟨sa_438, so_439, pl_440, fa_441, op_442, si_443, le_444, tx_445, st_446⟩ := u_447
                try dsimp only at hw
                obtain ⟨p_449, p_450, p_451, p_452, p_453, p_454, p_455, p_456, p_457, p_458⟩ := hw
                obtain ⟨hP1, hK1, hD1⟩ := hB
                rw [het] at hP1
                have hP : va_P (dC, dI) cls (ME h g ss sa_438 so_439 pl_440 si_443 fa_441 li co st_446 rq bl te op_442 wo wz sr le_444 tx_445 ro) H := hP1
                have hD : va_D A (ME h g ss sa_438 so_439 pl_440 si_443 fa_441 li co st_446 rq bl te op_442 wo wz sr le_444 tx_445 ro) := hD1.weaken (fun _ _ _ h9 => hFc _ h9)
                have rl_459 := rSS rl_386 p_458
                refine lv_goto (tgt := 2) hx hb d_M_how_135 (by decide) ?_
                obtain ⟨ym_460a, ym_460b⟩ := PS.yd rl_459 (by omega)
                exact ih.1 (se ||| bt) sa_438 so_439 pl_440 fa_441 op_442 si_443 le_444 tx_445 st_446 (rRS v_0 rl_459).pr (by omega) (by omega) (by omega) (by omega) (by omega) (by omega) (by omega) (by omega) (by omega) (by omega) _ _ ls hP hD hS (lv_sub hl [0, 3, 4] rfl)
            · refine lv_aload_n hx hb d_M_how_114 rfl (lv_at hl 3 rfl) ?_
              refine lv_bipush (v := 42) hx hb d_M_how_115 (by decide) ?_
              refine lv_bipush (v := 6) hx hb d_M_how_117 (by decide) ?_
              have hc_42 : Int32.toInt 42 = 42 := by decide
              have hc_6 : Int32.toInt 6 = 6 := by decide
              have hFc := va_free (wc := (ME h g ss sa_364 so_365 pl_366 si_369 fa_367 li co st rq bl te op_368 wo wz sr le_370 tx_371 ro)) hD hS hA [0, 1, 2, 3, 4, 5, 6] rfl
              refine va_callv (va_runV (As := [.int 42, .int 6]) (rest := []) ⟨hx, hb, hml, hown, ht⟩ (c_M_one l dC dI k h g ss sa_364 so_365 pl_366 si_369 fa_367 li co st rq bl te op_368 wo le_370 wz sr tx_371 ro 42 6 _ (by omega) (by omega) (by omega) (by omega) (by omega) (by omega) (by omega) (by omega) (by omega) (by omega) (by omega) (by omega) (by omega) (by omega)) (cwV 2 ht (g_V k_854 k_856 k_72 k_80 k_857) rfl rfl rfl (by decide +kernel) ⟨(Nat.le_of_ble_eq_true rfl), (Nat.le_of_ble_eq_true rfl)⟩) ⟨fb_X, va_recv hK hP (ci := 4) (q0 := 0) rfl rfl, pre_X hE hS hFc hP hK hD⟩ rfl rfl hl.1 rfl (lv_room (Nat.le_of_ble_eq_true rfl)) d_M_how_119 ⟨(Nat.le_of_ble_eq_true rfl), (Nat.le_of_ble_eq_true rfl)⟩) hS (fun q _ h9 => hFc q h9) hFc (fun u_470 t H locs het hvm hw hB hz1 hk1 hS => ?_)
              obtain ⟨sa_461, so_462, pl_463, fa_464, op_465, si_466, le_467, tx_468, st_469⟩ := u_470
              try dsimp only at hw
              obtain ⟨p_472, p_473, p_474, p_475, p_476, p_477, p_478, p_479, p_480, p_481⟩ := hw
              obtain ⟨hP1, hK1, hD1⟩ := hB
              rw [het] at hP1
              have hP : va_P (dC, dI) cls (ME h g ss sa_461 so_462 pl_463 si_466 fa_464 li co st_469 rq bl te op_465 wo wz sr le_467 tx_468 ro) H := hP1
              have hD : va_D A (ME h g ss sa_461 so_462 pl_463 si_466 fa_464 li co st_469 rq bl te op_465 wo wz sr le_467 tx_468 ro) := hD1.weaken (fun _ _ _ h9 => hFc _ h9)
              have rl_482 := rSS rl_386 p_481
              refine lv_iload_n hx hb d_M_how_122 rfl (lv_at hl 1 rfl) ?_
              refine lv_bipush (v := 38) hx hb d_M_how_123 (by decide) ?_
              refine lv_icmp_ne (tgt := 135) hx hb d_M_how_125 (by decide) (fun c_483 => ?_) (fun c_483 => ?_)
              · refine lv_goto (tgt := 2) hx hb d_M_how_135 (by decide) ?_
                obtain ⟨ym_484a, ym_484b⟩ := PS.yd rl_482 (by omega)
                exact ih.1 (se ||| bt) sa_461 so_462 pl_463 fa_464 op_465 si_466 le_467 tx_468 st_469 (rRS v_0 rl_482).pr (by omega) (by omega) (by omega) (by omega) (by omega) (by omega) (by omega) (by omega) (by omega) (by omega) _ _ ls hP hD hS (lv_sub hl [0, 3, 4] rfl)
              · refine lv_aload_n hx hb d_M_how_128 rfl (lv_at hl 3 rfl) ?_
                refine lv_bipush (v := 48) hx hb d_M_how_129 (by decide) ?_
                refine lv_iconst (v := 3) hx hb d_M_how_131 (by decide) ?_
                have hc_48 : Int32.toInt 48 = 48 := by decide
                have hc_3 : Int32.toInt 3 = 3 := by decide
                have hFc := va_free (wc := (ME h g ss sa_461 so_462 pl_463 si_466 fa_464 li co st_469 rq bl te op_465 wo wz sr le_467 tx_468 ro)) hD hS hA [0, 1, 2, 3, 4, 5, 6] rfl
                refine va_callv (va_runV (As := [.int 48, .int 3]) (rest := []) ⟨hx, hb, hml, hown, ht⟩ (c_M_one l dC dI k h g ss sa_461 so_462 pl_463 si_466 fa_464 li co st_469 rq bl te op_465 wo le_467 wz sr tx_468 ro 48 3 _ (by omega) (by omega) (by omega) (by omega) (by omega) (by omega) (by omega) (by omega) (by omega) (by omega) (by omega) (by omega) (by omega) (by omega)) (cwV 2 ht (g_V k_854 k_856 k_72 k_80 k_857) rfl rfl rfl (by decide +kernel) ⟨(Nat.le_of_ble_eq_true rfl), (Nat.le_of_ble_eq_true rfl)⟩) ⟨fb_X, va_recv hK hP (ci := 4) (q0 := 0) rfl rfl, pre_X hE hS hFc hP hK hD⟩ rfl rfl hl.1 rfl (lv_room (Nat.le_of_ble_eq_true rfl)) d_M_how_132 ⟨(Nat.le_of_ble_eq_true rfl), (Nat.le_of_ble_eq_true rfl)⟩) hS (fun q _ h9 => hFc q h9) hFc (fun u_494 t H locs het hvm hw hB hz1 hk1 hS => ?_)
                obtain ⟨sa_485, so_486, pl_487, fa_488, op_489, si_490, le_491, tx_492, st_493⟩ := u_494
                try dsimp only at hw
                obtain ⟨p_496, p_497, p_498, p_499, p_500, p_501, p_502, p_503, p_504, p_505⟩ := hw
                obtain ⟨hP1, hK1, hD1⟩ := hB
                rw [het] at hP1
                have hP : va_P (dC, dI) cls (ME h g ss sa_485 so_486 pl_487 si_490 fa_488 li co st_493 rq bl te op_489 wo wz sr le_491 tx_492 ro) H := hP1
                have hD : va_D A (ME h g ss sa_485 so_486 pl_487 si_490 fa_488 li co st_493 rq bl te op_489 wo wz sr le_491 tx_492 ro) := hD1.weaken (fun _ _ _ h9 => hFc _ h9)
                have rl_506 := rSS rl_482 p_505
                refine lv_goto (tgt := 2) hx hb d_M_how_135 (by decide) ?_
                obtain ⟨ym_507a, ym_507b⟩ := PS.yd rl_506 (by omega)
                exact ih.1 (se ||| bt) sa_485 so_486 pl_487 fa_488 op_489 si_490 le_491 tx_492 st_493 (rRS v_0 rl_506).pr (by omega) (by omega) (by omega) (by omega) (by omega) (by omega) (by omega) (by omega) (by omega) (by omega) _ _ ls hP hD hS (lv_sub hl [0, 3, 4] rfl)
set_option maxHeartbeats 4000000 in
set_option maxRecDepth 100000 in
theorem bd_M_how_0 {p : Program} {l : Launch} {e : Env} {s : State} {m : MethodId} {args : Array Value} {below : List Frame} {meth : Method} {c : Code} {Q : State → Prop} {A : Nat → Prop} {dC : Nat → ClassId} {dI : Nat → Nat → Nat} {k h : Nat → Nat} {g : Nat → ClassId} {ss : Int32} {li : Int32} {co : Int32} {rq : Int32} {bl : Int32} {te : Int32} {wo : Nat → Int64} {wz : Nat → Int32} {sr : Nat → Int32} {ro : Nat → Int32} {sa0 : Int32} {so0 : Int32} {fa0 : Int32} {op0 : Int32} (hx : p.tables.exec = Jvm.exec) (hb : c.code = b_M_how) (hml : c.maxLocals = 5) (hown : s.vm.findClass "SieveDeskModel" = some m.cls) (ht : ∀ w ∈ TT, w.before args s = true) (hE : KE k A s s.heap) (hA : ∀ q : Nat, s.heap.size ≤ q → A q) (hK : va_K (dC, dI) cls (TM g) s) {ob : Int32} (h_0 : 0 ≤ Int32.toInt ss) (h_1 : Int32.toInt ss ≤ 400) (fin : ∀ (u : Int32 × Int32 × Int32 × Int32 × Int32 × Int32 × (Nat → Int64) × (Nat → Int32) × Int32) (H : Heap) (locs : List Loc) (pc : Nat) (ls : Array Slot), decode b_M_how pc = .ok (.return_, 1) → (0 ≤ Int32.toInt u.1 ∧ Int32.toInt u.1 ≤ Int32.toInt ss ∧ 0 ≤ Int32.toInt u.2.2.1 ∧ Int32.toInt u.2.2.1 ≤ 400 ∧ -1 ≤ Int32.toInt u.2.2.2.1 ∧ Int32.toInt u.2.2.2.1 ≤ 400 ∧ (Int32.toInt u.2.2.2.1 < 0 ∨ (Int32.toInt u.2.1 = 0 ∧ Int32.toInt u.2.2.2.2.1 = 0)) ∧ 0 ≤ Int32.toInt u.2.2.2.2.2.1 ∧ Int32.toInt u.2.2.2.2.2.1 ≤ 400 ∧ PR ss sa0 so0 fa0 op0 u.1 u.2.1 u.2.2.2.1 u.2.2.2.2.1) → va_P (dC, dI) cls (ME h g ss u.1 u.2.1 u.2.2.1 u.2.2.2.2.2.1 u.2.2.2.1 li co u.2.2.2.2.2.2.2.2 rq bl te u.2.2.2.2.1 wo wz sr u.2.2.2.2.2.2.1 u.2.2.2.2.2.2.2.1 ro) H → va_D A (ME h g ss u.1 u.2.1 u.2.2.1 u.2.2.2.2.2.1 u.2.2.2.1 li co u.2.2.2.2.2.2.2.2 rq bl te u.2.2.2.2.1 wo wz sr u.2.2.2.2.2.2.1 u.2.2.2.2.2.2.2.1 ro) → va_S A s.heap H locs → W p l e ({ frames := 6, cells := 0, slots := 0, locals := 129 } : Room) s m args below meth c H locs 0 0 Q (F0 m pc ls [])) : ∀ (sa : Int32) (so : Int32) (pl : Int32) (fa : Int32) (op : Int32) (si : Int32) (le : Nat → Int64) (tx : Nat → Int32) (st : Int32), sa = sa0 → so = so0 → fa = fa0 → op = op0 → 0 ≤ Int32.toInt sa → Int32.toInt sa ≤ Int32.toInt ss → 0 ≤ Int32.toInt pl → Int32.toInt pl ≤ 400 → -1 ≤ Int32.toInt fa → Int32.toInt fa ≤ 400 → (Int32.toInt fa < 0 ∨ (Int32.toInt so = 0 ∧ Int32.toInt op = 0)) → 0 ≤ Int32.toInt si → Int32.toInt si ≤ 400 → ∀ (H : Heap) (locs : List Loc) (ls : Array Slot), va_P (dC, dI) cls (ME h g ss sa so pl si fa li co st rq bl te op wo wz sr le tx ro) H → va_D A (ME h g ss sa so pl si fa li co st rq bl te op wo wz sr le tx ro) → va_S A s.heap H locs → lv_has ls 5 [(0, .ref (h 0)), (1, .int ob)] → W p l e ({ frames := 6, cells := 0, slots := 0, locals := 129 } : Room) s m args below meth c H locs 0 0 Q (F0 m 0 ls []) := by
  intro sa so pl fa op si le tx st v_0 v_1 v_2 v_3 v_4 v_5 v_6 v_7 v_8 v_9 v_10 v_11 v_12 H locs ls hP hD hS hl
  subst v_0
  subst v_1
  subst v_2
  subst v_3
  refine lv_iconst (v := 0) hx hb d_M_how_0 (by decide) ?_
  refine lv_istore_n (lv' := [(2, .int 0), (0, .ref (h 0)), (1, .int ob)]) hx hb d_M_how_1 rfl hl (by decide) rfl (fun ls hl => ?_)
  have hc_0 : Int32.toInt 0 = 0 := by decide
  exact (lp_M_how_g0 (ob := ob) hx hb hml hown ht hE hA hK h_0 h_1 fin _).1 0 sa so pl fa op si le tx st (PR.refl (by omega)) (by omega) (by omega) (by omega) (by omega) (by omega) (by omega) (by omega) (by omega) (by omega) (Nat.lt_succ_self _) _ _ ls hP hD hS (lv_sub hl [0, 1, 2] rfl)
set_option maxHeartbeats 4000000 in
set_option maxRecDepth 100000 in
theorem c_M_how (l : Launch) (dC : Nat → ClassId) (dI : Nat → Nat → Nat) (k : Nat → Nat) (h : Nat → Nat) (g : Nat → ClassId) (ss : Int32) (sa : Int32) (so : Int32) (pl : Int32) (si : Int32) (fa : Int32) (li : Int32) (co : Int32) (st : Int32) (rq : Int32) (bl : Int32) (te : Int32) (op : Int32) (wo : Nat → Int64) (le : Nat → Int64) (wz : Nat → Int32) (sr : Nat → Int32) (tx : Nat → Int32) (ro : Nat → Int32) (ob : Int32) (sz : Nat) (h_0 : 0 ≤ Int32.toInt ss) (h_1 : Int32.toInt ss ≤ 400) (v_0 : 0 ≤ Int32.toInt sa) (v_1 : Int32.toInt sa ≤ Int32.toInt ss) (v_2 : 0 ≤ Int32.toInt pl) (v_3 : Int32.toInt pl ≤ 400) (v_4 : -1 ≤ Int32.toInt fa) (v_5 : Int32.toInt fa ≤ 400) (v_6 : Int32.toInt fa < 0 ∨ (Int32.toInt so = 0 ∧ Int32.toInt op = 0)) (v_7 : 0 ≤ Int32.toInt si) (v_8 : Int32.toInt si ≤ 400) : Met l y_M_how (.code y_M_how b_M_how 5 none :: TT) ({ frames := 6, cells := 0, slots := 0, locals := 129 }) (va_Pc [.ref (h 0), .int ob] (PX dC dI k (TM g) (ME h g ss sa so pl si fa li co st rq bl te op wo wz sr le tx ro) sz)) (va_Qv (fun u : Int32 × Int32 × Int32 × Int32 × Int32 × Int32 × (Nat → Int64) × (Nat → Int32) × Int32 => 0 ≤ Int32.toInt u.1 ∧ Int32.toInt u.1 ≤ Int32.toInt ss ∧ 0 ≤ Int32.toInt u.2.2.1 ∧ Int32.toInt u.2.2.1 ≤ 400 ∧ -1 ≤ Int32.toInt u.2.2.2.1 ∧ Int32.toInt u.2.2.2.1 ≤ 400 ∧ (Int32.toInt u.2.2.2.1 < 0 ∨ (Int32.toInt u.2.1 = 0 ∧ Int32.toInt u.2.2.2.2.1 = 0)) ∧ 0 ≤ Int32.toInt u.2.2.2.2.2.1 ∧ Int32.toInt u.2.2.2.2.2.1 ≤ 400 ∧ PR ss sa so fa op u.1 u.2.1 u.2.2.2.1 u.2.2.2.2.1) (fun u t => BX dC dI (TM g) (va_A (ME h g ss sa so pl si fa li co st rq bl te op wo wz sr le tx ro) sz) (ME h g ss u.1 u.2.1 u.2.2.1 u.2.2.2.2.2.1 u.2.2.2.1 li co u.2.2.2.2.2.2.2.2 rq bl te u.2.2.2.2.1 wo wz sr u.2.2.2.2.2.2.1 u.2.2.2.2.2.2.2.1 ro) t) (va_A (ME h g ss sa so pl si fa li co st rq bl te op wo wz sr le tx ro) sz)) 0 0 (va_A (ME h g ss sa so pl si fa li co st rq bl te op wo wz sr le tx ro) sz) := by
  refine Met.ofW (cc := b_M_how) (maxL := 5) (ret := none) (by decide) rfl ?_
  intro p e s m args below meth c s₁ B hml hv
  obtain ⟨rfl, hsz, hE, hP, hK, hD0⟩ := hv
  have hx := B.exec
  have hb := B.bytes
  have hr := B.returns
  have ht : ∀ w ∈ TT, w.before _ s = true := fun w hw => atoms_spec (ws := .code y_M_how b_M_how 5 none :: TT) B.pre w (List.mem_cons_of_mem _ hw)
  have hown : s.vm.findClass "SieveDeskModel" = some m.cls := findClass_of_methodNamed B.named
  have hlocks := B.notSynchronized
  subst hsz
  have hD := hD0.self (sz := s.heap.size)
  generalize hAe : va_A (ME h g ss sa so pl si fa li co st rq bl te op wo wz sr le tx ro) s.heap.size = A at hE hD ⊢
  have hA : ∀ q : Nat, s.heap.size ≤ q → A q := fun q h9 => by rw [← hAe]; exact Or.inr h9
  have hS : va_S A s.heap s.heap [] := va_S.rf
  have hl := lv_entry ([.ref (h 0), .int ob]) (n := 5) (Nat.le_of_ble_eq_true rfl)
  rw [lg_entry_eq]
  generalize (lg_sl ([.ref (h 0), .int ob]) ++ List.replicate (5 - (lg_sl ([.ref (h 0), .int ob])).length) Slot.unset).toArray = ls at hl ⊢
  have hl : lv_has ls 5 [(0, .ref (h 0)), (1, .int ob)] := hl
  exact bd_M_how_0 (ob := ob) hx hb hml hown ht hE hA hK h_0 h_1 (fun u H locs pc ls hd hp hP hD hS => W.vret hx hb hr (fun t het hW => ⟨⟨u, rfl, hp, by rw [het]; exact hP, va_K.moved hW.alike hK, hD⟩, hS.F het⟩) hS.2.2 hd) sa so pl fa op si le tx st rfl rfl rfl rfl v_0 v_1 v_2 v_3 v_4 v_5 v_6 v_7 v_8 _ _ ls hP hD hS hl
set_option maxHeartbeats 4000000 in
set_option maxRecDepth 100000 in
theorem lp_M_absence_2 {p : Program} {l : Launch} {e : Env} {s : State} {m : MethodId} {args : Array Value} {below : List Frame} {meth : Method} {c : Code} {Q : State → Prop} {A : Nat → Prop} {dC : Nat → ClassId} {dI : Nat → Nat → Nat} {k h : Nat → Nat} {g : Nat → ClassId} {ss : Int32} {li : Int32} {co : Int32} {bl : Int32} {te : Int32} {wo : Nat → Int64} {wz : Nat → Int32} {sr : Nat → Int32} {ro : Nat → Int32} {sa0 : Int32} {so0 : Int32} {fa0 : Int32} {op0 : Int32} (hx : p.tables.exec = Jvm.exec) (hb : c.code = b_M_absence) (hml : c.maxLocals = 4) (hown : s.vm.findClass "SieveDeskModel" = some m.cls) (ht : ∀ w ∈ TT, w.before args s = true) (hE : KE k A s s.heap) (hA : ∀ q : Nat, s.heap.size ≤ q → A q) (hK : va_K (dC, dI) cls (TM g) s)  (h_0 : 0 ≤ Int32.toInt ss) (h_1 : Int32.toInt ss ≤ 400) (fin : ∀ (u : Int32 × Int32 × Int32 × Int32 × Int32 × Int32 × (Nat → Int64) × (Nat → Int32) × Int32 × Int32) (H : Heap) (locs : List Loc) (pc : Nat) (ls : Array Slot), decode b_M_absence pc = .ok (.return_, 1) → (0 ≤ Int32.toInt u.1 ∧ Int32.toInt u.1 ≤ Int32.toInt ss ∧ 0 ≤ Int32.toInt u.2.2.1 ∧ Int32.toInt u.2.2.1 ≤ 400 ∧ -1 ≤ Int32.toInt u.2.2.2.1 ∧ Int32.toInt u.2.2.2.1 ≤ 400 ∧ (Int32.toInt u.2.2.2.1 < 0 ∨ (Int32.toInt u.2.1 = 0 ∧ Int32.toInt u.2.2.2.2.1 = 0)) ∧ 0 ≤ Int32.toInt u.2.2.2.2.2.1 ∧ Int32.toInt u.2.2.2.2.2.1 ≤ 400 ∧ PS ss sa0 so0 fa0 op0 u.1 u.2.1 u.2.2.2.1 u.2.2.2.2.1) → va_P (dC, dI) cls (ME h g ss u.1 u.2.1 u.2.2.1 u.2.2.2.2.2.1 u.2.2.2.1 li co u.2.2.2.2.2.2.2.2.1 u.2.2.2.2.2.2.2.2.2 bl te u.2.2.2.2.1 wo wz sr u.2.2.2.2.2.2.1 u.2.2.2.2.2.2.2.1 ro) H → va_D A (ME h g ss u.1 u.2.1 u.2.2.1 u.2.2.2.2.2.1 u.2.2.2.1 li co u.2.2.2.2.2.2.2.2.1 u.2.2.2.2.2.2.2.2.2 bl te u.2.2.2.2.1 wo wz sr u.2.2.2.2.2.2.1 u.2.2.2.2.2.2.2.1 ro) → va_S A s.heap H locs → W p l e ({ frames := 7, cells := 0, slots := 0, locals := 151 } : Room) s m args below meth c H locs 0 0 Q (F0 m pc ls [])) : ∀ (nn : Nat), ∀ (se : Int32) (sa : Int32) (so : Int32) (pl : Int32) (fa : Int32) (op : Int32) (si : Int32) (le : Nat → Int64) (tx : Nat → Int32) (st : Int32) (rq : Int32), PR ss sa0 so0 fa0 op0 sa so fa op → 0 ≤ Int32.toInt sa → Int32.toInt sa ≤ Int32.toInt ss → 0 ≤ Int32.toInt pl → Int32.toInt pl ≤ 400 → -1 ≤ Int32.toInt fa → Int32.toInt fa ≤ 400 → (Int32.toInt fa < 0 ∨ (Int32.toInt so = 0 ∧ Int32.toInt op = 0)) → 0 ≤ Int32.toInt si → Int32.toInt si ≤ 400 → YY ss sa so fa < nn → ∀ (H : Heap) (locs : List Loc) (ls : Array Slot), va_P (dC, dI) cls (ME h g ss sa so pl si fa li co st rq bl te op wo wz sr le tx ro) H → va_D A (ME h g ss sa so pl si fa li co st rq bl te op wo wz sr le tx ro) → va_S A s.heap H locs → lv_has ls 4 [(1, .int se), (0, .ref (h 0))] → W p l e ({ frames := 7, cells := 0, slots := 0, locals := 151 } : Room) s m args below meth c H locs 0 0 Q (F0 m 2 ls []) := by
  intro nn
  induction nn with
  | zero =>
    intro _ _ _ _ _ _ _ _ _ _ _ _ _ _ _ _ _ _ _ _ _ hm
    exact absurd hm (Nat.not_lt_zero _)
  | succ nn ih =>
    intro se sa so pl fa op si le tx st rq v_0 v_1 v_2 v_3 v_4 v_5 v_6 v_7 v_8 v_9 hm H locs ls hP hD hS hl
    refine lv_aload_n hx hb d_M_absence_2 rfl (lv_at hl 1 rfl) ?_
    refine lv_iconst (v := 2) hx hb d_M_absence_3 (by decide) ?_
    have hc_2 : Int32.toInt 2 = 2 := by decide
    have hFc := va_free (wc := (ME h g ss sa so pl si fa li co st rq bl te op wo wz sr le tx ro)) hD hS hA [0, 1, 2, 3, 4, 5, 6] rfl
    refine va_calli (va_runV (As := [.int 2]) (rest := []) ⟨hx, hb, hml, hown, ht⟩ (c_M_is l dC dI k h g ss sa so pl si fa li co st rq bl te op wo le wz sr tx ro 2 _ (by omega) (by omega) ) (cwV 1 ht (g_V k_771 k_773 k_52 k_80 k_774) rfl rfl rfl (by decide +kernel) ⟨(Nat.le_of_ble_eq_true rfl), (Nat.le_of_ble_eq_true rfl)⟩) ⟨fb_X, va_recv hK hP (ci := 4) (q0 := 0) rfl rfl, pre_X hE hS hFc hP hK hD⟩ rfl rfl hl.1 rfl (lv_room (Nat.le_of_ble_eq_true rfl)) d_M_absence_4 ⟨(Nat.le_of_ble_eq_true rfl), (Nat.le_of_ble_eq_true rfl)⟩) hS (fun q _ h9 => hFc q h9) hFc (fun r_2 u_1 t H locs het hvm hw hB hz1 hk1 hS => ?_)
    obtain ⟨p_3, p_4⟩ := hw
    obtain ⟨hP1, hK1, hD1⟩ := hB
    rw [het] at hP1
    have hP : va_P (dC, dI) cls (ME h g ss sa so pl si fa li co st rq bl te op wo wz sr le tx ro) H := hP1
    have hD : va_D A (ME h g ss sa so pl si fa li co st rq bl te op wo wz sr le tx ro) := hD1.weaken (fun _ _ _ h9 => hFc _ h9)
    refine lv_if_eq (tgt := 89) hx hb d_M_absence_7 (by decide) (fun c_5 => ?_) (fun c_5 => ?_)
    · have dc_5 := i_eq c_5 rfl (show Int32.toInt 0 = 0 by decide)
      refine lv_aload_n hx hb d_M_absence_89 rfl (lv_at hl 1 rfl) ?_
      have hFc := va_free (wc := (ME h g ss sa so pl si fa li co st rq bl te op wo wz sr le tx ro)) hD hS hA [0, 1, 2, 3, 4, 5, 6] rfl
      refine va_callv (va_runV (As := []) (rest := []) ⟨hx, hb, hml, hown, ht⟩ (c_M_taken l dC dI k h g ss sa so pl si fa li co st rq bl te op wo le wz sr tx ro  _ (by omega) (by omega) (by omega) (by omega) (by omega) (by omega) (by omega) (by omega) (by omega) (by omega) (by omega)) (cwV 0 ht (g_V k_834 k_836 k_67 k_80 k_837) rfl rfl rfl (by decide +kernel) ⟨(Nat.le_of_ble_eq_true rfl), (Nat.le_of_ble_eq_true rfl)⟩) ⟨fb_X, va_recv hK hP (ci := 4) (q0 := 0) rfl rfl, pre_X hE hS hFc hP hK hD⟩ rfl rfl hl.1 rfl (lv_room (Nat.le_of_ble_eq_true rfl)) d_M_absence_90 ⟨(Nat.le_of_ble_eq_true rfl), (Nat.le_of_ble_eq_true rfl)⟩) hS (fun q _ h9 => hFc q h9) hFc (fun u_15 t H locs het hvm hw hB hz1 hk1 hS => ?_)
      obtain ⟨sa_6, so_7, pl_8, fa_9, op_10, si_11, le_12, tx_13, st_14⟩ := u_15
      try dsimp only at hw
      obtain ⟨p_17, p_18, p_19, p_20, p_21, p_22, p_23, p_24, p_25, p_26⟩ := hw
      obtain ⟨hP1, hK1, hD1⟩ := hB
      rw [het] at hP1
      have hP : va_P (dC, dI) cls (ME h g ss sa_6 so_7 pl_8 si_11 fa_9 li co st_14 rq bl te op_10 wo wz sr le_12 tx_13 ro) H := hP1
      have hD : va_D A (ME h g ss sa_6 so_7 pl_8 si_11 fa_9 li co st_14 rq bl te op_10 wo wz sr le_12 tx_13 ro) := hD1.weaken (fun _ _ _ h9 => hFc _ h9)
      exact fin  (sa_6, so_7, pl_8, fa_9, op_10, si_11, le_12, tx_13, st_14, rq) _ _ _ ls d_M_absence_93 ⟨(by (try dsimp only); omega), (by (try dsimp only); omega), (by (try dsimp only); omega), (by (try dsimp only); omega), (by (try dsimp only); omega), (by (try dsimp only); omega), (by (try dsimp only); omega), (by (try dsimp only); omega), (by (try dsimp only); omega), (rRS v_0 p_26)⟩ hP hD hS
    · have dc_5 := i_ne c_5 rfl (show Int32.toInt 0 = 0 by decide)
      refine lv_aload_n hx hb d_M_absence_10 rfl (lv_at hl 1 rfl) ?_
      refine lv_bipush (v := 27) hx hb d_M_absence_11 (by decide) ?_
      refine lv_iconst (v := 4) hx hb d_M_absence_13 (by decide) ?_
      have hc_27 : Int32.toInt 27 = 27 := by decide
      have hc_4 : Int32.toInt 4 = 4 := by decide
      have hFc := va_free (wc := (ME h g ss sa so pl si fa li co st rq bl te op wo wz sr le tx ro)) hD hS hA [0, 1, 2, 3, 4, 5, 6] rfl
      refine va_calli (va_runV (As := [.int 27, .int 4]) (rest := []) ⟨hx, hb, hml, hown, ht⟩ (c_M_which l dC dI k h g ss sa so pl si fa li co st rq bl te op wo le wz sr tx ro 27 4 _ (by omega) (by omega) (by omega) ) (cwV 2 ht (g_V k_738 k_740 k_45 k_80 k_741) rfl rfl rfl (by decide +kernel) ⟨(Nat.le_of_ble_eq_true rfl), (Nat.le_of_ble_eq_true rfl)⟩) ⟨fb_X, va_recv hK hP (ci := 4) (q0 := 0) rfl rfl, pre_X hE hS hFc hP hK hD⟩ rfl rfl hl.1 rfl (lv_room (Nat.le_of_ble_eq_true rfl)) d_M_absence_14 ⟨(Nat.le_of_ble_eq_true rfl), (Nat.le_of_ble_eq_true rfl)⟩) hS (fun q _ h9 => hFc q h9) hFc (fun r_28 u_27 t H locs het hvm hw hB hz1 hk1 hS => ?_)
      have p_29 := hw
      obtain ⟨hP1, hK1, hD1⟩ := hB
      rw [het] at hP1
      have hP : va_P (dC, dI) cls (ME h g ss sa so pl si fa li co st rq bl te op wo wz sr le tx ro) H := hP1
      have hD : va_D A (ME h g ss sa so pl si fa li co st rq bl te op wo wz sr le tx ro) := hD1.weaken (fun _ _ _ h9 => hFc _ h9)
      refine lv_istore_n (lv' := [(2, .int r_28), (1, .int se), (0, .ref (h 0))]) hx hb d_M_absence_17 rfl hl (by decide) rfl (fun ls hl => ?_)
      refine lv_iload_n hx hb d_M_absence_18 rfl (lv_at hl 0 rfl) ?_
      refine lv_if_ge (tgt := 26) hx hb d_M_absence_19 (by decide) (fun c_30 => ?_) (fun c_30 => ?_)
      · have dc_30 := i_le c_30 (show Int32.toInt 0 = 0 by decide) rfl
        refine lv_iconst (v := 1) hx hb d_M_absence_26 (by decide) ?_
        refine lv_iload_n hx hb d_M_absence_27 rfl (lv_at hl 0 rfl) ?_
        refine lv_bipush (v := 27) hx hb d_M_absence_28 (by decide) ?_
        refine lv_isub hx hb d_M_absence_30 ?_
        have e_31 : Int32.toInt (r_28 - 27) = (Int32.toInt r_28) - 27 := i_sub rfl (show Int32.toInt 27 = 27 by decide) (by omega) (by omega)
        refine lv_ishl hx hb d_M_absence_31 ?_
        refine lv_istore_n (lv' := [(3, .int (1 <<< ((r_28 - 27) &&& 31))), (2, .int r_28), (1, .int se), (0, .ref (h 0))]) hx hb d_M_absence_32 rfl hl (by decide) rfl (fun ls hl => ?_)
        refine lv_iload_n hx hb d_M_absence_33 rfl (lv_at hl 1 rfl) ?_
        refine lv_if_lt (tgt := 43) hx hb d_M_absence_34 (by decide) (fun c_32 => ?_) (fun c_32 => ?_)
        · have dc_32 := i_lt c_32 rfl (show Int32.toInt 0 = 0 by decide)
          refine lv_aload_n hx hb d_M_absence_43 rfl (lv_at hl 3 rfl) ?_
          have hFc := va_free (wc := (ME h g ss sa so pl si fa li co st rq bl te op wo wz sr le tx ro)) hD hS hA [0, 1, 2, 3, 4, 5, 6] rfl
          refine va_callv (va_runV (As := []) (rest := []) ⟨hx, hb, hml, hown, ht⟩ (c_M_fail l dC dI k h g ss sa so pl si fa li co st rq bl te op wo le wz sr tx ro  _ (by omega) (by omega) (by omega) (by omega)) (cwV 0 ht (g_V k_763 k_765 k_50 k_80 k_766) rfl rfl rfl (by decide +kernel) ⟨(Nat.le_of_ble_eq_true rfl), (Nat.le_of_ble_eq_true rfl)⟩) ⟨fb_X, va_recv hK hP (ci := 4) (q0 := 0) rfl rfl, pre_X hE hS hFc hP hK hD⟩ rfl rfl hl.1 rfl (lv_room (Nat.le_of_ble_eq_true rfl)) d_M_absence_44 ⟨(Nat.le_of_ble_eq_true rfl), (Nat.le_of_ble_eq_true rfl)⟩) hS (fun q _ h9 => hFc q h9) hFc (fun u_36 t H locs het hvm hw hB hz1 hk1 hS => ?_)
          obtain ⟨so_33, fa_34, op_35⟩ := u_36
          try dsimp only at hw
          obtain ⟨p_38, p_39, p_40, p_41, p_42, p_43⟩ := hw
          obtain ⟨hP1, hK1, hD1⟩ := hB
          rw [het] at hP1
          have hP : va_P (dC, dI) cls (ME h g ss sa so_33 pl si fa_34 li co st rq bl te op_35 wo wz sr le tx ro) H := hP1
          have hD : va_D A (ME h g ss sa so_33 pl si fa_34 li co st rq bl te op_35 wo wz sr le tx ro) := hD1.weaken (fun _ _ _ h9 => hFc _ h9)
          have rl_44 : PS ss sa so fa op sa so_33 fa_34 op_35 := pr_out (by omega) (by omega) (by omega) _ _ _ _ (by omega)
          refine lv_iload_n hx hb d_M_absence_47 rfl (lv_at hl 2 rfl) ?_
          refine lv_iload_n hx hb d_M_absence_48 rfl (lv_at hl 0 rfl) ?_
          refine lv_ior hx hb d_M_absence_49 ?_
          refine lv_istore_n (lv' := [(1, .int (se ||| (1 <<< ((r_28 - 27) &&& 31)))), (3, .int (1 <<< ((r_28 - 27) &&& 31))), (2, .int r_28), (0, .ref (h 0))]) hx hb d_M_absence_50 rfl hl (by decide) rfl (fun ls hl => ?_)
          refine lv_aload_n hx hb d_M_absence_51 rfl (lv_at hl 3 rfl) ?_
          have hFc := va_free (wc := (ME h g ss sa so_33 pl si fa_34 li co st rq bl te op_35 wo wz sr le tx ro)) hD hS hA [0, 1, 2, 3, 4, 5, 6] rfl
          refine va_callv (va_runV (As := []) (rest := []) ⟨hx, hb, hml, hown, ht⟩ (c_M_next l dC dI k h g ss sa so_33 pl si fa_34 li co st rq bl te op_35 wo le wz sr tx ro  _ (by omega) (by omega) (by omega) (by omega) (by omega) (by omega) (by omega) (by omega) (by omega) (by omega) (by omega)) (cwV 0 ht (g_V k_694 k_696 k_37 k_80 k_697) rfl rfl rfl (by decide +kernel) ⟨(Nat.le_of_ble_eq_true rfl), (Nat.le_of_ble_eq_true rfl)⟩) ⟨fb_X, va_recv hK hP (ci := 4) (q0 := 0) rfl rfl, pre_X hE hS hFc hP hK hD⟩ rfl rfl hl.1 rfl (lv_room (Nat.le_of_ble_eq_true rfl)) d_M_absence_52 ⟨(Nat.le_of_ble_eq_true rfl), (Nat.le_of_ble_eq_true rfl)⟩) hS (fun q _ h9 => hFc q h9) hFc (fun u_53 t H locs het hvm hw hB hz1 hk1 hS => ?_)
          obtain ⟨sa_45, so_46, pl_47, fa_48, op_49, si_50, le_51, tx_52⟩ := u_53
          try dsimp only at hw
          obtain ⟨p_55, p_56, p_57, p_58, p_59, p_60, p_61, p_62, p_63, p_64, p_65⟩ := hw
          obtain ⟨hP1, hK1, hD1⟩ := hB
          rw [het] at hP1
          have hP : va_P (dC, dI) cls (ME h g ss sa_45 so_46 pl_47 si_50 fa_48 li co st rq bl te op_49 wo wz sr le_51 tx_52 ro) H := hP1
          have hD : va_D A (ME h g ss sa_45 so_46 pl_47 si_50 fa_48 li co st rq bl te op_49 wo wz sr le_51 tx_52 ro) := hD1.weaken (fun _ _ _ h9 => hFc _ h9)
          have rl_66 := p_65.resolve_right (by omega)
          have rl_67 := rSS rl_44 rl_66
          refine lv_iload_n hx hb d_M_absence_55 rfl (lv_at hl 2 rfl) ?_
          refine lv_bipush (v := 27) hx hb d_M_absence_56 (by decide) ?_
          refine lv_icmp_ne (tgt := 68) hx hb d_M_absence_58 (by decide) (fun c_68 => ?_) (fun c_68 => ?_)
          · have dc_68 := i_ne c_68 rfl (show Int32.toInt 27 = 27 by decide)
            refine lv_iload_n hx hb d_M_absence_68 rfl (lv_at hl 2 rfl) ?_
            refine lv_bipush (v := 29) hx hb d_M_absence_69 (by decide) ?_
            refine lv_icmp_ne (tgt := 82) hx hb d_M_absence_71 (by decide) (fun c_69 => ?_) (fun c_69 => ?_)
            · have dc_69 := i_ne c_69 rfl (show Int32.toInt 29 = 29 by decide)
              refine lv_aload_n hx hb d_M_absence_82 rfl (lv_at hl 3 rfl) ?_
              have hFc := va_free (wc := (ME h g ss sa_45 so_46 pl_47 si_50 fa_48 li co st rq bl te op_49 wo wz sr le_51 tx_52 ro)) hD hS hA [0, 1, 2, 3, 4, 5, 6] rfl
              refine va_callv (va_runV (As := []) (rest := []) ⟨hx, hb, hml, hown, ht⟩ (c_M_taken l dC dI k h g ss sa_45 so_46 pl_47 si_50 fa_48 li co st rq bl te op_49 wo le_51 wz sr tx_52 ro  _ (by omega) (by omega) (by omega) (by omega) (by omega) (by omega) (by omega) (by omega) (by omega) (by omega) (by omega)) (cwV 0 ht (g_V k_834 k_836 k_67 k_80 k_837) rfl rfl rfl (by decide +kernel) ⟨(Nat.le_of_ble_eq_true rfl), (Nat.le_of_ble_eq_true rfl)⟩) ⟨fb_X, va_recv hK hP (ci := 4) (q0 := 0) rfl rfl, pre_X hE hS hFc hP hK hD⟩ rfl rfl hl.1 rfl (lv_room (Nat.le_of_ble_eq_true rfl)) d_M_absence_83 ⟨(Nat.le_of_ble_eq_true rfl), (Nat.le_of_ble_eq_true rfl)⟩) hS (fun q _ h9 => hFc q h9) hFc (fun u_79 t H locs het hvm hw hB hz1 hk1 hS => ?_)
              obtain ⟨sa_70, so_71, pl_72, fa_73, op_74, si_75, le_76, tx_77, st_78⟩ := u_79
              try dsimp only at hw
              obtain ⟨p_81, p_82, p_83, p_84, p_85, p_86, p_87, p_88, p_89, p_90⟩ := hw
              obtain ⟨hP1, hK1, hD1⟩ := hB
              rw [het] at hP1
              have hP : va_P (dC, dI) cls (ME h g ss sa_70 so_71 pl_72 si_75 fa_73 li co st_78 rq bl te op_74 wo wz sr le_76 tx_77 ro) H := hP1
              have hD : va_D A (ME h g ss sa_70 so_71 pl_72 si_75 fa_73 li co st_78 rq bl te op_74 wo wz sr le_76 tx_77 ro) := hD1.weaken (fun _ _ _ h9 => hFc _ h9)
              have rl_91 := rSS rl_67 p_90
              refine lv_goto (tgt := 2) hx hb d_M_absence_86 (by decide) ?_
              obtain ⟨ym_92a, ym_92b⟩ := PS.yd rl_91 (by omega)
              exact ih (se ||| (1 <<< ((r_28 - 27) &&& 31))) sa_70 so_71 pl_72 fa_73 op_74 si_75 le_76 tx_77 st_78 rq (rRS v_0 rl_91).pr (by omega) (by omega) (by omega) (by omega) (by omega) (by omega) (by omega) (by omega) (by omega) (by omega) _ _ ls hP hD hS (lv_sub hl [0, 3] rfl)
            · have dc_69 := i_eq c_69 rfl (show Int32.toInt 29 = 29 by decide)
              refine lv_aload_n hx hb d_M_absence_74 rfl (lv_at hl 3 rfl) ?_
              refine lv_iconst (v := 0) hx hb d_M_absence_75 (by decide) ?_
              have hc_0 : Int32.toInt 0 = 0 := by decide
              have hFc := va_free (wc := (ME h g ss sa_45 so_46 pl_47 si_50 fa_48 li co st rq bl te op_49 wo wz sr le_51 tx_52 ro)) hD hS hA [0, 1, 2, 3, 4, 5, 6] rfl
              refine va_callv (va_runV (As := [.int 0]) (rest := []) ⟨hx, hb, hml, hown, ht⟩ (c_M_list l dC dI k h g ss sa_45 so_46 pl_47 si_50 fa_48 li co st rq bl te op_49 wo le_51 wz sr tx_52 ro 0 _ (by omega) (by omega) (by omega) (by omega) (by omega) (by omega) (by omega) (by omega) (by omega) (by omega) (by omega)) (cwV 1 ht (g_V k_775 k_777 k_53 k_80 k_778) rfl rfl rfl (by decide +kernel) ⟨(Nat.le_of_ble_eq_true rfl), (Nat.le_of_ble_eq_true rfl)⟩) ⟨fb_X, va_recv hK hP (ci := 4) (q0 := 0) rfl rfl, pre_X hE hS hFc hP hK hD⟩ rfl rfl hl.1 rfl (lv_room (Nat.le_of_ble_eq_true rfl)) d_M_absence_76 ⟨(Nat.le_of_ble_eq_true rfl), (Nat.le_of_ble_eq_true rfl)⟩) hS (fun q _ h9 => hFc q h9) hFc (fun u_103 t H locs het hvm hw hB hz1 hk1 hS => ?_)
              obtain ⟨sa_93, so_94, pl_95, fa_96, op_97, si_98, le_99, tx_100, st_101, rq_102⟩ := u_103
              try dsimp only at hw
              obtain ⟨p_105, p_106, p_107, p_108, p_109, p_110, p_111, p_112, p_113, p_114⟩ := hw
              obtain ⟨hP1, hK1, hD1⟩ := hB
              rw [het] at hP1
              have hP : va_P (dC, dI) cls (ME h g ss sa_93 so_94 pl_95 si_98 fa_96 li co st_101 rq_102 bl te op_97 wo wz sr le_99 tx_100 ro) H := hP1
              have hD : va_D A (ME h g ss sa_93 so_94 pl_95 si_98 fa_96 li co st_101 rq_102 bl te op_97 wo wz sr le_99 tx_100 ro) := hD1.weaken (fun _ _ _ h9 => hFc _ h9)
              have rl_115 := rSS rl_67 p_114
              refine lv_goto (tgt := 86) hx hb d_M_absence_79 (by decide) ?_
              refine lv_goto (tgt := 2) hx hb d_M_absence_86 (by decide) ?_
              obtain ⟨ym_116a, ym_116b⟩ := PS.yd rl_115 (by omega)
              exact ih (se ||| (1 <<< ((r_28 - 27) &&& 31))) sa_93 so_94 pl_95 fa_96 op_97 si_98 le_99 tx_100 st_101 rq_102 (rRS v_0 rl_115).pr (by omega) (by omega) (by omega) (by omega) (by omega) (by omega) (by omega) (by omega) (by omega) (by omega) _ _ ls hP hD hS (lv_sub hl [0, 3] rfl)
          · have dc_68 := i_eq c_68 rfl (show Int32.toInt 27 = 27 by decide)
            refine lv_aload_n hx hb d_M_absence_61 rfl (lv_at hl 3 rfl) ?_
            have hFc := va_free (wc := (ME h g ss sa_45 so_46 pl_47 si_50 fa_48 li co st rq bl te op_49 wo wz sr le_51 tx_52 ro)) hD hS hA [0, 1, 2, 3, 4, 5, 6] rfl
            refine va_callv (va_runV (As := []) (rest := []) ⟨hx, hb, hml, hown, ht⟩ (c_M_number l dC dI k h g ss sa_45 so_46 pl_47 si_50 fa_48 li co st rq bl te op_49 wo le_51 wz sr tx_52 ro  _ (by omega) (by omega) (by omega) (by omega) (by omega) (by omega) (by omega) (by omega) (by omega) (by omega) (by omega)) (cwV 0 ht (g_V k_842 k_844 k_69 k_80 k_845) rfl rfl rfl (by decide +kernel) ⟨(Nat.le_of_ble_eq_true rfl), (Nat.le_of_ble_eq_true rfl)⟩) ⟨fb_X, va_recv hK hP (ci := 4) (q0 := 0) rfl rfl, pre_X hE hS hFc hP hK hD⟩ rfl rfl hl.1 rfl (lv_room (Nat.le_of_ble_eq_true rfl)) d_M_absence_62 ⟨(Nat.le_of_ble_eq_true rfl), (Nat.le_of_ble_eq_true rfl)⟩) hS (fun q _ h9 => hFc q h9) hFc (fun u_125 t H locs het hvm hw hB hz1 hk1 hS => ?_)
            obtain ⟨sa_117, so_118, pl_119, fa_120, op_121, si_122, le_123, tx_124⟩ := u_125
            try dsimp only at hw
            obtain ⟨p_127, p_128, p_129, p_130, p_131, p_132, p_133, p_134, p_135, p_136⟩ := hw
            obtain ⟨hP1, hK1, hD1⟩ := hB
            rw [het] at hP1
            have hP : va_P (dC, dI) cls (ME h g ss sa_117 so_118 pl_119 si_122 fa_120 li co st rq bl te op_121 wo wz sr le_123 tx_124 ro) H := hP1
            have hD : va_D A (ME h g ss sa_117 so_118 pl_119 si_122 fa_120 li co st rq bl te op_121 wo wz sr le_123 tx_124 ro) := hD1.weaken (fun _ _ _ h9 => hFc _ h9)
            have rl_137 := rSS rl_67 p_136
            refine lv_goto (tgt := 86) hx hb d_M_absence_65 (by decide) ?_
            refine lv_goto (tgt := 2) hx hb d_M_absence_86 (by decide) ?_
            obtain ⟨ym_138a, ym_138b⟩ := PS.yd rl_137 (by omega)
            exact ih (se ||| (1 <<< ((r_28 - 27) &&& 31))) sa_117 so_118 pl_119 fa_120 op_121 si_122 le_123 tx_124 st rq (rRS v_0 rl_137).pr (by omega) (by omega) (by omega) (by omega) (by omega) (by omega) (by omega) (by omega) (by omega) (by omega) _ _ ls hP hD hS (lv_sub hl [0, 3] rfl)
        · have dc_32 := i_nlt c_32 rfl (show Int32.toInt 0 = 0 by decide)
          refine lv_iload_n hx hb d_M_absence_37 rfl (lv_at hl 2 rfl) ?_
          refine lv_iload_n hx hb d_M_absence_38 rfl (lv_at hl 0 rfl) ?_
          refine lv_iand hx hb d_M_absence_39 ?_
          refine lv_if_eq (tgt := 47) hx hb d_M_absence_40 (by decide) (fun c_139 => ?_) (fun c_139 => ?_)
          · refine lv_iload_n hx hb d_M_absence_47 rfl (lv_at hl 2 rfl) ?_
            refine lv_iload_n hx hb d_M_absence_48 rfl (lv_at hl 0 rfl) ?_
            refine lv_ior hx hb d_M_absence_49 ?_
            refine lv_istore_n (lv' := [(1, .int (se ||| (1 <<< ((r_28 - 27) &&& 31)))), (3, .int (1 <<< ((r_28 - 27) &&& 31))), (2, .int r_28), (0, .ref (h 0))]) hx hb d_M_absence_50 rfl hl (by decide) rfl (fun ls hl => ?_)
            refine lv_aload_n hx hb d_M_absence_51 rfl (lv_at hl 3 rfl) ?_
            have hFc := va_free (wc := (ME h g ss sa so pl si fa li co st rq bl te op wo wz sr le tx ro)) hD hS hA [0, 1, 2, 3, 4, 5, 6] rfl
            refine va_callv (va_runV (As := []) (rest := []) ⟨hx, hb, hml, hown, ht⟩ (c_M_next l dC dI k h g ss sa so pl si fa li co st rq bl te op wo le wz sr tx ro  _ (by omega) (by omega) (by omega) (by omega) (by omega) (by omega) (by omega) (by omega) (by omega) (by omega) (by omega)) (cwV 0 ht (g_V k_694 k_696 k_37 k_80 k_697) rfl rfl rfl (by decide +kernel) ⟨(Nat.le_of_ble_eq_true rfl), (Nat.le_of_ble_eq_true rfl)⟩) ⟨fb_X, va_recv hK hP (ci := 4) (q0 := 0) rfl rfl, pre_X hE hS hFc hP hK hD⟩ rfl rfl hl.1 rfl (lv_room (Nat.le_of_ble_eq_true rfl)) d_M_absence_52 ⟨(Nat.le_of_ble_eq_true rfl), (Nat.le_of_ble_eq_true rfl)⟩) hS (fun q _ h9 => hFc q h9) hFc (fun u_148 t H locs het hvm hw hB hz1 hk1 hS => ?_)
            obtain ⟨sa_140, so_141, pl_142, fa_143, op_144, si_145, le_146, tx_147⟩ := u_148
            try dsimp only at hw
            obtain ⟨p_150, p_151, p_152, p_153, p_154, p_155, p_156, p_157, p_158, p_159, p_160⟩ := hw
            obtain ⟨hP1, hK1, hD1⟩ := hB
            rw [het] at hP1
            have hP : va_P (dC, dI) cls (ME h g ss sa_140 so_141 pl_142 si_145 fa_143 li co st rq bl te op_144 wo wz sr le_146 tx_147 ro) H := hP1
            have hD : va_D A (ME h g ss sa_140 so_141 pl_142 si_145 fa_143 li co st rq bl te op_144 wo wz sr le_146 tx_147 ro) := hD1.weaken (fun _ _ _ h9 => hFc _ h9)
            have rl_161 := p_160.resolve_right (by omega)
            refine lv_iload_n hx hb d_M_absence_55 rfl (lv_at hl 2 rfl) ?_
            refine lv_bipush (v := 27) hx hb d_M_absence_56 (by decide) ?_
            refine lv_icmp_ne (tgt := 68) hx hb d_M_absence_58 (by decide) (fun c_162 => ?_) (fun c_162 => ?_)
            · have dc_162 := i_ne c_162 rfl (show Int32.toInt 27 = 27 by decide)
              refine lv_iload_n hx hb d_M_absence_68 rfl (lv_at hl 2 rfl) ?_
              refine lv_bipush (v := 29) hx hb d_M_absence_69 (by decide) ?_
              refine lv_icmp_ne (tgt := 82) hx hb d_M_absence_71 (by decide) (fun c_163 => ?_) (fun c_163 => ?_)
              · have dc_163 := i_ne c_163 rfl (show Int32.toInt 29 = 29 by decide)
                refine lv_aload_n hx hb d_M_absence_82 rfl (lv_at hl 3 rfl) ?_
                have hFc := va_free (wc := (ME h g ss sa_140 so_141 pl_142 si_145 fa_143 li co st rq bl te op_144 wo wz sr le_146 tx_147 ro)) hD hS hA [0, 1, 2, 3, 4, 5, 6] rfl
                refine va_callv (va_runV (As := []) (rest := []) ⟨hx, hb, hml, hown, ht⟩ (c_M_taken l dC dI k h g ss sa_140 so_141 pl_142 si_145 fa_143 li co st rq bl te op_144 wo le_146 wz sr tx_147 ro  _ (by omega) (by omega) (by omega) (by omega) (by omega) (by omega) (by omega) (by omega) (by omega) (by omega) (by omega)) (cwV 0 ht (g_V k_834 k_836 k_67 k_80 k_837) rfl rfl rfl (by decide +kernel) ⟨(Nat.le_of_ble_eq_true rfl), (Nat.le_of_ble_eq_true rfl)⟩) ⟨fb_X, va_recv hK hP (ci := 4) (q0 := 0) rfl rfl, pre_X hE hS hFc hP hK hD⟩ rfl rfl hl.1 rfl (lv_room (Nat.le_of_ble_eq_true rfl)) d_M_absence_83 ⟨(Nat.le_of_ble_eq_true rfl), (Nat.le_of_ble_eq_true rfl)⟩) hS (fun q _ h9 => hFc q h9) hFc (fun u_173 t H locs het hvm hw hB hz1 hk1 hS => ?_)
                obtain ⟨sa_164, so_165, pl_166, fa_167, op_168, si_169, le_170, tx_171, st_172⟩ := u_173
                try dsimp only at hw
                obtain ⟨p_175, p_176, p_177, p_178, p_179, p_180, p_181, p_182, p_183, p_184⟩ := hw
                obtain ⟨hP1, hK1, hD1⟩ := hB
                rw [het] at hP1
                have hP : va_P (dC, dI) cls (ME h g ss sa_164 so_165 pl_166 si_169 fa_167 li co st_172 rq bl te op_168 wo wz sr le_170 tx_171 ro) H := hP1
                have hD : va_D A (ME h g ss sa_164 so_165 pl_166 si_169 fa_167 li co st_172 rq bl te op_168 wo wz sr le_170 tx_171 ro) := hD1.weaken (fun _ _ _ h9 => hFc _ h9)
                have rl_185 := rSS rl_161 p_184
                refine lv_goto (tgt := 2) hx hb d_M_absence_86 (by decide) ?_
                obtain ⟨ym_186a, ym_186b⟩ := PS.yd rl_185 (by omega)
                exact ih (se ||| (1 <<< ((r_28 - 27) &&& 31))) sa_164 so_165 pl_166 fa_167 op_168 si_169 le_170 tx_171 st_172 rq (rRS v_0 rl_185).pr (by omega) (by omega) (by omega) (by omega) (by omega) (by omega) (by omega) (by omega) (by omega) (by omega) _ _ ls hP hD hS (lv_sub hl [0, 3] rfl)
              · have dc_163 := i_eq c_163 rfl (show Int32.toInt 29 = 29 by decide)
                refine lv_aload_n hx hb d_M_absence_74 rfl (lv_at hl 3 rfl) ?_
                refine lv_iconst (v := 0) hx hb d_M_absence_75 (by decide) ?_
                have hc_0 : Int32.toInt 0 = 0 := by decide
                have hFc := va_free (wc := (ME h g ss sa_140 so_141 pl_142 si_145 fa_143 li co st rq bl te op_144 wo wz sr le_146 tx_147 ro)) hD hS hA [0, 1, 2, 3, 4, 5, 6] rfl
                refine va_callv (va_runV (As := [.int 0]) (rest := []) ⟨hx, hb, hml, hown, ht⟩ (c_M_list l dC dI k h g ss sa_140 so_141 pl_142 si_145 fa_143 li co st rq bl te op_144 wo le_146 wz sr tx_147 ro 0 _ (by omega) (by omega) (by omega) (by omega) (by omega) (by omega) (by omega) (by omega) (by omega) (by omega) (by omega)) (cwV 1 ht (g_V k_775 k_777 k_53 k_80 k_778) rfl rfl rfl (by decide +kernel) ⟨(Nat.le_of_ble_eq_true rfl), (Nat.le_of_ble_eq_true rfl)⟩) ⟨fb_X, va_recv hK hP (ci := 4) (q0 := 0) rfl rfl, pre_X hE hS hFc hP hK hD⟩ rfl rfl hl.1 rfl (lv_room (Nat.le_of_ble_eq_true rfl)) d_M_absence_76 ⟨(Nat.le_of_ble_eq_true rfl), (Nat.le_of_ble_eq_true rfl)⟩) hS (fun q _ h9 => hFc q h9) hFc (fun u_197 t H locs het hvm hw hB hz1 hk1 hS => ?_)
                obtain ⟨sa_187, so_188, pl_189, fa_190, op_191, si_192, le_193, tx_194, st_195, rq_196⟩ := u_197
                try dsimp only at hw
                obtain ⟨p_199, p_200, p_201, p_202, p_203, p_204, p_205, p_206, p_207, p_208⟩ := hw
                obtain ⟨hP1, hK1, hD1⟩ := hB
                rw [het] at hP1
                have hP : va_P (dC, dI) cls (ME h g ss sa_187 so_188 pl_189 si_192 fa_190 li co st_195 rq_196 bl te op_191 wo wz sr le_193 tx_194 ro) H := hP1
                have hD : va_D A (ME h g ss sa_187 so_188 pl_189 si_192 fa_190 li co st_195 rq_196 bl te op_191 wo wz sr le_193 tx_194 ro) := hD1.weaken (fun _ _ _ h9 => hFc _ h9)
                have rl_209 := rSS rl_161 p_208
                refine lv_goto (tgt := 86) hx hb d_M_absence_79 (by decide) ?_
                refine lv_goto (tgt := 2) hx hb d_M_absence_86 (by decide) ?_
                obtain ⟨ym_210a, ym_210b⟩ := PS.yd rl_209 (by omega)
                exact ih (se ||| (1 <<< ((r_28 - 27) &&& 31))) sa_187 so_188 pl_189 fa_190 op_191 si_192 le_193 tx_194 st_195 rq_196 (rRS v_0 rl_209).pr (by omega) (by omega) (by omega) (by omega) (by omega) (by omega) (by omega) (by omega) (by omega) (by omega) _ _ ls hP hD hS (lv_sub hl [0, 3] rfl)
            · have dc_162 := i_eq c_162 rfl (show Int32.toInt 27 = 27 by decide)
              refine lv_aload_n hx hb d_M_absence_61 rfl (lv_at hl 3 rfl) ?_
              have hFc := va_free (wc := (ME h g ss sa_140 so_141 pl_142 si_145 fa_143 li co st rq bl te op_144 wo wz sr le_146 tx_147 ro)) hD hS hA [0, 1, 2, 3, 4, 5, 6] rfl
              refine va_callv (va_runV (As := []) (rest := []) ⟨hx, hb, hml, hown, ht⟩ (c_M_number l dC dI k h g ss sa_140 so_141 pl_142 si_145 fa_143 li co st rq bl te op_144 wo le_146 wz sr tx_147 ro  _ (by omega) (by omega) (by omega) (by omega) (by omega) (by omega) (by omega) (by omega) (by omega) (by omega) (by omega)) (cwV 0 ht (g_V k_842 k_844 k_69 k_80 k_845) rfl rfl rfl (by decide +kernel) ⟨(Nat.le_of_ble_eq_true rfl), (Nat.le_of_ble_eq_true rfl)⟩) ⟨fb_X, va_recv hK hP (ci := 4) (q0 := 0) rfl rfl, pre_X hE hS hFc hP hK hD⟩ rfl rfl hl.1 rfl (lv_room (Nat.le_of_ble_eq_true rfl)) d_M_absence_62 ⟨(Nat.le_of_ble_eq_true rfl), (Nat.le_of_ble_eq_true rfl)⟩) hS (fun q _ h9 => hFc q h9) hFc (fun u_219 t H locs het hvm hw hB hz1 hk1 hS => ?_)
              obtain ⟨sa_211, so_212, pl_213, fa_214, op_215, si_216, le_217, tx_218⟩ := u_219
              try dsimp only at hw
              obtain ⟨p_221, p_222, p_223, p_224, p_225, p_226, p_227, p_228, p_229, p_230⟩ := hw
              obtain ⟨hP1, hK1, hD1⟩ := hB
              rw [het] at hP1
              have hP : va_P (dC, dI) cls (ME h g ss sa_211 so_212 pl_213 si_216 fa_214 li co st rq bl te op_215 wo wz sr le_217 tx_218 ro) H := hP1
              have hD : va_D A (ME h g ss sa_211 so_212 pl_213 si_216 fa_214 li co st rq bl te op_215 wo wz sr le_217 tx_218 ro) := hD1.weaken (fun _ _ _ h9 => hFc _ h9)
              have rl_231 := rSS rl_161 p_230
              refine lv_goto (tgt := 86) hx hb d_M_absence_65 (by decide) ?_
              refine lv_goto (tgt := 2) hx hb d_M_absence_86 (by decide) ?_
              obtain ⟨ym_232a, ym_232b⟩ := PS.yd rl_231 (by omega)
              exact ih (se ||| (1 <<< ((r_28 - 27) &&& 31))) sa_211 so_212 pl_213 fa_214 op_215 si_216 le_217 tx_218 st rq (rRS v_0 rl_231).pr (by omega) (by omega) (by omega) (by omega) (by omega) (by omega) (by omega) (by omega) (by omega) (by omega) _ _ ls hP hD hS (lv_sub hl [0, 3] rfl)
          · refine lv_aload_n hx hb d_M_absence_43 rfl (lv_at hl 3 rfl) ?_
            have hFc := va_free (wc := (ME h g ss sa so pl si fa li co st rq bl te op wo wz sr le tx ro)) hD hS hA [0, 1, 2, 3, 4, 5, 6] rfl
            refine va_callv (va_runV (As := []) (rest := []) ⟨hx, hb, hml, hown, ht⟩ (c_M_fail l dC dI k h g ss sa so pl si fa li co st rq bl te op wo le wz sr tx ro  _ (by omega) (by omega) (by omega) (by omega)) (cwV 0 ht (g_V k_763 k_765 k_50 k_80 k_766) rfl rfl rfl (by decide +kernel) ⟨(Nat.le_of_ble_eq_true rfl), (Nat.le_of_ble_eq_true rfl)⟩) ⟨fb_X, va_recv hK hP (ci := 4) (q0 := 0) rfl rfl, pre_X hE hS hFc hP hK hD⟩ rfl rfl hl.1 rfl (lv_room (Nat.le_of_ble_eq_true rfl)) d_M_absence_44 ⟨(Nat.le_of_ble_eq_true rfl), (Nat.le_of_ble_eq_true rfl)⟩) hS (fun q _ h9 => hFc q h9) hFc (fun u_236 t H locs het hvm hw hB hz1 hk1 hS => ?_)
            obtain ⟨so_233, fa_234, op_235⟩ := u_236
            try dsimp only at hw
            obtain ⟨p_238, p_239, p_240, p_241, p_242, p_243⟩ := hw
            obtain ⟨hP1, hK1, hD1⟩ := hB
            rw [het] at hP1
            have hP : va_P (dC, dI) cls (ME h g ss sa so_233 pl si fa_234 li co st rq bl te op_235 wo wz sr le tx ro) H := hP1
            have hD : va_D A (ME h g ss sa so_233 pl si fa_234 li co st rq bl te op_235 wo wz sr le tx ro) := hD1.weaken (fun _ _ _ h9 => hFc _ h9)
            have rl_244 : PS ss sa so fa op sa so_233 fa_234 op_235 := pr_out (by omega) (by omega) (by omega) _ _ _ _ (by omega)
            refine lv_iload_n hx hb d_M_absence_47 rfl (lv_at hl 2 rfl) ?_
            refine lv_iload_n hx hb d_M_absence_48 rfl (lv_at hl 0 rfl) ?_
            refine lv_ior hx hb d_M_absence_49 ?_
            refine lv_istore_n (lv' := [(1, .int (se ||| (1 <<< ((r_28 - 27) &&& 31)))), (3, .int (1 <<< ((r_28 - 27) &&& 31))), (2, .int r_28), (0, .ref (h 0))]) hx hb d_M_absence_50 rfl hl (by decide) rfl (fun ls hl => ?_)
            refine lv_aload_n hx hb d_M_absence_51 rfl (lv_at hl 3 rfl) ?_
            have hFc := va_free (wc := (ME h g ss sa so_233 pl si fa_234 li co st rq bl te op_235 wo wz sr le tx ro)) hD hS hA [0, 1, 2, 3, 4, 5, 6] rfl
            refine va_callv (va_runV (As := []) (rest := []) ⟨hx, hb, hml, hown, ht⟩ (c_M_next l dC dI k h g ss sa so_233 pl si fa_234 li co st rq bl te op_235 wo le wz sr tx ro  _ (by omega) (by omega) (by omega) (by omega) (by omega) (by omega) (by omega) (by omega) (by omega) (by omega) (by omega)) (cwV 0 ht (g_V k_694 k_696 k_37 k_80 k_697) rfl rfl rfl (by decide +kernel) ⟨(Nat.le_of_ble_eq_true rfl), (Nat.le_of_ble_eq_true rfl)⟩) ⟨fb_X, va_recv hK hP (ci := 4) (q0 := 0) rfl rfl, pre_X hE hS hFc hP hK hD⟩ rfl rfl hl.1 rfl (lv_room (Nat.le_of_ble_eq_true rfl)) d_M_absence_52 ⟨(Nat.le_of_ble_eq_true rfl), (Nat.le_of_ble_eq_true rfl)⟩) hS (fun q _ h9 => hFc q h9) hFc (fun u_253 t H locs het hvm hw hB hz1 hk1 hS => ?_)
            obtain ⟨sa_245, so_246, pl_247, fa_248, op_249, si_250, le_251, tx_252⟩ := u_253
            try dsimp only at hw
            obtain ⟨p_255, p_256, p_257, p_258, p_259, p_260, p_261, p_262, p_263, p_264, p_265⟩ := hw
            obtain ⟨hP1, hK1, hD1⟩ := hB
            rw [het] at hP1
            have hP : va_P (dC, dI) cls (ME h g ss sa_245 so_246 pl_247 si_250 fa_248 li co st rq bl te op_249 wo wz sr le_251 tx_252 ro) H := hP1
            have hD : va_D A (ME h g ss sa_245 so_246 pl_247 si_250 fa_248 li co st rq bl te op_249 wo wz sr le_251 tx_252 ro) := hD1.weaken (fun _ _ _ h9 => hFc _ h9)
            have rl_266 := p_265.resolve_right (by omega)
            have rl_267 := rSS rl_244 rl_266
            refine lv_iload_n hx hb d_M_absence_55 rfl (lv_at hl 2 rfl) ?_
            refine lv_bipush (v := 27) hx hb d_M_absence_56 (by decide) ?_
            refine lv_icmp_ne (tgt := 68) hx hb d_M_absence_58 (by decide) (fun c_268 => ?_) (fun c_268 => ?_)
            · have dc_268 := i_ne c_268 rfl (show Int32.toInt 27 = 27 by decide)
              refine lv_iload_n hx hb d_M_absence_68 rfl (lv_at hl 2 rfl) ?_
              refine lv_bipush (v := 29) hx hb d_M_absence_69 (by decide) ?_
              refine lv_icmp_ne (tgt := 82) hx hb d_M_absence_71 (by decide) (fun c_269 => ?_) (fun c_269 => ?_)
              · have dc_269 := i_ne c_269 rfl (show Int32.toInt 29 = 29 by decide)
                refine lv_aload_n hx hb d_M_absence_82 rfl (lv_at hl 3 rfl) ?_
                have hFc := va_free (wc := (ME h g ss sa_245 so_246 pl_247 si_250 fa_248 li co st rq bl te op_249 wo wz sr le_251 tx_252 ro)) hD hS hA [0, 1, 2, 3, 4, 5, 6] rfl
                refine va_callv (va_runV (As := []) (rest := []) ⟨hx, hb, hml, hown, ht⟩ (c_M_taken l dC dI k h g ss sa_245 so_246 pl_247 si_250 fa_248 li co st rq bl te op_249 wo le_251 wz sr tx_252 ro  _ (by omega) (by omega) (by omega) (by omega) (by omega) (by omega) (by omega) (by omega) (by omega) (by omega) (by omega)) (cwV 0 ht (g_V k_834 k_836 k_67 k_80 k_837) rfl rfl rfl (by decide +kernel) ⟨(Nat.le_of_ble_eq_true rfl), (Nat.le_of_ble_eq_true rfl)⟩) ⟨fb_X, va_recv hK hP (ci := 4) (q0 := 0) rfl rfl, pre_X hE hS hFc hP hK hD⟩ rfl rfl hl.1 rfl (lv_room (Nat.le_of_ble_eq_true rfl)) d_M_absence_83 ⟨(Nat.le_of_ble_eq_true rfl), (Nat.le_of_ble_eq_true rfl)⟩) hS (fun q _ h9 => hFc q h9) hFc (fun u_279 t H locs het hvm hw hB hz1 hk1 hS => ?_)
                obtain ⟨sa_270, so_271, pl_272, fa_273, op_274, si_275, le_276, tx_277, st_278⟩ := u_279
                try dsimp only at hw
                obtain ⟨p_281, p_282, p_283, p_284, p_285, p_286, p_287, p_288, p_289, p_290⟩ := hw
                obtain ⟨hP1, hK1, hD1⟩ := hB
                rw [het] at hP1
                have hP : va_P (dC, dI) cls (ME h g ss sa_270 so_271 pl_272 si_275 fa_273 li co st_278 rq bl te op_274 wo wz sr le_276 tx_277 ro) H := hP1
                have hD : va_D A (ME h g ss sa_270 so_271 pl_272 si_275 fa_273 li co st_278 rq bl te op_274 wo wz sr le_276 tx_277 ro) := hD1.weaken (fun _ _ _ h9 => hFc _ h9)
                have rl_291 := rSS rl_267 p_290
                refine lv_goto (tgt := 2) hx hb d_M_absence_86 (by decide) ?_
                obtain ⟨ym_292a, ym_292b⟩ := PS.yd rl_291 (by omega)
                exact ih (se ||| (1 <<< ((r_28 - 27) &&& 31))) sa_270 so_271 pl_272 fa_273 op_274 si_275 le_276 tx_277 st_278 rq (rRS v_0 rl_291).pr (by omega) (by omega) (by omega) (by omega) (by omega) (by omega) (by omega) (by omega) (by omega) (by omega) _ _ ls hP hD hS (lv_sub hl [0, 3] rfl)
              · have dc_269 := i_eq c_269 rfl (show Int32.toInt 29 = 29 by decide)
                refine lv_aload_n hx hb d_M_absence_74 rfl (lv_at hl 3 rfl) ?_
                refine lv_iconst (v := 0) hx hb d_M_absence_75 (by decide) ?_
                have hc_0 : Int32.toInt 0 = 0 := by decide
                have hFc := va_free (wc := (ME h g ss sa_245 so_246 pl_247 si_250 fa_248 li co st rq bl te op_249 wo wz sr le_251 tx_252 ro)) hD hS hA [0, 1, 2, 3, 4, 5, 6] rfl
                refine va_callv (va_runV (As := [.int 0]) (rest := []) ⟨hx, hb, hml, hown, ht⟩ (c_M_list l dC dI k h g ss sa_245 so_246 pl_247 si_250 fa_248 li co st rq bl te op_249 wo le_251 wz sr tx_252 ro 0 _ (by omega) (by omega) (by omega) (by omega) (by omega) (by omega) (by omega) (by omega) (by omega) (by omega) (by omega)) (cwV 1 ht (g_V k_775 k_777 k_53 k_80 k_778) rfl rfl rfl (by decide +kernel) ⟨(Nat.le_of_ble_eq_true rfl), (Nat.le_of_ble_eq_true rfl)⟩) ⟨fb_X, va_recv hK hP (ci := 4) (q0 := 0) rfl rfl, pre_X hE hS hFc hP hK hD⟩ rfl rfl hl.1 rfl (lv_room (Nat.le_of_ble_eq_true rfl)) d_M_absence_76 ⟨(Nat.le_of_ble_eq_true rfl), (Nat.le_of_ble_eq_true rfl)⟩) hS (fun q _ h9 => hFc q h9) hFc (fun u_303 t H locs het hvm hw hB hz1 hk1 hS => ?_)
                obtain ⟨sa_293, so_294, pl_295, fa_296, op_297, si_298, le_299, tx_300, st_301, rq_302⟩ := u_303
                try dsimp only at hw
                obtain ⟨p_305, p_306, p_307, p_308, p_309, p_310, p_311, p_312, p_313, p_314⟩ := hw
                obtain ⟨hP1, hK1, hD1⟩ := hB
                rw [het] at hP1
                have hP : va_P (dC, dI) cls (ME h g ss sa_293 so_294 pl_295 si_298 fa_296 li co st_301 rq_302 bl te op_297 wo wz sr le_299 tx_300 ro) H := hP1
                have hD : va_D A (ME h g ss sa_293 so_294 pl_295 si_298 fa_296 li co st_301 rq_302 bl te op_297 wo wz sr le_299 tx_300 ro) := hD1.weaken (fun _ _ _ h9 => hFc _ h9)
                have rl_315 := rSS rl_267 p_314
                refine lv_goto (tgt := 86) hx hb d_M_absence_79 (by decide) ?_
                refine lv_goto (tgt := 2) hx hb d_M_absence_86 (by decide) ?_
                obtain ⟨ym_316a, ym_316b⟩ := PS.yd rl_315 (by omega)
                exact ih (se ||| (1 <<< ((r_28 - 27) &&& 31))) sa_293 so_294 pl_295 fa_296 op_297 si_298 le_299 tx_300 st_301 rq_302 (rRS v_0 rl_315).pr (by omega) (by omega) (by omega) (by omega) (by omega) (by omega) (by omega) (by omega) (by omega) (by omega) _ _ ls hP hD hS (lv_sub hl [0, 3] rfl)
            · have dc_268 := i_eq c_268 rfl (show Int32.toInt 27 = 27 by decide)
              refine lv_aload_n hx hb d_M_absence_61 rfl (lv_at hl 3 rfl) ?_
              have hFc := va_free (wc := (ME h g ss sa_245 so_246 pl_247 si_250 fa_248 li co st rq bl te op_249 wo wz sr le_251 tx_252 ro)) hD hS hA [0, 1, 2, 3, 4, 5, 6] rfl
              refine va_callv (va_runV (As := []) (rest := []) ⟨hx, hb, hml, hown, ht⟩ (c_M_number l dC dI k h g ss sa_245 so_246 pl_247 si_250 fa_248 li co st rq bl te op_249 wo le_251 wz sr tx_252 ro  _ (by omega) (by omega) (by omega) (by omega) (by omega) (by omega) (by omega) (by omega) (by omega) (by omega) (by omega)) (cwV 0 ht (g_V k_842 k_844 k_69 k_80 k_845) rfl rfl rfl (by decide +kernel) ⟨(Nat.le_of_ble_eq_true rfl), (Nat.le_of_ble_eq_true rfl)⟩) ⟨fb_X, va_recv hK hP (ci := 4) (q0 := 0) rfl rfl, pre_X hE hS hFc hP hK hD⟩ rfl rfl hl.1 rfl (lv_room (Nat.le_of_ble_eq_true rfl)) d_M_absence_62 ⟨(Nat.le_of_ble_eq_true rfl), (Nat.le_of_ble_eq_true rfl)⟩) hS (fun q _ h9 => hFc q h9) hFc (fun u_325 t H locs het hvm hw hB hz1 hk1 hS => ?_)
              obtain ⟨sa_317, so_318, pl_319, fa_320, op_321, si_322, le_323, tx_324⟩ := u_325
              try dsimp only at hw
              obtain ⟨p_327, p_328, p_329, p_330, p_331, p_332, p_333, p_334, p_335, p_336⟩ := hw
              obtain ⟨hP1, hK1, hD1⟩ := hB
              rw [het] at hP1
              have hP : va_P (dC, dI) cls (ME h g ss sa_317 so_318 pl_319 si_322 fa_320 li co st rq bl te op_321 wo wz sr le_323 tx_324 ro) H := hP1
              have hD : va_D A (ME h g ss sa_317 so_318 pl_319 si_322 fa_320 li co st rq bl te op_321 wo wz sr le_323 tx_324 ro) := hD1.weaken (fun _ _ _ h9 => hFc _ h9)
              have rl_337 := rSS rl_267 p_336
              refine lv_goto (tgt := 86) hx hb d_M_absence_65 (by decide) ?_
              refine lv_goto (tgt := 2) hx hb d_M_absence_86 (by decide) ?_
              obtain ⟨ym_338a, ym_338b⟩ := PS.yd rl_337 (by omega)
              exact ih (se ||| (1 <<< ((r_28 - 27) &&& 31))) sa_317 so_318 pl_319 fa_320 op_321 si_322 le_323 tx_324 st rq (rRS v_0 rl_337).pr (by omega) (by omega) (by omega) (by omega) (by omega) (by omega) (by omega) (by omega) (by omega) (by omega) _ _ ls hP hD hS (lv_sub hl [0, 3] rfl)
      · have dc_30 := i_nle c_30 (show Int32.toInt 0 = 0 by decide) rfl
        refine lv_iconst (v := 0) hx hb d_M_absence_22 (by decide) ?_
        refine lv_goto (tgt := 32) hx hb d_M_absence_23 (by decide) ?_
        refine lv_istore_n (lv' := [(3, .int 0), (2, .int r_28), (1, .int se), (0, .ref (h 0))]) hx hb d_M_absence_32 rfl hl (by decide) rfl (fun ls hl => ?_)
        refine lv_iload_n hx hb d_M_absence_33 rfl (lv_at hl 1 rfl) ?_
        refine lv_if_lt (tgt := 43) hx hb d_M_absence_34 (by decide) (fun c_339 => ?_) (fun c_339 => ?_)
        · have dc_339 := i_lt c_339 rfl (show Int32.toInt 0 = 0 by decide)
          refine lv_aload_n hx hb d_M_absence_43 rfl (lv_at hl 3 rfl) ?_
          have hFc := va_free (wc := (ME h g ss sa so pl si fa li co st rq bl te op wo wz sr le tx ro)) hD hS hA [0, 1, 2, 3, 4, 5, 6] rfl
          refine va_callv (va_runV (As := []) (rest := []) ⟨hx, hb, hml, hown, ht⟩ (c_M_fail l dC dI k h g ss sa so pl si fa li co st rq bl te op wo le wz sr tx ro  _ (by omega) (by omega) (by omega) (by omega)) (cwV 0 ht (g_V k_763 k_765 k_50 k_80 k_766) rfl rfl rfl (by decide +kernel) ⟨(Nat.le_of_ble_eq_true rfl), (Nat.le_of_ble_eq_true rfl)⟩) ⟨fb_X, va_recv hK hP (ci := 4) (q0 := 0) rfl rfl, pre_X hE hS hFc hP hK hD⟩ rfl rfl hl.1 rfl (lv_room (Nat.le_of_ble_eq_true rfl)) d_M_absence_44 ⟨(Nat.le_of_ble_eq_true rfl), (Nat.le_of_ble_eq_true rfl)⟩) hS (fun q _ h9 => hFc q h9) hFc (fun u_343 t H locs het hvm hw hB hz1 hk1 hS => ?_)
          obtain ⟨so_340, fa_341, op_342⟩ := u_343
          try dsimp only at hw
          obtain ⟨p_345, p_346, p_347, p_348, p_349, p_350⟩ := hw
          obtain ⟨hP1, hK1, hD1⟩ := hB
          rw [het] at hP1
          have hP : va_P (dC, dI) cls (ME h g ss sa so_340 pl si fa_341 li co st rq bl te op_342 wo wz sr le tx ro) H := hP1
          have hD : va_D A (ME h g ss sa so_340 pl si fa_341 li co st rq bl te op_342 wo wz sr le tx ro) := hD1.weaken (fun _ _ _ h9 => hFc _ h9)
          have rl_351 : PS ss sa so fa op sa so_340 fa_341 op_342 := pr_out (by omega) (by omega) (by omega) _ _ _ _ (by omega)
          refine lv_iload_n hx hb d_M_absence_47 rfl (lv_at hl 2 rfl) ?_
          refine lv_iload_n hx hb d_M_absence_48 rfl (lv_at hl 0 rfl) ?_
          refine lv_ior hx hb d_M_absence_49 ?_
          refine lv_istore_n (lv' := [(1, .int (se ||| 0)), (3, .int 0), (2, .int r_28), (0, .ref (h 0))]) hx hb d_M_absence_50 rfl hl (by decide) rfl (fun ls hl => ?_)
          refine lv_aload_n hx hb d_M_absence_51 rfl (lv_at hl 3 rfl) ?_
          have hFc := va_free (wc := (ME h g ss sa so_340 pl si fa_341 li co st rq bl te op_342 wo wz sr le tx ro)) hD hS hA [0, 1, 2, 3, 4, 5, 6] rfl
          refine va_callv (va_runV (As := []) (rest := []) ⟨hx, hb, hml, hown, ht⟩ (c_M_next l dC dI k h g ss sa so_340 pl si fa_341 li co st rq bl te op_342 wo le wz sr tx ro  _ (by omega) (by omega) (by omega) (by omega) (by omega) (by omega) (by omega) (by omega) (by omega) (by omega) (by omega)) (cwV 0 ht (g_V k_694 k_696 k_37 k_80 k_697) rfl rfl rfl (by decide +kernel) ⟨(Nat.le_of_ble_eq_true rfl), (Nat.le_of_ble_eq_true rfl)⟩) ⟨fb_X, va_recv hK hP (ci := 4) (q0 := 0) rfl rfl, pre_X hE hS hFc hP hK hD⟩ rfl rfl hl.1 rfl (lv_room (Nat.le_of_ble_eq_true rfl)) d_M_absence_52 ⟨(Nat.le_of_ble_eq_true rfl), (Nat.le_of_ble_eq_true rfl)⟩) hS (fun q _ h9 => hFc q h9) hFc (fun u_360 t H locs het hvm hw hB hz1 hk1 hS => ?_)
          obtain ⟨sa_352, so_353, pl_354, fa_355, op_356, si_357, le_358, tx_359⟩ := u_360
          try dsimp only at hw
          obtain ⟨p_362, p_363, p_364, p_365, p_366, p_367, p_368, p_369, p_370, p_371, p_372⟩ := hw
          obtain ⟨hP1, hK1, hD1⟩ := hB
          rw [het] at hP1
          have hP : va_P (dC, dI) cls (ME h g ss sa_352 so_353 pl_354 si_357 fa_355 li co st rq bl te op_356 wo wz sr le_358 tx_359 ro) H := hP1
          have hD : va_D A (ME h g ss sa_352 so_353 pl_354 si_357 fa_355 li co st rq bl te op_356 wo wz sr le_358 tx_359 ro) := hD1.weaken (fun _ _ _ h9 => hFc _ h9)
          have rl_373 := p_372.resolve_right (by omega)
          have rl_374 := rSS rl_351 rl_373
          refine lv_iload_n hx hb d_M_absence_55 rfl (lv_at hl 2 rfl) ?_
          refine lv_bipush (v := 27) hx hb d_M_absence_56 (by decide) ?_
          refine lv_icmp_ne (tgt := 68) hx hb d_M_absence_58 (by decide) (fun c_375 => ?_) (fun c_375 => ?_)
          · have dc_375 := i_ne c_375 rfl (show Int32.toInt 27 = 27 by decide)
            refine lv_iload_n hx hb d_M_absence_68 rfl (lv_at hl 2 rfl) ?_
            refine lv_bipush (v := 29) hx hb d_M_absence_69 (by decide) ?_
            refine lv_icmp_ne (tgt := 82) hx hb d_M_absence_71 (by decide) (fun c_376 => ?_) (fun c_376 => ?_)
            · have dc_376 := i_ne c_376 rfl (show Int32.toInt 29 = 29 by decide)
              refine lv_aload_n hx hb d_M_absence_82 rfl (lv_at hl 3 rfl) ?_
              have hFc := va_free (wc := (ME h g ss sa_352 so_353 pl_354 si_357 fa_355 li co st rq bl te op_356 wo wz sr le_358 tx_359 ro)) hD hS hA [0, 1, 2, 3, 4, 5, 6] rfl
              refine va_callv (va_runV (As := []) (rest := []) ⟨hx, hb, hml, hown, ht⟩ (c_M_taken l dC dI k h g ss sa_352 so_353 pl_354 si_357 fa_355 li co st rq bl te op_356 wo le_358 wz sr tx_359 ro  _ (by omega) (by omega) (by omega) (by omega) (by omega) (by omega) (by omega) (by omega) (by omega) (by omega) (by omega)) (cwV 0 ht (g_V k_834 k_836 k_67 k_80 k_837) rfl rfl rfl (by decide +kernel) ⟨(Nat.le_of_ble_eq_true rfl), (Nat.le_of_ble_eq_true rfl)⟩) ⟨fb_X, va_recv hK hP (ci := 4) (q0 := 0) rfl rfl, pre_X hE hS hFc hP hK hD⟩ rfl rfl hl.1 rfl (lv_room (Nat.le_of_ble_eq_true rfl)) d_M_absence_83 ⟨(Nat.le_of_ble_eq_true rfl), (Nat.le_of_ble_eq_true rfl)⟩) hS (fun q _ h9 => hFc q h9) hFc (fun u_386 t H locs het hvm hw hB hz1 hk1 hS => ?_)
              obtain ⟨sa_377, so_378, pl_379, fa_380, op_381, si_382, le_383, tx_384, st_385⟩ := u_386
              try dsimp only at hw
              obtain ⟨p_388, p_389, p_390, p_391, p_392, p_393, p_394, p_395, p_396, p_397⟩ := hw
              obtain ⟨hP1, hK1, hD1⟩ := hB
              rw [het] at hP1
              have hP : va_P (dC, dI) cls (ME h g ss sa_377 so_378 pl_379 si_382 fa_380 li co st_385 rq bl te op_381 wo wz sr le_383 tx_384 ro) H := hP1
              have hD : va_D A (ME h g ss sa_377 so_378 pl_379 si_382 fa_380 li co st_385 rq bl te op_381 wo wz sr le_383 tx_384 ro) := hD1.weaken (fun _ _ _ h9 => hFc _ h9)
              have rl_398 := rSS rl_374 p_397
              refine lv_goto (tgt := 2) hx hb d_M_absence_86 (by decide) ?_
              obtain ⟨ym_399a, ym_399b⟩ := PS.yd rl_398 (by omega)
              exact ih (se ||| 0) sa_377 so_378 pl_379 fa_380 op_381 si_382 le_383 tx_384 st_385 rq (rRS v_0 rl_398).pr (by omega) (by omega) (by omega) (by omega) (by omega) (by omega) (by omega) (by omega) (by omega) (by omega) _ _ ls hP hD hS (lv_sub hl [0, 3] rfl)
            · have dc_376 := i_eq c_376 rfl (show Int32.toInt 29 = 29 by decide)
              refine lv_aload_n hx hb d_M_absence_74 rfl (lv_at hl 3 rfl) ?_
              refine lv_iconst (v := 0) hx hb d_M_absence_75 (by decide) ?_
              have hc_0 : Int32.toInt 0 = 0 := by decide
              have hFc := va_free (wc := (ME h g ss sa_352 so_353 pl_354 si_357 fa_355 li co st rq bl te op_356 wo wz sr le_358 tx_359 ro)) hD hS hA [0, 1, 2, 3, 4, 5, 6] rfl
              refine va_callv (va_runV (As := [.int 0]) (rest := []) ⟨hx, hb, hml, hown, ht⟩ (c_M_list l dC dI k h g ss sa_352 so_353 pl_354 si_357 fa_355 li co st rq bl te op_356 wo le_358 wz sr tx_359 ro 0 _ (by omega) (by omega) (by omega) (by omega) (by omega) (by omega) (by omega) (by omega) (by omega) (by omega) (by omega)) (cwV 1 ht (g_V k_775 k_777 k_53 k_80 k_778) rfl rfl rfl (by decide +kernel) ⟨(Nat.le_of_ble_eq_true rfl), (Nat.le_of_ble_eq_true rfl)⟩) ⟨fb_X, va_recv hK hP (ci := 4) (q0 := 0) rfl rfl, pre_X hE hS hFc hP hK hD⟩ rfl rfl hl.1 rfl (lv_room (Nat.le_of_ble_eq_true rfl)) d_M_absence_76 ⟨(Nat.le_of_ble_eq_true rfl), (Nat.le_of_ble_eq_true rfl)⟩) hS (fun q _ h9 => hFc q h9) hFc (fun u_410 t H locs het hvm hw hB hz1 hk1 hS => ?_)
              obtain ⟨sa_400, so_401, pl_402, fa_403, op_404, si_405, le_406, tx_407, st_408, rq_409⟩ := u_410
              try dsimp only at hw
              obtain ⟨p_412, p_413, p_414, p_415, p_416, p_417, p_418, p_419, p_420, p_421⟩ := hw
              obtain ⟨hP1, hK1, hD1⟩ := hB
              rw [het] at hP1
              have hP : va_P (dC, dI) cls (ME h g ss sa_400 so_401 pl_402 si_405 fa_403 li co st_408 rq_409 bl te op_404 wo wz sr le_406 tx_407 ro) H := hP1
              have hD : va_D A (ME h g ss sa_400 so_401 pl_402 si_405 fa_403 li co st_408 rq_409 bl te op_404 wo wz sr le_406 tx_407 ro) := hD1.weaken (fun _ _ _ h9 => hFc _ h9)
              have rl_422 := rSS rl_374 p_421
              refine lv_goto (tgt := 86) hx hb d_M_absence_79 (by decide) ?_
              refine lv_goto (tgt := 2) hx hb d_M_absence_86 (by decide) ?_
              obtain ⟨ym_423a, ym_423b⟩ := PS.yd rl_422 (by omega)
              exact ih (se ||| 0) sa_400 so_401 pl_402 fa_403 op_404 si_405 le_406 tx_407 st_408 rq_409 (rRS v_0 rl_422).pr (by omega) (by omega) (by omega) (by omega) (by omega) (by omega) (by omega) (by omega) (by omega) (by omega) _ _ ls hP hD hS (lv_sub hl [0, 3] rfl)
          · have dc_375 := i_eq c_375 rfl (show Int32.toInt 27 = 27 by decide)
            refine lv_aload_n hx hb d_M_absence_61 rfl (lv_at hl 3 rfl) ?_
            have hFc := va_free (wc := (ME h g ss sa_352 so_353 pl_354 si_357 fa_355 li co st rq bl te op_356 wo wz sr le_358 tx_359 ro)) hD hS hA [0, 1, 2, 3, 4, 5, 6] rfl
            refine va_callv (va_runV (As := []) (rest := []) ⟨hx, hb, hml, hown, ht⟩ (c_M_number l dC dI k h g ss sa_352 so_353 pl_354 si_357 fa_355 li co st rq bl te op_356 wo le_358 wz sr tx_359 ro  _ (by omega) (by omega) (by omega) (by omega) (by omega) (by omega) (by omega) (by omega) (by omega) (by omega) (by omega)) (cwV 0 ht (g_V k_842 k_844 k_69 k_80 k_845) rfl rfl rfl (by decide +kernel) ⟨(Nat.le_of_ble_eq_true rfl), (Nat.le_of_ble_eq_true rfl)⟩) ⟨fb_X, va_recv hK hP (ci := 4) (q0 := 0) rfl rfl, pre_X hE hS hFc hP hK hD⟩ rfl rfl hl.1 rfl (lv_room (Nat.le_of_ble_eq_true rfl)) d_M_absence_62 ⟨(Nat.le_of_ble_eq_true rfl), (Nat.le_of_ble_eq_true rfl)⟩) hS (fun q _ h9 => hFc q h9) hFc (fun u_432 t H locs het hvm hw hB hz1 hk1 hS => ?_)
            obtain ⟨sa_424, so_425, pl_426, fa_427, op_428, si_429, le_430, tx_431⟩ := u_432
            try dsimp only at hw
            obtain ⟨p_434, p_435, p_436, p_437, p_438, p_439, p_440, p_441, p_442, p_443⟩ := hw
            obtain ⟨hP1, hK1, hD1⟩ := hB
            rw [het] at hP1
            have hP : va_P (dC, dI) cls (ME h g ss sa_424 so_425 pl_426 si_429 fa_427 li co st rq bl te op_428 wo wz sr le_430 tx_431 ro) H := hP1
            have hD : va_D A (ME h g ss sa_424 so_425 pl_426 si_429 fa_427 li co st rq bl te op_428 wo wz sr le_430 tx_431 ro) := hD1.weaken (fun _ _ _ h9 => hFc _ h9)
            have rl_444 := rSS rl_374 p_443
            refine lv_goto (tgt := 86) hx hb d_M_absence_65 (by decide) ?_
            refine lv_goto (tgt := 2) hx hb d_M_absence_86 (by decide) ?_
            obtain ⟨ym_445a, ym_445b⟩ := PS.yd rl_444 (by omega)
            exact ih (se ||| 0) sa_424 so_425 pl_426 fa_427 op_428 si_429 le_430 tx_431 st rq (rRS v_0 rl_444).pr (by omega) (by omega) (by omega) (by omega) (by omega) (by omega) (by omega) (by omega) (by omega) (by omega) _ _ ls hP hD hS (lv_sub hl [0, 3] rfl)
        · have dc_339 := i_nlt c_339 rfl (show Int32.toInt 0 = 0 by decide)
          refine lv_iload_n hx hb d_M_absence_37 rfl (lv_at hl 2 rfl) ?_
          refine lv_iload_n hx hb d_M_absence_38 rfl (lv_at hl 0 rfl) ?_
          refine lv_iand hx hb d_M_absence_39 ?_
          refine lv_if_eq (tgt := 47) hx hb d_M_absence_40 (by decide) (fun c_446 => ?_) (fun c_446 => ?_)
          · refine lv_iload_n hx hb d_M_absence_47 rfl (lv_at hl 2 rfl) ?_
            refine lv_iload_n hx hb d_M_absence_48 rfl (lv_at hl 0 rfl) ?_
            refine lv_ior hx hb d_M_absence_49 ?_
            refine lv_istore_n (lv' := [(1, .int (se ||| 0)), (3, .int 0), (2, .int r_28), (0, .ref (h 0))]) hx hb d_M_absence_50 rfl hl (by decide) rfl (fun ls hl => ?_)
            refine lv_aload_n hx hb d_M_absence_51 rfl (lv_at hl 3 rfl) ?_
            have hFc := va_free (wc := (ME h g ss sa so pl si fa li co st rq bl te op wo wz sr le tx ro)) hD hS hA [0, 1, 2, 3, 4, 5, 6] rfl
            refine va_callv (va_runV (As := []) (rest := []) ⟨hx, hb, hml, hown, ht⟩ (c_M_next l dC dI k h g ss sa so pl si fa li co st rq bl te op wo le wz sr tx ro  _ (by omega) (by omega) (by omega) (by omega) (by omega) (by omega) (by omega) (by omega) (by omega) (by omega) (by omega)) (cwV 0 ht (g_V k_694 k_696 k_37 k_80 k_697) rfl rfl rfl (by decide +kernel) ⟨(Nat.le_of_ble_eq_true rfl), (Nat.le_of_ble_eq_true rfl)⟩) ⟨fb_X, va_recv hK hP (ci := 4) (q0 := 0) rfl rfl, pre_X hE hS hFc hP hK hD⟩ rfl rfl hl.1 rfl (lv_room (Nat.le_of_ble_eq_true rfl)) d_M_absence_52 ⟨(Nat.le_of_ble_eq_true rfl), (Nat.le_of_ble_eq_true rfl)⟩) hS (fun q _ h9 => hFc q h9) hFc (fun u_455 t H locs het hvm hw hB hz1 hk1 hS => ?_)
            obtain ⟨sa_447, so_448, pl_449, fa_450, op_451, si_452, le_453, tx_454⟩ := u_455
            try dsimp only at hw
            obtain ⟨p_457, p_458, p_459, p_460, p_461, p_462, p_463, p_464, p_465, p_466, p_467⟩ := hw
            obtain ⟨hP1, hK1, hD1⟩ := hB
            rw [het] at hP1
            have hP : va_P (dC, dI) cls (ME h g ss sa_447 so_448 pl_449 si_452 fa_450 li co st rq bl te op_451 wo wz sr le_453 tx_454 ro) H := hP1
            have hD : va_D A (ME h g ss sa_447 so_448 pl_449 si_452 fa_450 li co st rq bl te op_451 wo wz sr le_453 tx_454 ro) := hD1.weaken (fun _ _ _ h9 => hFc _ h9)
            have rl_468 := p_467.resolve_right (by omega)
            refine lv_iload_n hx hb d_M_absence_55 rfl (lv_at hl 2 rfl) ?_
            refine lv_bipush (v := 27) hx hb d_M_absence_56 (by decide) ?_
            refine lv_icmp_ne (tgt := 68) hx hb d_M_absence_58 (by decide) (fun c_469 => ?_) (fun c_469 => ?_)
            · have dc_469 := i_ne c_469 rfl (show Int32.toInt 27 = 27 by decide)
              refine lv_iload_n hx hb d_M_absence_68 rfl (lv_at hl 2 rfl) ?_
              refine lv_bipush (v := 29) hx hb d_M_absence_69 (by decide) ?_
              refine lv_icmp_ne (tgt := 82) hx hb d_M_absence_71 (by decide) (fun c_470 => ?_) (fun c_470 => ?_)
              · have dc_470 := i_ne c_470 rfl (show Int32.toInt 29 = 29 by decide)
                refine lv_aload_n hx hb d_M_absence_82 rfl (lv_at hl 3 rfl) ?_
                have hFc := va_free (wc := (ME h g ss sa_447 so_448 pl_449 si_452 fa_450 li co st rq bl te op_451 wo wz sr le_453 tx_454 ro)) hD hS hA [0, 1, 2, 3, 4, 5, 6] rfl
                refine va_callv (va_runV (As := []) (rest := []) ⟨hx, hb, hml, hown, ht⟩ (c_M_taken l dC dI k h g ss sa_447 so_448 pl_449 si_452 fa_450 li co st rq bl te op_451 wo le_453 wz sr tx_454 ro  _ (by omega) (by omega) (by omega) (by omega) (by omega) (by omega) (by omega) (by omega) (by omega) (by omega) (by omega)) (cwV 0 ht (g_V k_834 k_836 k_67 k_80 k_837) rfl rfl rfl (by decide +kernel) ⟨(Nat.le_of_ble_eq_true rfl), (Nat.le_of_ble_eq_true rfl)⟩) ⟨fb_X, va_recv hK hP (ci := 4) (q0 := 0) rfl rfl, pre_X hE hS hFc hP hK hD⟩ rfl rfl hl.1 rfl (lv_room (Nat.le_of_ble_eq_true rfl)) d_M_absence_83 ⟨(Nat.le_of_ble_eq_true rfl), (Nat.le_of_ble_eq_true rfl)⟩) hS (fun q _ h9 => hFc q h9) hFc (fun u_480 t H locs het hvm hw hB hz1 hk1 hS => ?_)
                obtain ⟨sa_471, so_472, pl_473, fa_474, op_475, si_476, le_477, tx_478, st_479⟩ := u_480
                try dsimp only at hw
                obtain ⟨p_482, p_483, p_484, p_485, p_486, p_487, p_488, p_489, p_490, p_491⟩ := hw
                obtain ⟨hP1, hK1, hD1⟩ := hB
                rw [het] at hP1
                have hP : va_P (dC, dI) cls (ME h g ss sa_471 so_472 pl_473 si_476 fa_474 li co st_479 rq bl te op_475 wo wz sr le_477 tx_478 ro) H := hP1
                have hD : va_D A (ME h g ss sa_471 so_472 pl_473 si_476 fa_474 li co st_479 rq bl te op_475 wo wz sr le_477 tx_478 ro) := hD1.weaken (fun _ _ _ h9 => hFc _ h9)
                have rl_492 := rSS rl_468 p_491
                refine lv_goto (tgt := 2) hx hb d_M_absence_86 (by decide) ?_
                obtain ⟨ym_493a, ym_493b⟩ := PS.yd rl_492 (by omega)
                exact ih (se ||| 0) sa_471 so_472 pl_473 fa_474 op_475 si_476 le_477 tx_478 st_479 rq (rRS v_0 rl_492).pr (by omega) (by omega) (by omega) (by omega) (by omega) (by omega) (by omega) (by omega) (by omega) (by omega) _ _ ls hP hD hS (lv_sub hl [0, 3] rfl)
              · have dc_470 := i_eq c_470 rfl (show Int32.toInt 29 = 29 by decide)
                refine lv_aload_n hx hb d_M_absence_74 rfl (lv_at hl 3 rfl) ?_
                refine lv_iconst (v := 0) hx hb d_M_absence_75 (by decide) ?_
                have hc_0 : Int32.toInt 0 = 0 := by decide
                have hFc := va_free (wc := (ME h g ss sa_447 so_448 pl_449 si_452 fa_450 li co st rq bl te op_451 wo wz sr le_453 tx_454 ro)) hD hS hA [0, 1, 2, 3, 4, 5, 6] rfl
                refine va_callv (va_runV (As := [.int 0]) (rest := []) ⟨hx, hb, hml, hown, ht⟩ (c_M_list l dC dI k h g ss sa_447 so_448 pl_449 si_452 fa_450 li co st rq bl te op_451 wo le_453 wz sr tx_454 ro 0 _ (by omega) (by omega) (by omega) (by omega) (by omega) (by omega) (by omega) (by omega) (by omega) (by omega) (by omega)) (cwV 1 ht (g_V k_775 k_777 k_53 k_80 k_778) rfl rfl rfl (by decide +kernel) ⟨(Nat.le_of_ble_eq_true rfl), (Nat.le_of_ble_eq_true rfl)⟩) ⟨fb_X, va_recv hK hP (ci := 4) (q0 := 0) rfl rfl, pre_X hE hS hFc hP hK hD⟩ rfl rfl hl.1 rfl (lv_room (Nat.le_of_ble_eq_true rfl)) d_M_absence_76 ⟨(Nat.le_of_ble_eq_true rfl), (Nat.le_of_ble_eq_true rfl)⟩) hS (fun q _ h9 => hFc q h9) hFc (fun u_504 t H locs het hvm hw hB hz1 hk1 hS => ?_)
                obtain ⟨sa_494, so_495, pl_496, fa_497, op_498, si_499, le_500, tx_501, st_502, rq_503⟩ := u_504
                try dsimp only at hw
                obtain ⟨p_506, p_507, p_508, p_509, p_510, p_511, p_512, p_513, p_514, p_515⟩ := hw
                obtain ⟨hP1, hK1, hD1⟩ := hB
                rw [het] at hP1
                have hP : va_P (dC, dI) cls (ME h g ss sa_494 so_495 pl_496 si_499 fa_497 li co st_502 rq_503 bl te op_498 wo wz sr le_500 tx_501 ro) H := hP1
                have hD : va_D A (ME h g ss sa_494 so_495 pl_496 si_499 fa_497 li co st_502 rq_503 bl te op_498 wo wz sr le_500 tx_501 ro) := hD1.weaken (fun _ _ _ h9 => hFc _ h9)
                have rl_516 := rSS rl_468 p_515
                refine lv_goto (tgt := 86) hx hb d_M_absence_79 (by decide) ?_
                refine lv_goto (tgt := 2) hx hb d_M_absence_86 (by decide) ?_
                obtain ⟨ym_517a, ym_517b⟩ := PS.yd rl_516 (by omega)
                exact ih (se ||| 0) sa_494 so_495 pl_496 fa_497 op_498 si_499 le_500 tx_501 st_502 rq_503 (rRS v_0 rl_516).pr (by omega) (by omega) (by omega) (by omega) (by omega) (by omega) (by omega) (by omega) (by omega) (by omega) _ _ ls hP hD hS (lv_sub hl [0, 3] rfl)
            · have dc_469 := i_eq c_469 rfl (show Int32.toInt 27 = 27 by decide)
              refine lv_aload_n hx hb d_M_absence_61 rfl (lv_at hl 3 rfl) ?_
              have hFc := va_free (wc := (ME h g ss sa_447 so_448 pl_449 si_452 fa_450 li co st rq bl te op_451 wo wz sr le_453 tx_454 ro)) hD hS hA [0, 1, 2, 3, 4, 5, 6] rfl
              refine va_callv (va_runV (As := []) (rest := []) ⟨hx, hb, hml, hown, ht⟩ (c_M_number l dC dI k h g ss sa_447 so_448 pl_449 si_452 fa_450 li co st rq bl te op_451 wo le_453 wz sr tx_454 ro  _ (by omega) (by omega) (by omega) (by omega) (by omega) (by omega) (by omega) (by omega) (by omega) (by omega) (by omega)) (cwV 0 ht (g_V k_842 k_844 k_69 k_80 k_845) rfl rfl rfl (by decide +kernel) ⟨(Nat.le_of_ble_eq_true rfl), (Nat.le_of_ble_eq_true rfl)⟩) ⟨fb_X, va_recv hK hP (ci := 4) (q0 := 0) rfl rfl, pre_X hE hS hFc hP hK hD⟩ rfl rfl hl.1 rfl (lv_room (Nat.le_of_ble_eq_true rfl)) d_M_absence_62 ⟨(Nat.le_of_ble_eq_true rfl), (Nat.le_of_ble_eq_true rfl)⟩) hS (fun q _ h9 => hFc q h9) hFc (fun u_526 t H locs het hvm hw hB hz1 hk1 hS => ?_)
              obtain ⟨sa_518, so_519, pl_520, fa_521, op_522, si_523, le_524, tx_525⟩ := u_526
              try dsimp only at hw
              obtain ⟨p_528, p_529, p_530, p_531, p_532, p_533, p_534, p_535, p_536, p_537⟩ := hw
              obtain ⟨hP1, hK1, hD1⟩ := hB
              rw [het] at hP1
              have hP : va_P (dC, dI) cls (ME h g ss sa_518 so_519 pl_520 si_523 fa_521 li co st rq bl te op_522 wo wz sr le_524 tx_525 ro) H := hP1
              have hD : va_D A (ME h g ss sa_518 so_519 pl_520 si_523 fa_521 li co st rq bl te op_522 wo wz sr le_524 tx_525 ro) := hD1.weaken (fun _ _ _ h9 => hFc _ h9)
              have rl_538 := rSS rl_468 p_537
              refine lv_goto (tgt := 86) hx hb d_M_absence_65 (by decide) ?_
              refine lv_goto (tgt := 2) hx hb d_M_absence_86 (by decide) ?_
              obtain ⟨ym_539a, ym_539b⟩ := PS.yd rl_538 (by omega)
              exact ih (se ||| 0) sa_518 so_519 pl_520 fa_521 op_522 si_523 le_524 tx_525 st rq (rRS v_0 rl_538).pr (by omega) (by omega) (by omega) (by omega) (by omega) (by omega) (by omega) (by omega) (by omega) (by omega) _ _ ls hP hD hS (lv_sub hl [0, 3] rfl)
          · refine lv_aload_n hx hb d_M_absence_43 rfl (lv_at hl 3 rfl) ?_
            have hFc := va_free (wc := (ME h g ss sa so pl si fa li co st rq bl te op wo wz sr le tx ro)) hD hS hA [0, 1, 2, 3, 4, 5, 6] rfl
            refine va_callv (va_runV (As := []) (rest := []) ⟨hx, hb, hml, hown, ht⟩ (c_M_fail l dC dI k h g ss sa so pl si fa li co st rq bl te op wo le wz sr tx ro  _ (by omega) (by omega) (by omega) (by omega)) (cwV 0 ht (g_V k_763 k_765 k_50 k_80 k_766) rfl rfl rfl (by decide +kernel) ⟨(Nat.le_of_ble_eq_true rfl), (Nat.le_of_ble_eq_true rfl)⟩) ⟨fb_X, va_recv hK hP (ci := 4) (q0 := 0) rfl rfl, pre_X hE hS hFc hP hK hD⟩ rfl rfl hl.1 rfl (lv_room (Nat.le_of_ble_eq_true rfl)) d_M_absence_44 ⟨(Nat.le_of_ble_eq_true rfl), (Nat.le_of_ble_eq_true rfl)⟩) hS (fun q _ h9 => hFc q h9) hFc (fun u_543 t H locs het hvm hw hB hz1 hk1 hS => ?_)
            obtain ⟨so_540, fa_541, op_542⟩ := u_543
            try dsimp only at hw
            obtain ⟨p_545, p_546, p_547, p_548, p_549, p_550⟩ := hw
            obtain ⟨hP1, hK1, hD1⟩ := hB
            rw [het] at hP1
            have hP : va_P (dC, dI) cls (ME h g ss sa so_540 pl si fa_541 li co st rq bl te op_542 wo wz sr le tx ro) H := hP1
            have hD : va_D A (ME h g ss sa so_540 pl si fa_541 li co st rq bl te op_542 wo wz sr le tx ro) := hD1.weaken (fun _ _ _ h9 => hFc _ h9)
            have rl_551 : PS ss sa so fa op sa so_540 fa_541 op_542 := pr_out (by omega) (by omega) (by omega) _ _ _ _ (by omega)
            refine lv_iload_n hx hb d_M_absence_47 rfl (lv_at hl 2 rfl) ?_
            refine lv_iload_n hx hb d_M_absence_48 rfl (lv_at hl 0 rfl) ?_
            refine lv_ior hx hb d_M_absence_49 ?_
            refine lv_istore_n (lv' := [(1, .int (se ||| 0)), (3, .int 0), (2, .int r_28), (0, .ref (h 0))]) hx hb d_M_absence_50 rfl hl (by decide) rfl (fun ls hl => ?_)
            refine lv_aload_n hx hb d_M_absence_51 rfl (lv_at hl 3 rfl) ?_
            have hFc := va_free (wc := (ME h g ss sa so_540 pl si fa_541 li co st rq bl te op_542 wo wz sr le tx ro)) hD hS hA [0, 1, 2, 3, 4, 5, 6] rfl
            refine va_callv (va_runV (As := []) (rest := []) ⟨hx, hb, hml, hown, ht⟩ (c_M_next l dC dI k h g ss sa so_540 pl si fa_541 li co st rq bl te op_542 wo le wz sr tx ro  _ (by omega) (by omega) (by omega) (by omega) (by omega) (by omega) (by omega) (by omega) (by omega) (by omega) (by omega)) (cwV 0 ht (g_V k_694 k_696 k_37 k_80 k_697) rfl rfl rfl (by decide +kernel) ⟨(Nat.le_of_ble_eq_true rfl), (Nat.le_of_ble_eq_true rfl)⟩) ⟨fb_X, va_recv hK hP (ci := 4) (q0 := 0) rfl rfl, pre_X hE hS hFc hP hK hD⟩ rfl rfl hl.1 rfl (lv_room (Nat.le_of_ble_eq_true rfl)) d_M_absence_52 ⟨(Nat.le_of_ble_eq_true rfl), (Nat.le_of_ble_eq_true rfl)⟩) hS (fun q _ h9 => hFc q h9) hFc (fun u_560 t H locs het hvm hw hB hz1 hk1 hS => ?_)
            obtain ⟨sa_552, so_553, pl_554, fa_555, op_556, si_557, le_558, tx_559⟩ := u_560
            try dsimp only at hw
            obtain ⟨p_562, p_563, p_564, p_565, p_566, p_567, p_568, p_569, p_570, p_571, p_572⟩ := hw
            obtain ⟨hP1, hK1, hD1⟩ := hB
            rw [het] at hP1
            have hP : va_P (dC, dI) cls (ME h g ss sa_552 so_553 pl_554 si_557 fa_555 li co st rq bl te op_556 wo wz sr le_558 tx_559 ro) H := hP1
            have hD : va_D A (ME h g ss sa_552 so_553 pl_554 si_557 fa_555 li co st rq bl te op_556 wo wz sr le_558 tx_559 ro) := hD1.weaken (fun _ _ _ h9 => hFc _ h9)
            have rl_573 := p_572.resolve_right (by omega)
            have rl_574 := rSS rl_551 rl_573
            refine lv_iload_n hx hb d_M_absence_55 rfl (lv_at hl 2 rfl) ?_
            refine lv_bipush (v := 27) hx hb d_M_absence_56 (by decide) ?_
            refine lv_icmp_ne (tgt := 68) hx hb d_M_absence_58 (by decide) (fun c_575 => ?_) (fun c_575 => ?_)
            · have dc_575 := i_ne c_575 rfl (show Int32.toInt 27 = 27 by decide)
              refine lv_iload_n hx hb d_M_absence_68 rfl (lv_at hl 2 rfl) ?_
              refine lv_bipush (v := 29) hx hb d_M_absence_69 (by decide) ?_
              refine lv_icmp_ne (tgt := 82) hx hb d_M_absence_71 (by decide) (fun c_576 => ?_) (fun c_576 => ?_)
              · have dc_576 := i_ne c_576 rfl (show Int32.toInt 29 = 29 by decide)
                refine lv_aload_n hx hb d_M_absence_82 rfl (lv_at hl 3 rfl) ?_
                have hFc := va_free (wc := (ME h g ss sa_552 so_553 pl_554 si_557 fa_555 li co st rq bl te op_556 wo wz sr le_558 tx_559 ro)) hD hS hA [0, 1, 2, 3, 4, 5, 6] rfl
                refine va_callv (va_runV (As := []) (rest := []) ⟨hx, hb, hml, hown, ht⟩ (c_M_taken l dC dI k h g ss sa_552 so_553 pl_554 si_557 fa_555 li co st rq bl te op_556 wo le_558 wz sr tx_559 ro  _ (by omega) (by omega) (by omega) (by omega) (by omega) (by omega) (by omega) (by omega) (by omega) (by omega) (by omega)) (cwV 0 ht (g_V k_834 k_836 k_67 k_80 k_837) rfl rfl rfl (by decide +kernel) ⟨(Nat.le_of_ble_eq_true rfl), (Nat.le_of_ble_eq_true rfl)⟩) ⟨fb_X, va_recv hK hP (ci := 4) (q0 := 0) rfl rfl, pre_X hE hS hFc hP hK hD⟩ rfl rfl hl.1 rfl (lv_room (Nat.le_of_ble_eq_true rfl)) d_M_absence_83 ⟨(Nat.le_of_ble_eq_true rfl), (Nat.le_of_ble_eq_true rfl)⟩) hS (fun q _ h9 => hFc q h9) hFc (fun u_586 t H locs het hvm hw hB hz1 hk1 hS => ?_)
                obtain ⟨sa_577, so_578, pl_579, fa_580, op_581, si_582, le_583, tx_584, st_585⟩ := u_586
                try dsimp only at hw
                obtain ⟨p_588, p_589, p_590, p_591, p_592, p_593, p_594, p_595, p_596, p_597⟩ := hw
                obtain ⟨hP1, hK1, hD1⟩ := hB
                rw [het] at hP1
                have hP : va_P (dC, dI) cls (ME h g ss sa_577 so_578 pl_579 si_582 fa_580 li co st_585 rq bl te op_581 wo wz sr le_583 tx_584 ro) H := hP1
                have hD : va_D A (ME h g ss sa_577 so_578 pl_579 si_582 fa_580 li co st_585 rq bl te op_581 wo wz sr le_583 tx_584 ro) := hD1.weaken (fun _ _ _ h9 => hFc _ h9)
                have rl_598 := rSS rl_574 p_597
                refine lv_goto (tgt := 2) hx hb d_M_absence_86 (by decide) ?_
                obtain ⟨ym_599a, ym_599b⟩ := PS.yd rl_598 (by omega)
                exact ih (se ||| 0) sa_577 so_578 pl_579 fa_580 op_581 si_582 le_583 tx_584 st_585 rq (rRS v_0 rl_598).pr (by omega) (by omega) (by omega) (by omega) (by omega) (by omega) (by omega) (by omega) (by omega) (by omega) _ _ ls hP hD hS (lv_sub hl [0, 3] rfl)
              · have dc_576 := i_eq c_576 rfl (show Int32.toInt 29 = 29 by decide)
                refine lv_aload_n hx hb d_M_absence_74 rfl (lv_at hl 3 rfl) ?_
                refine lv_iconst (v := 0) hx hb d_M_absence_75 (by decide) ?_
                have hc_0 : Int32.toInt 0 = 0 := by decide
                have hFc := va_free (wc := (ME h g ss sa_552 so_553 pl_554 si_557 fa_555 li co st rq bl te op_556 wo wz sr le_558 tx_559 ro)) hD hS hA [0, 1, 2, 3, 4, 5, 6] rfl
                refine va_callv (va_runV (As := [.int 0]) (rest := []) ⟨hx, hb, hml, hown, ht⟩ (c_M_list l dC dI k h g ss sa_552 so_553 pl_554 si_557 fa_555 li co st rq bl te op_556 wo le_558 wz sr tx_559 ro 0 _ (by omega) (by omega) (by omega) (by omega) (by omega) (by omega) (by omega) (by omega) (by omega) (by omega) (by omega)) (cwV 1 ht (g_V k_775 k_777 k_53 k_80 k_778) rfl rfl rfl (by decide +kernel) ⟨(Nat.le_of_ble_eq_true rfl), (Nat.le_of_ble_eq_true rfl)⟩) ⟨fb_X, va_recv hK hP (ci := 4) (q0 := 0) rfl rfl, pre_X hE hS hFc hP hK hD⟩ rfl rfl hl.1 rfl (lv_room (Nat.le_of_ble_eq_true rfl)) d_M_absence_76 ⟨(Nat.le_of_ble_eq_true rfl), (Nat.le_of_ble_eq_true rfl)⟩) hS (fun q _ h9 => hFc q h9) hFc (fun u_610 t H locs het hvm hw hB hz1 hk1 hS => ?_)
                obtain ⟨sa_600, so_601, pl_602, fa_603, op_604, si_605, le_606, tx_607, st_608, rq_609⟩ := u_610
                try dsimp only at hw
                obtain ⟨p_612, p_613, p_614, p_615, p_616, p_617, p_618, p_619, p_620, p_621⟩ := hw
                obtain ⟨hP1, hK1, hD1⟩ := hB
                rw [het] at hP1
                have hP : va_P (dC, dI) cls (ME h g ss sa_600 so_601 pl_602 si_605 fa_603 li co st_608 rq_609 bl te op_604 wo wz sr le_606 tx_607 ro) H := hP1
                have hD : va_D A (ME h g ss sa_600 so_601 pl_602 si_605 fa_603 li co st_608 rq_609 bl te op_604 wo wz sr le_606 tx_607 ro) := hD1.weaken (fun _ _ _ h9 => hFc _ h9)
                have rl_622 := rSS rl_574 p_621
                refine lv_goto (tgt := 86) hx hb d_M_absence_79 (by decide) ?_
                refine lv_goto (tgt := 2) hx hb d_M_absence_86 (by decide) ?_
                obtain ⟨ym_623a, ym_623b⟩ := PS.yd rl_622 (by omega)
                exact ih (se ||| 0) sa_600 so_601 pl_602 fa_603 op_604 si_605 le_606 tx_607 st_608 rq_609 (rRS v_0 rl_622).pr (by omega) (by omega) (by omega) (by omega) (by omega) (by omega) (by omega) (by omega) (by omega) (by omega) _ _ ls hP hD hS (lv_sub hl [0, 3] rfl)
            · have dc_575 := i_eq c_575 rfl (show Int32.toInt 27 = 27 by decide)
              refine lv_aload_n hx hb d_M_absence_61 rfl (lv_at hl 3 rfl) ?_
              have hFc := va_free (wc := (ME h g ss sa_552 so_553 pl_554 si_557 fa_555 li co st rq bl te op_556 wo wz sr le_558 tx_559 ro)) hD hS hA [0, 1, 2, 3, 4, 5, 6] rfl
              refine va_callv (va_runV (As := []) (rest := []) ⟨hx, hb, hml, hown, ht⟩ (c_M_number l dC dI k h g ss sa_552 so_553 pl_554 si_557 fa_555 li co st rq bl te op_556 wo le_558 wz sr tx_559 ro  _ (by omega) (by omega) (by omega) (by omega) (by omega) (by omega) (by omega) (by omega) (by omega) (by omega) (by omega)) (cwV 0 ht (g_V k_842 k_844 k_69 k_80 k_845) rfl rfl rfl (by decide +kernel) ⟨(Nat.le_of_ble_eq_true rfl), (Nat.le_of_ble_eq_true rfl)⟩) ⟨fb_X, va_recv hK hP (ci := 4) (q0 := 0) rfl rfl, pre_X hE hS hFc hP hK hD⟩ rfl rfl hl.1 rfl (lv_room (Nat.le_of_ble_eq_true rfl)) d_M_absence_62 ⟨(Nat.le_of_ble_eq_true rfl), (Nat.le_of_ble_eq_true rfl)⟩) hS (fun q _ h9 => hFc q h9) hFc (fun u_632 t H locs het hvm hw hB hz1 hk1 hS => ?_)
              obtain ⟨sa_624, so_625, pl_626, fa_627, op_628, si_629, le_630, tx_631⟩ := u_632
              try dsimp only at hw
              obtain ⟨p_634, p_635, p_636, p_637, p_638, p_639, p_640, p_641, p_642, p_643⟩ := hw
              obtain ⟨hP1, hK1, hD1⟩ := hB
              rw [het] at hP1
              have hP : va_P (dC, dI) cls (ME h g ss sa_624 so_625 pl_626 si_629 fa_627 li co st rq bl te op_628 wo wz sr le_630 tx_631 ro) H := hP1
              have hD : va_D A (ME h g ss sa_624 so_625 pl_626 si_629 fa_627 li co st rq bl te op_628 wo wz sr le_630 tx_631 ro) := hD1.weaken (fun _ _ _ h9 => hFc _ h9)
              have rl_644 := rSS rl_574 p_643
              refine lv_goto (tgt := 86) hx hb d_M_absence_65 (by decide) ?_
              refine lv_goto (tgt := 2) hx hb d_M_absence_86 (by decide) ?_
              obtain ⟨ym_645a, ym_645b⟩ := PS.yd rl_644 (by omega)
              exact ih (se ||| 0) sa_624 so_625 pl_626 fa_627 op_628 si_629 le_630 tx_631 st rq (rRS v_0 rl_644).pr (by omega) (by omega) (by omega) (by omega) (by omega) (by omega) (by omega) (by omega) (by omega) (by omega) _ _ ls hP hD hS (lv_sub hl [0, 3] rfl)
set_option maxHeartbeats 4000000 in
set_option maxRecDepth 100000 in
theorem bd_M_absence_0 {p : Program} {l : Launch} {e : Env} {s : State} {m : MethodId} {args : Array Value} {below : List Frame} {meth : Method} {c : Code} {Q : State → Prop} {A : Nat → Prop} {dC : Nat → ClassId} {dI : Nat → Nat → Nat} {k h : Nat → Nat} {g : Nat → ClassId} {ss : Int32} {li : Int32} {co : Int32} {bl : Int32} {te : Int32} {wo : Nat → Int64} {wz : Nat → Int32} {sr : Nat → Int32} {ro : Nat → Int32} {sa0 : Int32} {so0 : Int32} {fa0 : Int32} {op0 : Int32} (hx : p.tables.exec = Jvm.exec) (hb : c.code = b_M_absence) (hml : c.maxLocals = 4) (hown : s.vm.findClass "SieveDeskModel" = some m.cls) (ht : ∀ w ∈ TT, w.before args s = true) (hE : KE k A s s.heap) (hA : ∀ q : Nat, s.heap.size ≤ q → A q) (hK : va_K (dC, dI) cls (TM g) s)  (h_0 : 0 ≤ Int32.toInt ss) (h_1 : Int32.toInt ss ≤ 400) (fin : ∀ (u : Int32 × Int32 × Int32 × Int32 × Int32 × Int32 × (Nat → Int64) × (Nat → Int32) × Int32 × Int32) (H : Heap) (locs : List Loc) (pc : Nat) (ls : Array Slot), decode b_M_absence pc = .ok (.return_, 1) → (0 ≤ Int32.toInt u.1 ∧ Int32.toInt u.1 ≤ Int32.toInt ss ∧ 0 ≤ Int32.toInt u.2.2.1 ∧ Int32.toInt u.2.2.1 ≤ 400 ∧ -1 ≤ Int32.toInt u.2.2.2.1 ∧ Int32.toInt u.2.2.2.1 ≤ 400 ∧ (Int32.toInt u.2.2.2.1 < 0 ∨ (Int32.toInt u.2.1 = 0 ∧ Int32.toInt u.2.2.2.2.1 = 0)) ∧ 0 ≤ Int32.toInt u.2.2.2.2.2.1 ∧ Int32.toInt u.2.2.2.2.2.1 ≤ 400 ∧ PS ss sa0 so0 fa0 op0 u.1 u.2.1 u.2.2.2.1 u.2.2.2.2.1) → va_P (dC, dI) cls (ME h g ss u.1 u.2.1 u.2.2.1 u.2.2.2.2.2.1 u.2.2.2.1 li co u.2.2.2.2.2.2.2.2.1 u.2.2.2.2.2.2.2.2.2 bl te u.2.2.2.2.1 wo wz sr u.2.2.2.2.2.2.1 u.2.2.2.2.2.2.2.1 ro) H → va_D A (ME h g ss u.1 u.2.1 u.2.2.1 u.2.2.2.2.2.1 u.2.2.2.1 li co u.2.2.2.2.2.2.2.2.1 u.2.2.2.2.2.2.2.2.2 bl te u.2.2.2.2.1 wo wz sr u.2.2.2.2.2.2.1 u.2.2.2.2.2.2.2.1 ro) → va_S A s.heap H locs → W p l e ({ frames := 7, cells := 0, slots := 0, locals := 151 } : Room) s m args below meth c H locs 0 0 Q (F0 m pc ls [])) : ∀ (sa : Int32) (so : Int32) (pl : Int32) (fa : Int32) (op : Int32) (si : Int32) (le : Nat → Int64) (tx : Nat → Int32) (st : Int32) (rq : Int32), sa = sa0 → so = so0 → fa = fa0 → op = op0 → 0 ≤ Int32.toInt sa → Int32.toInt sa ≤ Int32.toInt ss → 0 ≤ Int32.toInt pl → Int32.toInt pl ≤ 400 → -1 ≤ Int32.toInt fa → Int32.toInt fa ≤ 400 → (Int32.toInt fa < 0 ∨ (Int32.toInt so = 0 ∧ Int32.toInt op = 0)) → 0 ≤ Int32.toInt si → Int32.toInt si ≤ 400 → ∀ (H : Heap) (locs : List Loc) (ls : Array Slot), va_P (dC, dI) cls (ME h g ss sa so pl si fa li co st rq bl te op wo wz sr le tx ro) H → va_D A (ME h g ss sa so pl si fa li co st rq bl te op wo wz sr le tx ro) → va_S A s.heap H locs → lv_has ls 4 [(0, .ref (h 0))] → W p l e ({ frames := 7, cells := 0, slots := 0, locals := 151 } : Room) s m args below meth c H locs 0 0 Q (F0 m 0 ls []) := by
  intro sa so pl fa op si le tx st rq v_0 v_1 v_2 v_3 v_4 v_5 v_6 v_7 v_8 v_9 v_10 v_11 v_12 H locs ls hP hD hS hl
  subst v_0
  subst v_1
  subst v_2
  subst v_3
  refine lv_iconst (v := 0) hx hb d_M_absence_0 (by decide) ?_
  refine lv_istore_n (lv' := [(1, .int 0), (0, .ref (h 0))]) hx hb d_M_absence_1 rfl hl (by decide) rfl (fun ls hl => ?_)
  have hc_0 : Int32.toInt 0 = 0 := by decide
  exact (lp_M_absence_2  hx hb hml hown ht hE hA hK h_0 h_1 fin _) 0 sa so pl fa op si le tx st rq (PR.refl (by omega)) (by omega) (by omega) (by omega) (by omega) (by omega) (by omega) (by omega) (by omega) (by omega) (Nat.lt_succ_self _) _ _ ls hP hD hS (lv_sub hl [0, 1] rfl)
set_option maxHeartbeats 4000000 in
set_option maxRecDepth 100000 in
theorem c_M_absence (l : Launch) (dC : Nat → ClassId) (dI : Nat → Nat → Nat) (k : Nat → Nat) (h : Nat → Nat) (g : Nat → ClassId) (ss : Int32) (sa : Int32) (so : Int32) (pl : Int32) (si : Int32) (fa : Int32) (li : Int32) (co : Int32) (st : Int32) (rq : Int32) (bl : Int32) (te : Int32) (op : Int32) (wo : Nat → Int64) (le : Nat → Int64) (wz : Nat → Int32) (sr : Nat → Int32) (tx : Nat → Int32) (ro : Nat → Int32)  (sz : Nat) (h_0 : 0 ≤ Int32.toInt ss) (h_1 : Int32.toInt ss ≤ 400) (v_0 : 0 ≤ Int32.toInt sa) (v_1 : Int32.toInt sa ≤ Int32.toInt ss) (v_2 : 0 ≤ Int32.toInt pl) (v_3 : Int32.toInt pl ≤ 400) (v_4 : -1 ≤ Int32.toInt fa) (v_5 : Int32.toInt fa ≤ 400) (v_6 : Int32.toInt fa < 0 ∨ (Int32.toInt so = 0 ∧ Int32.toInt op = 0)) (v_7 : 0 ≤ Int32.toInt si) (v_8 : Int32.toInt si ≤ 400) : Met l y_M_absence (.code y_M_absence b_M_absence 4 none :: TT) ({ frames := 7, cells := 0, slots := 0, locals := 151 }) (va_Pc [.ref (h 0)] (PX dC dI k (TM g) (ME h g ss sa so pl si fa li co st rq bl te op wo wz sr le tx ro) sz)) (va_Qv (fun u : Int32 × Int32 × Int32 × Int32 × Int32 × Int32 × (Nat → Int64) × (Nat → Int32) × Int32 × Int32 => 0 ≤ Int32.toInt u.1 ∧ Int32.toInt u.1 ≤ Int32.toInt ss ∧ 0 ≤ Int32.toInt u.2.2.1 ∧ Int32.toInt u.2.2.1 ≤ 400 ∧ -1 ≤ Int32.toInt u.2.2.2.1 ∧ Int32.toInt u.2.2.2.1 ≤ 400 ∧ (Int32.toInt u.2.2.2.1 < 0 ∨ (Int32.toInt u.2.1 = 0 ∧ Int32.toInt u.2.2.2.2.1 = 0)) ∧ 0 ≤ Int32.toInt u.2.2.2.2.2.1 ∧ Int32.toInt u.2.2.2.2.2.1 ≤ 400 ∧ PS ss sa so fa op u.1 u.2.1 u.2.2.2.1 u.2.2.2.2.1) (fun u t => BX dC dI (TM g) (va_A (ME h g ss sa so pl si fa li co st rq bl te op wo wz sr le tx ro) sz) (ME h g ss u.1 u.2.1 u.2.2.1 u.2.2.2.2.2.1 u.2.2.2.1 li co u.2.2.2.2.2.2.2.2.1 u.2.2.2.2.2.2.2.2.2 bl te u.2.2.2.2.1 wo wz sr u.2.2.2.2.2.2.1 u.2.2.2.2.2.2.2.1 ro) t) (va_A (ME h g ss sa so pl si fa li co st rq bl te op wo wz sr le tx ro) sz)) 0 0 (va_A (ME h g ss sa so pl si fa li co st rq bl te op wo wz sr le tx ro) sz) := by
  refine Met.ofW (cc := b_M_absence) (maxL := 4) (ret := none) (by decide) rfl ?_
  intro p e s m args below meth c s₁ B hml hv
  obtain ⟨rfl, hsz, hE, hP, hK, hD0⟩ := hv
  have hx := B.exec
  have hb := B.bytes
  have hr := B.returns
  have ht : ∀ w ∈ TT, w.before _ s = true := fun w hw => atoms_spec (ws := .code y_M_absence b_M_absence 4 none :: TT) B.pre w (List.mem_cons_of_mem _ hw)
  have hown : s.vm.findClass "SieveDeskModel" = some m.cls := findClass_of_methodNamed B.named
  have hlocks := B.notSynchronized
  subst hsz
  have hD := hD0.self (sz := s.heap.size)
  generalize hAe : va_A (ME h g ss sa so pl si fa li co st rq bl te op wo wz sr le tx ro) s.heap.size = A at hE hD ⊢
  have hA : ∀ q : Nat, s.heap.size ≤ q → A q := fun q h9 => by rw [← hAe]; exact Or.inr h9
  have hS : va_S A s.heap s.heap [] := va_S.rf
  have hl := lv_entry ([.ref (h 0)]) (n := 4) (Nat.le_of_ble_eq_true rfl)
  rw [lg_entry_eq]
  generalize (lg_sl ([.ref (h 0)]) ++ List.replicate (4 - (lg_sl ([.ref (h 0)])).length) Slot.unset).toArray = ls at hl ⊢
  have hl : lv_has ls 4 [(0, .ref (h 0))] := hl
  exact bd_M_absence_0  hx hb hml hown ht hE hA hK h_0 h_1 (fun u H locs pc ls hd hp hP hD hS => W.vret hx hb hr (fun t het hW => ⟨⟨u, rfl, hp, by rw [het]; exact hP, va_K.moved hW.alike hK, hD⟩, hS.F het⟩) hS.2.2 hd) sa so pl fa op si le tx st rq rfl rfl rfl rfl v_0 v_1 v_2 v_3 v_4 v_5 v_6 v_7 v_8 _ _ ls hP hD hS hl

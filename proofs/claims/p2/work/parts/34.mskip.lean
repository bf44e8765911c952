set_option maxHeartbeats 4000000 in
set_option maxRecDepth 100000 in
theorem lp_M_skip_g0 {p : Program} {l : Launch} {e : Env} {s : State} {m : MethodId} {args : Array Value} {below : List Frame} {meth : Method} {c : Code} {Q : State → Prop} {A : Nat → Prop} {dC : Nat → ClassId} {dI : Nat → Nat → Nat} {k h : Nat → Nat} {g : Nat → ClassId} {ss : Int32} {so : Int32} {pl : Int32} {si : Int32} {fa : Int32} {li : Int32} {co : Int32} {st : Int32} {rq : Int32} {bl : Int32} {te : Int32} {op : Int32} {wo : Nat → Int64} {le : Nat → Int64} {wz : Nat → Int32} {sr : Nat → Int32} {tx : Nat → Int32} {ro : Nat → Int32} {sa0 : Int32} (hx : p.tables.exec = Jvm.exec) (hb : c.code = b_M_skip) (hml : c.maxLocals = 4) (hown : s.vm.findClass "SieveDeskModel" = some m.cls) (ht : ∀ w ∈ TT, w.before args s = true) (hE : KE k A s s.heap) (hA : ∀ q : Nat, s.heap.size ≤ q → A q) (hK : va_K (dC, dI) cls (TM g) s)  (h_0 : 0 ≤ Int32.toInt ss) (h_1 : Int32.toInt ss ≤ 400) (fin : ∀ (r : Int32) (u : Int32) (H : Heap) (locs : List Loc) (pc : Nat) (ls : Array Slot), decode b_M_skip pc = .ok (.ireturn, 1) → narrow .boolean (.int r) = .int r → (0 ≤ Int32.toInt u ∧ Int32.toInt u ≤ Int32.toInt ss ∧ Int32.toInt sa0 ≤ Int32.toInt u ∧ narrow .boolean (.int r) = .int r) → va_P (dC, dI) cls (ME h g ss u so pl si fa li co st rq bl te op wo wz sr le tx ro) H → va_D A (ME h g ss u so pl si fa li co st rq bl te op wo wz sr le tx ro) → va_S A s.heap H locs → W p l e ({ frames := 1, cells := 0, slots := 0, locals := 21 } : Room) s m args below meth c H locs 0 0 Q (F0 m pc ls [.int r])) : ∀ (nn : Nat), (∀ (mo : Int32) (sa : Int32), 0 ≤ Int32.toInt mo → Int32.toInt mo ≤ 1 → Int32.toInt sa0 ≤ Int32.toInt sa → 0 ≤ Int32.toInt sa → Int32.toInt sa ≤ Int32.toInt ss → (2000 * (Int32.toInt ss - Int32.toInt sa) + 2 * Int32.toInt mo).toNat < nn → ∀ (H : Heap) (locs : List Loc) (ls : Array Slot), va_P (dC, dI) cls (ME h g ss sa so pl si fa li co st rq bl te op wo wz sr le tx ro) H → va_D A (ME h g ss sa so pl si fa li co st rq bl te op wo wz sr le tx ro) → va_S A s.heap H locs → lv_has ls 4 [(1, .int mo), (0, .ref (h 0))] → W p l e ({ frames := 1, cells := 0, slots := 0, locals := 21 } : Room) s m args below meth c H locs 0 0 Q (F0 m 2 ls [])) ∧ (∀ (mo : Int32) (gp : Nat) (sa : Int32), Int32.toInt mo = 1 → Int32.toInt sa0 ≤ Int32.toInt sa → (gp = 1 ∨ (gp = 0 ∧ pkI sr ss sa 0 = 35)) → 0 ≤ Int32.toInt sa → Int32.toInt sa ≤ Int32.toInt ss → (2000 * (Int32.toInt ss - Int32.toInt sa) + 1 + 2 * gp).toNat < nn → ∀ (H : Heap) (locs : List Loc) (ls : Array Slot), va_P (dC, dI) cls (ME h g ss sa so pl si fa li co st rq bl te op wo wz sr le tx ro) H → va_D A (ME h g ss sa so pl si fa li co st rq bl te op wo wz sr le tx ro) → va_S A s.heap H locs → lv_has ls 4 [(1, .int mo), (0, .ref (h 0))] → W p l e ({ frames := 1, cells := 0, slots := 0, locals := 21 } : Room) s m args below meth c H locs 0 0 Q (F0 m 55 ls [])) ∧ (∀ (mo : Int32) (kk : Int32) (sa : Int32), Int32.toInt mo = 1 → Int32.toInt sa0 ≤ Int32.toInt sa → Int32.toInt sa + 2 ≤ Int32.toInt kk → Int32.toInt kk ≤ 403 → Int32.toInt sa + 1 < Int32.toInt ss → 0 ≤ Int32.toInt sa → Int32.toInt sa ≤ Int32.toInt ss → (2000 * (Int32.toInt ss - Int32.toInt sa) - 1000 + (500 - Int32.toInt kk)).toNat < nn → ∀ (H : Heap) (locs : List Loc) (ls : Array Slot), va_P (dC, dI) cls (ME h g ss sa so pl si fa li co st rq bl te op wo wz sr le tx ro) H → va_D A (ME h g ss sa so pl si fa li co st rq bl te op wo wz sr le tx ro) → va_S A s.heap H locs → lv_has ls 4 [(1, .int mo), (3, .int kk), (0, .ref (h 0))] → W p l e ({ frames := 1, cells := 0, slots := 0, locals := 21 } : Room) s m args below meth c H locs 0 0 Q (F0 m 109 ls [])) := by
  intro nn
  induction nn with
  | zero =>
    refine ⟨fun _ _ _ _ _ _ _ hm => absurd hm (Nat.not_lt_zero _), fun _ _ _ _ _ _ _ _ hm => absurd hm (Nat.not_lt_zero _), fun _ _ _ _ _ _ _ _ _ _ hm => absurd hm (Nat.not_lt_zero _)⟩
  | succ nn ih =>
    refine ⟨?_, ?_, ?_⟩
    · intro mo sa v_0 v_1 v_2 v_3 v_4 hm H locs ls hP hD hS hl
      refine lv_iload_n hx hb d_M_skip_2 rfl (lv_at hl 0 rfl) ?_
      refine lv_if_eq (tgt := 177) hx hb d_M_skip_3 (by decide) (fun c_1 => ?_) (fun c_1 => ?_)
      · have dc_1 := i_eq c_1 rfl (show Int32.toInt 0 = 0 by decide)
        refine lv_iconst (v := 1) hx hb d_M_skip_177 (by decide) ?_
        have hc_1 : Int32.toInt 1 = 1 := by decide
        exact fin 1 sa _ _ _ ls d_M_skip_178 rfl ⟨(by (try dsimp only); omega), (by (try dsimp only); omega), (by (try dsimp only); omega), rfl⟩ hP hD hS
      · have dc_1 := i_ne c_1 rfl (show Int32.toInt 0 = 0 by decide)
        refine lv_aload_n hx hb d_M_skip_6 rfl (lv_at hl 1 rfl) ?_
        refine lv_iconst (v := 0) hx hb d_M_skip_7 (by decide) ?_
        have hc_0 : Int32.toInt 0 = 0 := by decide
        have hFc := va_free (wc := (ME h g ss sa so pl si fa li co st rq bl te op wo wz sr le tx ro)) hD hS hA [0, 1, 2, 3, 4, 5, 6] rfl
        refine va_calli (va_runV (As := [.int 0]) (rest := []) ⟨hx, hb, hml, hown, ht⟩ (c_M_peek l dC dI k h g ss sa so pl si fa li co st rq bl te op wo le wz sr tx ro 0 _ (by omega) (by omega) (by omega) (by omega) (by omega) (by omega) ) (cwV 1 ht (g_V k_702 k_704 k_39 k_80 k_705) rfl rfl rfl (by decide +kernel) ⟨(Nat.le_of_ble_eq_true rfl), (Nat.le_of_ble_eq_true rfl)⟩) ⟨fb_X, va_recv hK hP (ci := 4) (q0 := 0) rfl rfl, pre_X hE hS hFc hP hK hD⟩ rfl rfl hl.1 rfl (lv_room (Nat.le_of_ble_eq_true rfl)) d_M_skip_8 ⟨(Nat.le_of_ble_eq_true rfl), (Nat.le_of_ble_eq_true rfl)⟩) hS (fun q _ h9 => hFc q h9) hFc (fun r_3 u_2 t H locs het hvm hw hB hz1 hk1 hS => ?_)
        obtain ⟨p_4, p_5⟩ := hw
        obtain ⟨hP1, hK1, hD1⟩ := hB
        rw [het] at hP1
        have hP : va_P (dC, dI) cls (ME h g ss sa so pl si fa li co st rq bl te op wo wz sr le tx ro) H := hP1
        have hD : va_D A (ME h g ss sa so pl si fa li co st rq bl te op wo wz sr le tx ro) := hD1.weaken (fun _ _ _ h9 => hFc _ h9)
        refine lv_istore_n (lv' := [(2, .int r_3), (1, .int mo), (0, .ref (h 0))]) hx hb d_M_skip_11 rfl hl (by decide) rfl (fun ls hl => ?_)
        refine lv_iload_n hx hb d_M_skip_12 rfl (lv_at hl 0 rfl) ?_
        refine lv_bipush (v := 9) hx hb d_M_skip_13 (by decide) ?_
        refine lv_icmp_eq (tgt := 36) hx hb d_M_skip_15 (by decide) (fun c_6 => ?_) (fun c_6 => ?_)
        · have dc_6 := i_eq c_6 rfl (show Int32.toInt 9 = 9 by decide)
          refine lv_aload_n hx hb d_M_skip_36 rfl (lv_at hl 2 rfl) ?_
          refine lv_aload_n hx hb d_M_skip_37 rfl (lv_at hl 2 rfl) ?_
          refine va_get (D := (dC, dI)) (ci := 4) (v := .int sa) (C := "SieveDeskModel") (T := F_M) (N := 19) hx hb ht i_M hown hK hP 0 rfl rfl 4 (by decide) (ht _ k_631) (fun _ h9 => h9) rfl d_M_skip_38 ?_
          refine lv_iconst (v := 1) hx hb d_M_skip_41 (by decide) ?_
          refine lv_iadd hx hb d_M_skip_42 ?_
          have e_7 : Int32.toInt (sa + 1) = (Int32.toInt sa) + 1 := i_add rfl (show Int32.toInt 1 = 1 by decide) (by omega) (by omega)
          refine va_put (D := (dC, dI)) (ci := 4) (v := .int (sa + 1)) (ty := .int) (C := "SieveDeskModel") (T := F_M) (N := 19) hx hb ht i_M ty_M ty_M_ok n_M hown hK hP hD hS 0 rfl rfl 4 (by decide) (ht _ k_631) (fun _ h9 => h9) rfl (ty_M_ok 4 (by decide)) rfl rfl (Nat.le_of_ble_eq_true rfl) d_M_skip_43 (fun H locs hP hD hS => ?_)
          have hP : va_P (dC, dI) cls (ME h g ss (sa + 1) so pl si fa li co st rq bl te op wo wz sr le tx ro) H := hP
          have hD : va_D A (ME h g ss (sa + 1) so pl si fa li co st rq bl te op wo wz sr le tx ro) := hD
          refine lv_goto (tgt := 174) hx hb d_M_skip_46 (by decide) ?_
          refine lv_goto (tgt := 2) hx hb d_M_skip_174 (by decide) ?_
          exact ih.1 mo (sa + 1) (by omega) (by omega) (by omega) (by omega) (by omega) (by omega) _ _ ls hP hD hS (lv_sub hl [1, 2] rfl)
        · have dc_6 := i_ne c_6 rfl (show Int32.toInt 9 = 9 by decide)
          refine lv_iload_n hx hb d_M_skip_18 rfl (lv_at hl 0 rfl) ?_
          refine lv_bipush (v := 10) hx hb d_M_skip_19 (by decide) ?_
          refine lv_icmp_eq (tgt := 36) hx hb d_M_skip_21 (by decide) (fun c_8 => ?_) (fun c_8 => ?_)
          · have dc_8 := i_eq c_8 rfl (show Int32.toInt 10 = 10 by decide)
            refine lv_aload_n hx hb d_M_skip_36 rfl (lv_at hl 2 rfl) ?_
            refine lv_aload_n hx hb d_M_skip_37 rfl (lv_at hl 2 rfl) ?_
            refine va_get (D := (dC, dI)) (ci := 4) (v := .int sa) (C := "SieveDeskModel") (T := F_M) (N := 19) hx hb ht i_M hown hK hP 0 rfl rfl 4 (by decide) (ht _ k_631) (fun _ h9 => h9) rfl d_M_skip_38 ?_
            refine lv_iconst (v := 1) hx hb d_M_skip_41 (by decide) ?_
            refine lv_iadd hx hb d_M_skip_42 ?_
            have e_9 : Int32.toInt (sa + 1) = (Int32.toInt sa) + 1 := i_add rfl (show Int32.toInt 1 = 1 by decide) (by omega) (by omega)
            refine va_put (D := (dC, dI)) (ci := 4) (v := .int (sa + 1)) (ty := .int) (C := "SieveDeskModel") (T := F_M) (N := 19) hx hb ht i_M ty_M ty_M_ok n_M hown hK hP hD hS 0 rfl rfl 4 (by decide) (ht _ k_631) (fun _ h9 => h9) rfl (ty_M_ok 4 (by decide)) rfl rfl (Nat.le_of_ble_eq_true rfl) d_M_skip_43 (fun H locs hP hD hS => ?_)
            have hP : va_P (dC, dI) cls (ME h g ss (sa + 1) so pl si fa li co st rq bl te op wo wz sr le tx ro) H := hP
            have hD : va_D A (ME h g ss (sa + 1) so pl si fa li co st rq bl te op wo wz sr le tx ro) := hD
            refine lv_goto (tgt := 174) hx hb d_M_skip_46 (by decide) ?_
            refine lv_goto (tgt := 2) hx hb d_M_skip_174 (by decide) ?_
            exact ih.1 mo (sa + 1) (by omega) (by omega) (by omega) (by omega) (by omega) (by omega) _ _ ls hP hD hS (lv_sub hl [1, 2] rfl)
          · have dc_8 := i_ne c_8 rfl (show Int32.toInt 10 = 10 by decide)
            refine lv_iload_n hx hb d_M_skip_24 rfl (lv_at hl 0 rfl) ?_
            refine lv_bipush (v := 13) hx hb d_M_skip_25 (by decide) ?_
            refine lv_icmp_eq (tgt := 36) hx hb d_M_skip_27 (by decide) (fun c_10 => ?_) (fun c_10 => ?_)
            · have dc_10 := i_eq c_10 rfl (show Int32.toInt 13 = 13 by decide)
              refine lv_aload_n hx hb d_M_skip_36 rfl (lv_at hl 2 rfl) ?_
              refine lv_aload_n hx hb d_M_skip_37 rfl (lv_at hl 2 rfl) ?_
              refine va_get (D := (dC, dI)) (ci := 4) (v := .int sa) (C := "SieveDeskModel") (T := F_M) (N := 19) hx hb ht i_M hown hK hP 0 rfl rfl 4 (by decide) (ht _ k_631) (fun _ h9 => h9) rfl d_M_skip_38 ?_
              refine lv_iconst (v := 1) hx hb d_M_skip_41 (by decide) ?_
              refine lv_iadd hx hb d_M_skip_42 ?_
              have e_11 : Int32.toInt (sa + 1) = (Int32.toInt sa) + 1 := i_add rfl (show Int32.toInt 1 = 1 by decide) (by omega) (by omega)
              refine va_put (D := (dC, dI)) (ci := 4) (v := .int (sa + 1)) (ty := .int) (C := "SieveDeskModel") (T := F_M) (N := 19) hx hb ht i_M ty_M ty_M_ok n_M hown hK hP hD hS 0 rfl rfl 4 (by decide) (ht _ k_631) (fun _ h9 => h9) rfl (ty_M_ok 4 (by decide)) rfl rfl (Nat.le_of_ble_eq_true rfl) d_M_skip_43 (fun H locs hP hD hS => ?_)
              have hP : va_P (dC, dI) cls (ME h g ss (sa + 1) so pl si fa li co st rq bl te op wo wz sr le tx ro) H := hP
              have hD : va_D A (ME h g ss (sa + 1) so pl si fa li co st rq bl te op wo wz sr le tx ro) := hD
              refine lv_goto (tgt := 174) hx hb d_M_skip_46 (by decide) ?_
              refine lv_goto (tgt := 2) hx hb d_M_skip_174 (by decide) ?_
              exact ih.1 mo (sa + 1) (by omega) (by omega) (by omega) (by omega) (by omega) (by omega) _ _ ls hP hD hS (lv_sub hl [1, 2] rfl)
            · have dc_10 := i_ne c_10 rfl (show Int32.toInt 13 = 13 by decide)
              refine lv_iload_n hx hb d_M_skip_30 rfl (lv_at hl 0 rfl) ?_
              refine lv_bipush (v := 32) hx hb d_M_skip_31 (by decide) ?_
              refine lv_icmp_ne (tgt := 49) hx hb d_M_skip_33 (by decide) (fun c_12 => ?_) (fun c_12 => ?_)
              · have dc_12 := i_ne c_12 rfl (show Int32.toInt 32 = 32 by decide)
                refine lv_iload_n hx hb d_M_skip_49 rfl (lv_at hl 0 rfl) ?_
                refine lv_bipush (v := 35) hx hb d_M_skip_50 (by decide) ?_
                refine lv_icmp_ne (tgt := 86) hx hb d_M_skip_52 (by decide) (fun c_13 => ?_) (fun c_13 => ?_)
                · have dc_13 := i_ne c_13 rfl (show Int32.toInt 35 = 35 by decide)
                  refine lv_iload_n hx hb d_M_skip_86 rfl (lv_at hl 0 rfl) ?_
                  refine lv_bipush (v := 47) hx hb d_M_skip_87 (by decide) ?_
                  refine lv_icmp_ne (tgt := 172) hx hb d_M_skip_89 (by decide) (fun c_14 => ?_) (fun c_14 => ?_)
                  · have dc_14 := i_ne c_14 rfl (show Int32.toInt 47 = 47 by decide)
                    refine lv_iconst (v := 0) hx hb d_M_skip_172 (by decide) ?_
                    refine lv_istore_n (lv' := [(1, .int 0), (2, .int r_3), (0, .ref (h 0))]) hx hb d_M_skip_173 rfl hl (by decide) rfl (fun ls hl => ?_)
                    refine lv_goto (tgt := 2) hx hb d_M_skip_174 (by decide) ?_
                    exact ih.1 0 sa (by omega) (by omega) (by omega) (by omega) (by omega) (by omega) _ _ ls hP hD hS (lv_sub hl [0, 2] rfl)
                  · have dc_14 := i_eq c_14 rfl (show Int32.toInt 47 = 47 by decide)
                    refine lv_aload_n hx hb d_M_skip_92 rfl (lv_at hl 2 rfl) ?_
                    refine lv_iconst (v := 1) hx hb d_M_skip_93 (by decide) ?_
                    have hc_1 : Int32.toInt 1 = 1 := by decide
                    have hFc := va_free (wc := (ME h g ss sa so pl si fa li co st rq bl te op wo wz sr le tx ro)) hD hS hA [0, 1, 2, 3, 4, 5, 6] rfl
                    refine va_calli (va_runV (As := [.int 1]) (rest := []) ⟨hx, hb, hml, hown, ht⟩ (c_M_peek l dC dI k h g ss sa so pl si fa li co st rq bl te op wo le wz sr tx ro 1 _ (by omega) (by omega) (by omega) (by omega) (by omega) (by omega) ) (cwV 1 ht (g_V k_702 k_704 k_39 k_80 k_705) rfl rfl rfl (by decide +kernel) ⟨(Nat.le_of_ble_eq_true rfl), (Nat.le_of_ble_eq_true rfl)⟩) ⟨fb_X, va_recv hK hP (ci := 4) (q0 := 0) rfl rfl, pre_X hE hS hFc hP hK hD⟩ rfl rfl hl.1 rfl (lv_room (Nat.le_of_ble_eq_true rfl)) d_M_skip_94 ⟨(Nat.le_of_ble_eq_true rfl), (Nat.le_of_ble_eq_true rfl)⟩) hS (fun q _ h9 => hFc q h9) hFc (fun r_16 u_15 t H locs het hvm hw hB hz1 hk1 hS => ?_)
                    obtain ⟨p_17, p_18⟩ := hw
                    obtain ⟨hP1, hK1, hD1⟩ := hB
                    rw [het] at hP1
                    have hP : va_P (dC, dI) cls (ME h g ss sa so pl si fa li co st rq bl te op wo wz sr le tx ro) H := hP1
                    have hD : va_D A (ME h g ss sa so pl si fa li co st rq bl te op wo wz sr le tx ro) := hD1.weaken (fun _ _ _ h9 => hFc _ h9)
                    refine lv_bipush (v := 42) hx hb d_M_skip_97 (by decide) ?_
                    refine lv_icmp_ne (tgt := 172) hx hb d_M_skip_99 (by decide) (fun c_19 => ?_) (fun c_19 => ?_)
                    · have dc_19 := i_ne c_19 rfl (show Int32.toInt 42 = 42 by decide)
                      refine lv_iconst (v := 0) hx hb d_M_skip_172 (by decide) ?_
                      refine lv_istore_n (lv' := [(1, .int 0), (2, .int r_3), (0, .ref (h 0))]) hx hb d_M_skip_173 rfl hl (by decide) rfl (fun ls hl => ?_)
                      refine lv_goto (tgt := 2) hx hb d_M_skip_174 (by decide) ?_
                      exact ih.1 0 sa (by omega) (by omega) (by omega) (by omega) (by omega) (by omega) _ _ ls hP hD hS (lv_sub hl [0, 2] rfl)
                    · have dc_19 := i_eq c_19 rfl (show Int32.toInt 42 = 42 by decide)
                      refine lv_aload_n hx hb d_M_skip_102 rfl (lv_at hl 2 rfl) ?_
                      refine va_get (D := (dC, dI)) (ci := 4) (v := .int sa) (C := "SieveDeskModel") (T := F_M) (N := 19) hx hb ht i_M hown hK hP 0 rfl rfl 4 (by decide) (ht _ k_631) (fun _ h9 => h9) rfl d_M_skip_103 ?_
                      refine lv_iconst (v := 2) hx hb d_M_skip_106 (by decide) ?_
                      refine lv_iadd hx hb d_M_skip_107 ?_
                      have e_20 : Int32.toInt (sa + 2) = (Int32.toInt sa) + 2 := i_add rfl (show Int32.toInt 2 = 2 by decide) (by omega) (by omega)
                      refine lv_istore_n (lv' := [(3, .int (sa + 2)), (2, .int r_3), (1, .int mo), (0, .ref (h 0))]) hx hb d_M_skip_108 rfl hl (by decide) rfl (fun ls hl => ?_)
                      exact ih.2.2 mo (sa + 2) sa (by omega) (by omega) (by omega) (by omega) (by omega) (by omega) (by omega) (by omega) _ _ ls hP hD hS (lv_sub hl [2, 0, 3] rfl)
                · have dc_13 := i_eq c_13 rfl (show Int32.toInt 35 = 35 by decide)
                  exact ih.2.1 mo 0 sa (by omega) (by omega) (by omega) (by omega) (by omega) (by omega) _ _ ls hP hD hS (lv_sub hl [1, 2] rfl)
              · have dc_12 := i_eq c_12 rfl (show Int32.toInt 32 = 32 by decide)
                refine lv_aload_n hx hb d_M_skip_36 rfl (lv_at hl 2 rfl) ?_
                refine lv_aload_n hx hb d_M_skip_37 rfl (lv_at hl 2 rfl) ?_
                refine va_get (D := (dC, dI)) (ci := 4) (v := .int sa) (C := "SieveDeskModel") (T := F_M) (N := 19) hx hb ht i_M hown hK hP 0 rfl rfl 4 (by decide) (ht _ k_631) (fun _ h9 => h9) rfl d_M_skip_38 ?_
                refine lv_iconst (v := 1) hx hb d_M_skip_41 (by decide) ?_
                refine lv_iadd hx hb d_M_skip_42 ?_
                have e_21 : Int32.toInt (sa + 1) = (Int32.toInt sa) + 1 := i_add rfl (show Int32.toInt 1 = 1 by decide) (by omega) (by omega)
                refine va_put (D := (dC, dI)) (ci := 4) (v := .int (sa + 1)) (ty := .int) (C := "SieveDeskModel") (T := F_M) (N := 19) hx hb ht i_M ty_M ty_M_ok n_M hown hK hP hD hS 0 rfl rfl 4 (by decide) (ht _ k_631) (fun _ h9 => h9) rfl (ty_M_ok 4 (by decide)) rfl rfl (Nat.le_of_ble_eq_true rfl) d_M_skip_43 (fun H locs hP hD hS => ?_)
                have hP : va_P (dC, dI) cls (ME h g ss (sa + 1) so pl si fa li co st rq bl te op wo wz sr le tx ro) H := hP
                have hD : va_D A (ME h g ss (sa + 1) so pl si fa li co st rq bl te op wo wz sr le tx ro) := hD
                refine lv_goto (tgt := 174) hx hb d_M_skip_46 (by decide) ?_
                refine lv_goto (tgt := 2) hx hb d_M_skip_174 (by decide) ?_
                exact ih.1 mo (sa + 1) (by omega) (by omega) (by omega) (by omega) (by omega) (by omega) _ _ ls hP hD hS (lv_sub hl [1, 2] rfl)
    · intro mo gp sa v_0 v_1 v_2 v_3 v_4 hm H locs ls hP hD hS hl
      refine lv_aload_n hx hb d_M_skip_55 rfl (lv_at hl 1 rfl) ?_
      refine lv_iconst (v := 0) hx hb d_M_skip_56 (by decide) ?_
      have hc_0 : Int32.toInt 0 = 0 := by decide
      have hFc := va_free (wc := (ME h g ss sa so pl si fa li co st rq bl te op wo wz sr le tx ro)) hD hS hA [0, 1, 2, 3, 4, 5, 6] rfl
      refine va_calli (va_runV (As := [.int 0]) (rest := []) ⟨hx, hb, hml, hown, ht⟩ (c_M_peek l dC dI k h g ss sa so pl si fa li co st rq bl te op wo le wz sr tx ro 0 _ (by omega) (by omega) (by omega) (by omega) (by omega) (by omega) ) (cwV 1 ht (g_V k_702 k_704 k_39 k_80 k_705) rfl rfl rfl (by decide +kernel) ⟨(Nat.le_of_ble_eq_true rfl), (Nat.le_of_ble_eq_true rfl)⟩) ⟨fb_X, va_recv hK hP (ci := 4) (q0 := 0) rfl rfl, pre_X hE hS hFc hP hK hD⟩ rfl rfl hl.1 rfl (lv_room (Nat.le_of_ble_eq_true rfl)) d_M_skip_57 ⟨(Nat.le_of_ble_eq_true rfl), (Nat.le_of_ble_eq_true rfl)⟩) hS (fun q _ h9 => hFc q h9) hFc (fun r_23 u_22 t H locs het hvm hw hB hz1 hk1 hS => ?_)
      obtain ⟨p_24, p_25⟩ := hw
      obtain ⟨hP1, hK1, hD1⟩ := hB
      rw [het] at hP1
      have hP : va_P (dC, dI) cls (ME h g ss sa so pl si fa li co st rq bl te op wo wz sr le tx ro) H := hP1
      have hD : va_D A (ME h g ss sa so pl si fa li co st rq bl te op wo wz sr le tx ro) := hD1.weaken (fun _ _ _ h9 => hFc _ h9)
      refine lv_if_lt (tgt := 174) hx hb d_M_skip_60 (by decide) (fun c_26 => ?_) (fun c_26 => ?_)
      · have dc_26 := i_lt c_26 rfl (show Int32.toInt 0 = 0 by decide)
        refine lv_goto (tgt := 2) hx hb d_M_skip_174 (by decide) ?_
        exact ih.1 mo sa (by omega) (by omega) (by omega) (by omega) (by omega) (by omega) _ _ ls hP hD hS (lv_sub hl [0, 1] rfl)
      · have dc_26 := i_nlt c_26 rfl (show Int32.toInt 0 = 0 by decide)
        refine lv_aload_n hx hb d_M_skip_63 rfl (lv_at hl 1 rfl) ?_
        refine lv_iconst (v := 0) hx hb d_M_skip_64 (by decide) ?_
        have hFc := va_free (wc := (ME h g ss sa so pl si fa li co st rq bl te op wo wz sr le tx ro)) hD hS hA [0, 1, 2, 3, 4, 5, 6] rfl
        refine va_calli (va_runV (As := [.int 0]) (rest := []) ⟨hx, hb, hml, hown, ht⟩ (c_M_peek l dC dI k h g ss sa so pl si fa li co st rq bl te op wo le wz sr tx ro 0 _ (by omega) (by omega) (by omega) (by omega) (by omega) (by omega) ) (cwV 1 ht (g_V k_702 k_704 k_39 k_80 k_705) rfl rfl rfl (by decide +kernel) ⟨(Nat.le_of_ble_eq_true rfl), (Nat.le_of_ble_eq_true rfl)⟩) ⟨fb_X, va_recv hK hP (ci := 4) (q0 := 0) rfl rfl, pre_X hE hS hFc hP hK hD⟩ rfl rfl hl.1 rfl (lv_room (Nat.le_of_ble_eq_true rfl)) d_M_skip_65 ⟨(Nat.le_of_ble_eq_true rfl), (Nat.le_of_ble_eq_true rfl)⟩) hS (fun q _ h9 => hFc q h9) hFc (fun r_28 u_27 t H locs het hvm hw hB hz1 hk1 hS => ?_)
        obtain ⟨p_29, p_30⟩ := hw
        obtain ⟨hP1, hK1, hD1⟩ := hB
        rw [het] at hP1
        have hP : va_P (dC, dI) cls (ME h g ss sa so pl si fa li co st rq bl te op wo wz sr le tx ro) H := hP1
        have hD : va_D A (ME h g ss sa so pl si fa li co st rq bl te op wo wz sr le tx ro) := hD1.weaken (fun _ _ _ h9 => hFc _ h9)
        refine lv_bipush (v := 10) hx hb d_M_skip_68 (by decide) ?_
        refine lv_icmp_eq (tgt := 174) hx hb d_M_skip_70 (by decide) (fun c_31 => ?_) (fun c_31 => ?_)
        · have dc_31 := i_eq c_31 rfl (show Int32.toInt 10 = 10 by decide)
          refine lv_goto (tgt := 2) hx hb d_M_skip_174 (by decide) ?_
          exact ih.1 mo sa (by omega) (by omega) (by omega) (by omega) (by omega) (by omega) _ _ ls hP hD hS (lv_sub hl [0, 1] rfl)
        · have dc_31 := i_ne c_31 rfl (show Int32.toInt 10 = 10 by decide)
          refine lv_aload_n hx hb d_M_skip_73 rfl (lv_at hl 1 rfl) ?_
          refine lv_aload_n hx hb d_M_skip_74 rfl (lv_at hl 1 rfl) ?_
          refine va_get (D := (dC, dI)) (ci := 4) (v := .int sa) (C := "SieveDeskModel") (T := F_M) (N := 19) hx hb ht i_M hown hK hP 0 rfl rfl 4 (by decide) (ht _ k_631) (fun _ h9 => h9) rfl d_M_skip_75 ?_
          refine lv_iconst (v := 1) hx hb d_M_skip_78 (by decide) ?_
          refine lv_iadd hx hb d_M_skip_79 ?_
          have e_32 : Int32.toInt (sa + 1) = (Int32.toInt sa) + 1 := i_add rfl (show Int32.toInt 1 = 1 by decide) (by omega) (by omega)
          refine va_put (D := (dC, dI)) (ci := 4) (v := .int (sa + 1)) (ty := .int) (C := "SieveDeskModel") (T := F_M) (N := 19) hx hb ht i_M ty_M ty_M_ok n_M hown hK hP hD hS 0 rfl rfl 4 (by decide) (ht _ k_631) (fun _ h9 => h9) rfl (ty_M_ok 4 (by decide)) rfl rfl (Nat.le_of_ble_eq_true rfl) d_M_skip_80 (fun H locs hP hD hS => ?_)
          have hP : va_P (dC, dI) cls (ME h g ss (sa + 1) so pl si fa li co st rq bl te op wo wz sr le tx ro) H := hP
          have hD : va_D A (ME h g ss (sa + 1) so pl si fa li co st rq bl te op wo wz sr le tx ro) := hD
          refine lv_goto (tgt := 55) hx hb d_M_skip_83 (by decide) ?_
          exact ih.2.1 mo 1 (sa + 1) (by omega) (by omega) (by omega) (by omega) (by omega) (by omega) _ _ ls hP hD hS (lv_sub hl [0, 1] rfl)
    · intro mo kk sa v_0 v_1 v_2 v_3 v_4 v_5 v_6 hm H locs ls hP hD hS hl
      refine lv_iload_n hx hb d_M_skip_109 rfl (lv_at hl 1 rfl) ?_
      refine lv_iconst (v := 1) hx hb d_M_skip_110 (by decide) ?_
      refine lv_iadd hx hb d_M_skip_111 ?_
      have e_33 : Int32.toInt (kk + 1) = (Int32.toInt kk) + 1 := i_add rfl (show Int32.toInt 1 = 1 by decide) (by omega) (by omega)
      refine lv_aload_n hx hb d_M_skip_112 rfl (lv_at hl 2 rfl) ?_
      refine va_get (D := (dC, dI)) (ci := 4) (v := .int ss) (C := "SieveDeskModel") (T := F_M) (N := 19) hx hb ht i_M hown hK hP 0 rfl rfl 3 (by decide) (ht _ k_630) (fun _ h9 => h9) rfl d_M_skip_113 ?_
      refine lv_icmp_ge (tgt := 150) hx hb d_M_skip_116 (by decide) (fun c_34 => ?_) (fun c_34 => ?_)
      · have dc_34 := i_le c_34 rfl e_33
        refine lv_iload_n hx hb d_M_skip_150 rfl (lv_at hl 1 rfl) ?_
        refine lv_iconst (v := 1) hx hb d_M_skip_151 (by decide) ?_
        refine lv_iadd hx hb d_M_skip_152 ?_
        have e_35 : Int32.toInt (kk + 1) = (Int32.toInt kk) + 1 := i_add rfl (show Int32.toInt 1 = 1 by decide) (by omega) (by omega)
        refine lv_aload_n hx hb d_M_skip_153 rfl (lv_at hl 2 rfl) ?_
        refine va_get (D := (dC, dI)) (ci := 4) (v := .int ss) (C := "SieveDeskModel") (T := F_M) (N := 19) hx hb ht i_M hown hK hP 0 rfl rfl 3 (by decide) (ht _ k_630) (fun _ h9 => h9) rfl d_M_skip_154 ?_
        refine lv_icmp_lt (tgt := 162) hx hb d_M_skip_157 (by decide) (fun c_36 => ?_) (fun c_36 => ?_)
        · have dc_36 := i_lt c_36 e_35 rfl
          refine lv_aload_n hx hb d_M_skip_162 rfl (lv_at hl 2 rfl) ?_
          refine lv_iload_n hx hb d_M_skip_163 rfl (lv_at hl 1 rfl) ?_
          refine lv_iconst (v := 2) hx hb d_M_skip_164 (by decide) ?_
          refine lv_iadd hx hb d_M_skip_165 ?_
          have e_37 : Int32.toInt (kk + 2) = (Int32.toInt kk) + 2 := i_add rfl (show Int32.toInt 2 = 2 by decide) (by omega) (by omega)
          refine va_put (D := (dC, dI)) (ci := 4) (v := .int (kk + 2)) (ty := .int) (C := "SieveDeskModel") (T := F_M) (N := 19) hx hb ht i_M ty_M ty_M_ok n_M hown hK hP hD hS 0 rfl rfl 4 (by decide) (ht _ k_631) (fun _ h9 => h9) rfl (ty_M_ok 4 (by decide)) rfl rfl (Nat.le_of_ble_eq_true rfl) d_M_skip_166 (fun H locs hP hD hS => ?_)
          have hP : va_P (dC, dI) cls (ME h g ss (kk + 2) so pl si fa li co st rq bl te op wo wz sr le tx ro) H := hP
          have hD : va_D A (ME h g ss (kk + 2) so pl si fa li co st rq bl te op wo wz sr le tx ro) := hD
          refine lv_goto (tgt := 174) hx hb d_M_skip_169 (by decide) ?_
          refine lv_goto (tgt := 2) hx hb d_M_skip_174 (by decide) ?_
          exact ih.1 mo (kk + 2) (by omega) (by omega) (by omega) (by omega) (by omega) (by omega) _ _ ls hP hD hS (lv_sub hl [0, 2] rfl)
        · have dc_36 := i_nlt c_36 e_35 rfl
          refine lv_iconst (v := 0) hx hb d_M_skip_160 (by decide) ?_
          have hc_0 : Int32.toInt 0 = 0 := by decide
          exact fin 0 sa _ _ _ ls d_M_skip_161 rfl ⟨(by (try dsimp only); omega), (by (try dsimp only); omega), (by (try dsimp only); omega), rfl⟩ hP hD hS
      · have dc_34 := i_nle c_34 rfl e_33
        refine lv_aload_n hx hb d_M_skip_119 rfl (lv_at hl 2 rfl) ?_
        refine va_get (D := (dC, dI)) (ci := 4) (v := .ref (h 3)) (C := "SieveDeskModel") (T := F_M) (N := 19) hx hb ht i_M hown hK hP 0 rfl rfl 2 (by decide) (ht _ k_629) (fun _ h9 => h9) rfl d_M_skip_120 ?_
        refine lv_iload_n hx hb d_M_skip_123 rfl (lv_at hl 1 rfl) ?_
        refine va_iald hx hb hK hP 3 2 rfl rfl (i_in rfl (by omega) (by omega)) d_M_skip_124 ?_
        refine lv_bipush (v := 42) hx hb d_M_skip_125 (by decide) ?_
        refine lv_icmp_ne (tgt := 143) hx hb d_M_skip_127 (by decide) (fun c_38 => ?_) (fun c_38 => ?_)
        · refine lv_iload_n hx hb d_M_skip_143 rfl (lv_at hl 1 rfl) ?_
          refine lv_iconst (v := 1) hx hb d_M_skip_144 (by decide) ?_
          refine lv_iadd hx hb d_M_skip_145 ?_
          have e_39 : Int32.toInt (kk + 1) = (Int32.toInt kk) + 1 := i_add rfl (show Int32.toInt 1 = 1 by decide) (by omega) (by omega)
          refine lv_istore_n (lv' := [(3, .int (kk + 1)), (1, .int mo), (0, .ref (h 0))]) hx hb d_M_skip_146 rfl hl (by decide) rfl (fun ls hl => ?_)
          refine lv_goto (tgt := 109) hx hb d_M_skip_147 (by decide) ?_
          exact ih.2.2 mo (kk + 1) sa (by omega) (by omega) (by omega) (by omega) (by omega) (by omega) (by omega) (by omega) _ _ ls hP hD hS (lv_sub hl [1, 0, 2] rfl)
        · refine lv_aload_n hx hb d_M_skip_130 rfl (lv_at hl 2 rfl) ?_
          refine va_get (D := (dC, dI)) (ci := 4) (v := .ref (h 3)) (C := "SieveDeskModel") (T := F_M) (N := 19) hx hb ht i_M hown hK hP 0 rfl rfl 2 (by decide) (ht _ k_629) (fun _ h9 => h9) rfl d_M_skip_131 ?_
          refine lv_iload_n hx hb d_M_skip_134 rfl (lv_at hl 1 rfl) ?_
          refine lv_iconst (v := 1) hx hb d_M_skip_135 (by decide) ?_
          refine lv_iadd hx hb d_M_skip_136 ?_
          have e_40 : Int32.toInt (kk + 1) = (Int32.toInt kk) + 1 := i_add rfl (show Int32.toInt 1 = 1 by decide) (by omega) (by omega)
          refine va_iald hx hb hK hP 3 2 rfl rfl (i_in e_40 (by omega) (by omega)) d_M_skip_137 ?_
          refine lv_bipush (v := 47) hx hb d_M_skip_138 (by decide) ?_
          refine lv_icmp_eq (tgt := 150) hx hb d_M_skip_140 (by decide) (fun c_41 => ?_) (fun c_41 => ?_)
          · refine lv_iload_n hx hb d_M_skip_150 rfl (lv_at hl 1 rfl) ?_
            refine lv_iconst (v := 1) hx hb d_M_skip_151 (by decide) ?_
            refine lv_iadd hx hb d_M_skip_152 ?_
            have e_42 : Int32.toInt (kk + 1) = (Int32.toInt kk) + 1 := i_add rfl (show Int32.toInt 1 = 1 by decide) (by omega) (by omega)
            refine lv_aload_n hx hb d_M_skip_153 rfl (lv_at hl 2 rfl) ?_
            refine va_get (D := (dC, dI)) (ci := 4) (v := .int ss) (C := "SieveDeskModel") (T := F_M) (N := 19) hx hb ht i_M hown hK hP 0 rfl rfl 3 (by decide) (ht _ k_630) (fun _ h9 => h9) rfl d_M_skip_154 ?_
            refine lv_icmp_lt (tgt := 162) hx hb d_M_skip_157 (by decide) (fun c_43 => ?_) (fun c_43 => ?_)
            · have dc_43 := i_lt c_43 e_42 rfl
              refine lv_aload_n hx hb d_M_skip_162 rfl (lv_at hl 2 rfl) ?_
              refine lv_iload_n hx hb d_M_skip_163 rfl (lv_at hl 1 rfl) ?_
              refine lv_iconst (v := 2) hx hb d_M_skip_164 (by decide) ?_
              refine lv_iadd hx hb d_M_skip_165 ?_
              have e_44 : Int32.toInt (kk + 2) = (Int32.toInt kk) + 2 := i_add rfl (show Int32.toInt 2 = 2 by decide) (by omega) (by omega)
              refine va_put (D := (dC, dI)) (ci := 4) (v := .int (kk + 2)) (ty := .int) (C := "SieveDeskModel") (T := F_M) (N := 19) hx hb ht i_M ty_M ty_M_ok n_M hown hK hP hD hS 0 rfl rfl 4 (by decide) (ht _ k_631) (fun _ h9 => h9) rfl (ty_M_ok 4 (by decide)) rfl rfl (Nat.le_of_ble_eq_true rfl) d_M_skip_166 (fun H locs hP hD hS => ?_)
              have hP : va_P (dC, dI) cls (ME h g ss (kk + 2) so pl si fa li co st rq bl te op wo wz sr le tx ro) H := hP
              have hD : va_D A (ME h g ss (kk + 2) so pl si fa li co st rq bl te op wo wz sr le tx ro) := hD
              refine lv_goto (tgt := 174) hx hb d_M_skip_169 (by decide) ?_
              refine lv_goto (tgt := 2) hx hb d_M_skip_174 (by decide) ?_
              exact ih.1 mo (kk + 2) (by omega) (by omega) (by omega) (by omega) (by omega) (by omega) _ _ ls hP hD hS (lv_sub hl [0, 2] rfl)
            · have dc_43 := i_nlt c_43 e_42 rfl
              refine lv_iconst (v := 0) hx hb d_M_skip_160 (by decide) ?_
              have hc_0 : Int32.toInt 0 = 0 := by decide
              exact fin 0 sa _ _ _ ls d_M_skip_161 rfl ⟨(by (try dsimp only); omega), (by (try dsimp only); omega), (by (try dsimp only); omega), rfl⟩ hP hD hS
          · refine lv_iload_n hx hb d_M_skip_143 rfl (lv_at hl 1 rfl) ?_
            refine lv_iconst (v := 1) hx hb d_M_skip_144 (by decide) ?_
            refine lv_iadd hx hb d_M_skip_145 ?_
            have e_45 : Int32.toInt (kk + 1) = (Int32.toInt kk) + 1 := i_add rfl (show Int32.toInt 1 = 1 by decide) (by omega) (by omega)
            refine lv_istore_n (lv' := [(3, .int (kk + 1)), (1, .int mo), (0, .ref (h 0))]) hx hb d_M_skip_146 rfl hl (by decide) rfl (fun ls hl => ?_)
            refine lv_goto (tgt := 109) hx hb d_M_skip_147 (by decide) ?_
            exact ih.2.2 mo (kk + 1) sa (by omega) (by omega) (by omega) (by omega) (by omega) (by omega) (by omega) (by omega) _ _ ls hP hD hS (lv_sub hl [1, 0, 2] rfl)
set_option maxHeartbeats 4000000 in
set_option maxRecDepth 100000 in
theorem bd_M_skip_0 {p : Program} {l : Launch} {e : Env} {s : State} {m : MethodId} {args : Array Value} {below : List Frame} {meth : Method} {c : Code} {Q : State → Prop} {A : Nat → Prop} {dC : Nat → ClassId} {dI : Nat → Nat → Nat} {k h : Nat → Nat} {g : Nat → ClassId} {ss : Int32} {so : Int32} {pl : Int32} {si : Int32} {fa : Int32} {li : Int32} {co : Int32} {st : Int32} {rq : Int32} {bl : Int32} {te : Int32} {op : Int32} {wo : Nat → Int64} {le : Nat → Int64} {wz : Nat → Int32} {sr : Nat → Int32} {tx : Nat → Int32} {ro : Nat → Int32} {sa0 : Int32} (hx : p.tables.exec = Jvm.exec) (hb : c.code = b_M_skip) (hml : c.maxLocals = 4) (hown : s.vm.findClass "SieveDeskModel" = some m.cls) (ht : ∀ w ∈ TT, w.before args s = true) (hE : KE k A s s.heap) (hA : ∀ q : Nat, s.heap.size ≤ q → A q) (hK : va_K (dC, dI) cls (TM g) s)  (h_0 : 0 ≤ Int32.toInt ss) (h_1 : Int32.toInt ss ≤ 400) (fin : ∀ (r : Int32) (u : Int32) (H : Heap) (locs : List Loc) (pc : Nat) (ls : Array Slot), decode b_M_skip pc = .ok (.ireturn, 1) → narrow .boolean (.int r) = .int r → (0 ≤ Int32.toInt u ∧ Int32.toInt u ≤ Int32.toInt ss ∧ Int32.toInt sa0 ≤ Int32.toInt u ∧ narrow .boolean (.int r) = .int r) → va_P (dC, dI) cls (ME h g ss u so pl si fa li co st rq bl te op wo wz sr le tx ro) H → va_D A (ME h g ss u so pl si fa li co st rq bl te op wo wz sr le tx ro) → va_S A s.heap H locs → W p l e ({ frames := 1, cells := 0, slots := 0, locals := 21 } : Room) s m args below meth c H locs 0 0 Q (F0 m pc ls [.int r])) : ∀ (sa : Int32), sa = sa0 → 0 ≤ Int32.toInt sa → Int32.toInt sa ≤ Int32.toInt ss → ∀ (H : Heap) (locs : List Loc) (ls : Array Slot), va_P (dC, dI) cls (ME h g ss sa so pl si fa li co st rq bl te op wo wz sr le tx ro) H → va_D A (ME h g ss sa so pl si fa li co st rq bl te op wo wz sr le tx ro) → va_S A s.heap H locs → lv_has ls 4 [(0, .ref (h 0))] → W p l e ({ frames := 1, cells := 0, slots := 0, locals := 21 } : Room) s m args below meth c H locs 0 0 Q (F0 m 0 ls []) := by
  intro sa v_0 v_1 v_2 H locs ls hP hD hS hl
  subst v_0
  refine lv_iconst (v := 1) hx hb d_M_skip_0 (by decide) ?_
  refine lv_istore_n (lv' := [(1, .int 1), (0, .ref (h 0))]) hx hb d_M_skip_1 rfl hl (by decide) rfl (fun ls hl => ?_)
  have hc_1 : Int32.toInt 1 = 1 := by decide
  exact (lp_M_skip_g0  hx hb hml hown ht hE hA hK h_0 h_1 fin _).1 1 sa (by omega) (by omega) (by omega) (by omega) (by omega) (Nat.lt_succ_self _) _ _ ls hP hD hS (lv_sub hl [0, 1] rfl)
set_option maxHeartbeats 4000000 in
set_option maxRecDepth 100000 in
theorem c_M_skip (l : Launch) (dC : Nat → ClassId) (dI : Nat → Nat → Nat) (k : Nat → Nat) (h : Nat → Nat) (g : Nat → ClassId) (ss : Int32) (sa : Int32) (so : Int32) (pl : Int32) (si : Int32) (fa : Int32) (li : Int32) (co : Int32) (st : Int32) (rq : Int32) (bl : Int32) (te : Int32) (op : Int32) (wo : Nat → Int64) (le : Nat → Int64) (wz : Nat → Int32) (sr : Nat → Int32) (tx : Nat → Int32) (ro : Nat → Int32)  (sz : Nat) (h_0 : 0 ≤ Int32.toInt ss) (h_1 : Int32.toInt ss ≤ 400) (v_0 : 0 ≤ Int32.toInt sa) (v_1 : Int32.toInt sa ≤ Int32.toInt ss) : Met l y_M_skip (.code y_M_skip b_M_skip 4 (some .boolean) :: TT) ({ frames := 1, cells := 0, slots := 0, locals := 21 }) (va_Pc [.ref (h 0)] (PX dC dI k (TM g) (ME h g ss sa so pl si fa li co st rq bl te op wo wz sr le tx ro) sz)) (va_Qi (fun (r : Int32) (u : Int32) => 0 ≤ Int32.toInt u ∧ Int32.toInt u ≤ Int32.toInt ss ∧ Int32.toInt sa ≤ Int32.toInt u ∧ narrow .boolean (.int r) = .int r) (fun u t => BX dC dI (TM g) (va_A (ME h g ss sa so pl si fa li co st rq bl te op wo wz sr le tx ro) sz) (ME h g ss u so pl si fa li co st rq bl te op wo wz sr le tx ro) t) (va_A (ME h g ss sa so pl si fa li co st rq bl te op wo wz sr le tx ro) sz)) 0 0 (va_A (ME h g ss sa so pl si fa li co st rq bl te op wo wz sr le tx ro) sz) := by
  refine Met.ofW (cc := b_M_skip) (maxL := 4) (ret := (some .boolean)) (by decide) rfl ?_
  intro p e s m args below meth c s₁ B hml hv
  obtain ⟨rfl, hsz, hE, hP, hK, hD0⟩ := hv
  have hx := B.exec
  have hb := B.bytes
  have hr := B.returns
  have ht : ∀ w ∈ TT, w.before _ s = true := fun w hw => atoms_spec (ws := .code y_M_skip b_M_skip 4 (some .boolean) :: TT) B.pre w (List.mem_cons_of_mem _ hw)
  have hown : s.vm.findClass "SieveDeskModel" = some m.cls := findClass_of_methodNamed B.named
  have hlocks := B.notSynchronized
  subst hsz
  have hD := hD0.self (sz := s.heap.size)
  generalize hAe : va_A (ME h g ss sa so pl si fa li co st rq bl te op wo wz sr le tx ro) s.heap.size = A at hE hD ⊢
  have hA : ∀ q : Nat, s.heap.size ≤ q → A q := fun q h9 => by rw [← hAe]; exact Or.inr h9
  have hS : va_S A s.heap s.heap [] := va_S.rf
  have hl := lv_entry ([.ref (h 0)]) (n := 4) (Nat.le_of_ble_eq_true rfl)
  rw [lg_entry_eq]
  generalize (lg_sl ([.ref (h 0)]) ++ List.replicate (4 - (lg_sl ([.ref (h 0)])).length) Slot.unset).toArray = ls at hl ⊢
  have hl : lv_has ls 4 [(0, .ref (h 0))] := hl
  exact bd_M_skip_0  hx hb hml hown ht hE hA hK h_0 h_1 (fun r u H locs pc ls hd hn hp hP hD hS => W.zret hx hb hr hn (fun t het hW => ⟨⟨r, u, rfl, hp, by rw [het]; exact hP, va_K.moved hW.alike hK, hD⟩, hS.F het⟩) hS.2.2 hd) sa rfl v_0 v_1 _ _ ls hP hD hS hl

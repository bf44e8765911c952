set_option maxHeartbeats 4000000 in
set_option maxRecDepth 100000 in
theorem bd_M_step_0 {p : Program} {l : Launch} {e : Env} {s : State} {m : MethodId} {args : Array Value} {below : List Frame} {meth : Method} {c : Code} {Q : State → Prop} {A : Nat → Prop} {dC : Nat → ClassId} {dI : Nat → Nat → Nat} {k h : Nat → Nat} {g : Nat → ClassId} {ss : Int32} {li : Int32} {wo : Nat → Int64} {wz : Nat → Int32} {sr : Nat → Int32} {sa0 : Int32} {so0 : Int32} {fa0 : Int32} {LL0 : List Nat} (hx : p.tables.exec = Jvm.exec) (hb : c.code = b_M_step) (hml : c.maxLocals = 2) (hown : s.vm.findClass "SieveDeskModel" = some m.cls) (ht : ∀ w ∈ TT, w.before args s = true) (hE : KE k A s s.heap) (hA : ∀ q : Nat, s.heap.size ≤ q → A q) (hK : va_K (dC, dI) cls (TM g) s) {x : Nat} (h_0 : 0 ≤ Int32.toInt ss) (h_1 : Int32.toInt ss ≤ 400) (fin : ∀ (u : Int32 × Int32 × Int32 × Int32 × Int32 × Int32 × (Nat → Int64) × (Nat → Int32) × Int32 × Int32 × Int32 × (Nat → Int32) × List Nat × Int32 × Int32) (H : Heap) (locs : List Loc) (pc : Nat) (ls : Array Slot), decode b_M_step pc = .ok (.return_, 1) → (0 ≤ Int32.toInt u.1 ∧ Int32.toInt u.1 ≤ Int32.toInt ss ∧ 0 ≤ Int32.toInt u.2.2.1 ∧ Int32.toInt u.2.2.1 ≤ 400 ∧ -1 ≤ Int32.toInt u.2.2.2.1 ∧ Int32.toInt u.2.2.2.1 ≤ 400 ∧ (Int32.toInt u.2.2.2.1 < 0 ∨ (Int32.toInt u.2.1 = 0 ∧ Int32.toInt u.2.2.2.2.1 = 0)) ∧ 0 ≤ Int32.toInt u.2.2.2.2.2.1 ∧ Int32.toInt u.2.2.2.2.2.1 ≤ 400 ∧ SI u.2.2.2.2.2.2.2.2.2.2.2.2.1 u.2.2.2.1 u.2.2.2.2.1 u.2.2.2.2.2.2.2.2.2.2.2.1 ∧ 8 * YY ss u.1 u.2.1 u.2.2.2.1 + u.2.2.2.2.2.2.2.2.2.2.2.2.1.length ≤ 8 * YY ss sa0 so0 fa0 + LL0.length ∧ (0 ≤ Int32.toInt u.2.2.2.1 ∨ (Int32.toInt u.2.2.2.2.2.2.2.2.2.2.2.2.2.2 = List.count 1 u.2.2.2.2.2.2.2.2.2.2.2.2.1 ∧ List.count 1 u.2.2.2.2.2.2.2.2.2.2.2.2.1 ≤ 8 ∧ Int32.toInt u.2.2.2.2.2.2.2.2.2.2.2.2.2.1 = List.count 6 u.2.2.2.2.2.2.2.2.2.2.2.2.1 ∧ List.count 6 u.2.2.2.2.2.2.2.2.2.2.2.2.1 ≤ 8))) → va_P (dC, dI) cls (ME h g ss u.1 u.2.1 u.2.2.1 u.2.2.2.2.2.1 u.2.2.2.1 li u.2.2.2.2.2.2.2.2.2.2.1 u.2.2.2.2.2.2.2.2.1 u.2.2.2.2.2.2.2.2.2.1 u.2.2.2.2.2.2.2.2.2.2.2.2.2.2 u.2.2.2.2.2.2.2.2.2.2.2.2.2.1 u.2.2.2.2.1 wo wz sr u.2.2.2.2.2.2.1 u.2.2.2.2.2.2.2.1 u.2.2.2.2.2.2.2.2.2.2.2.1) H → va_D A (ME h g ss u.1 u.2.1 u.2.2.1 u.2.2.2.2.2.1 u.2.2.2.1 li u.2.2.2.2.2.2.2.2.2.2.1 u.2.2.2.2.2.2.2.2.1 u.2.2.2.2.2.2.2.2.2.1 u.2.2.2.2.2.2.2.2.2.2.2.2.2.2 u.2.2.2.2.2.2.2.2.2.2.2.2.2.1 u.2.2.2.2.1 wo wz sr u.2.2.2.2.2.2.1 u.2.2.2.2.2.2.2.1 u.2.2.2.2.2.2.2.2.2.2.2.1) → va_S A s.heap H locs → W p l e ({ frames := 9, cells := 0, slots := 0, locals := 197 } : Room) s m args below meth c H locs 0 0 Q (F0 m pc ls [])) : ∀ (sa : Int32) (so : Int32) (pl : Int32) (fa : Int32) (op : Int32) (si : Int32) (le : Nat → Int64) (tx : Nat → Int32) (st : Int32) (rq : Int32) (co : Int32) (ro : Nat → Int32) (LL : List Nat) (te : Int32) (bl : Int32), sa = sa0 → so = so0 → fa = fa0 → LL = LL0 → 0 ≤ Int32.toInt sa → Int32.toInt sa ≤ Int32.toInt ss → 0 ≤ Int32.toInt pl → Int32.toInt pl ≤ 400 → -1 ≤ Int32.toInt fa → Int32.toInt fa ≤ 400 → (Int32.toInt fa < 0 ∨ (Int32.toInt so = 0 ∧ Int32.toInt op = 0)) → 0 ≤ Int32.toInt si → Int32.toInt si ≤ 400 → SI LL fa op ro → Int32.toInt fa < 0 → LL.length ≤ 38 → wfp (x :: LL) → Int32.toInt bl = List.count 1 (x :: LL) → List.count 1 (x :: LL) ≤ 8 → Int32.toInt te = List.count 6 (x :: LL) → List.count 6 (x :: LL) ≤ 8 → ∀ (H : Heap) (locs : List Loc) (ls : Array Slot), va_P (dC, dI) cls (ME h g ss sa so pl si fa li co st rq bl te op wo wz sr le tx ro) H → va_D A (ME h g ss sa so pl si fa li co st rq bl te op wo wz sr le tx ro) → va_S A s.heap H locs → lv_has ls 2 [(0, .ref (h 0)), (1, .int (nI x))] → W p l e ({ frames := 9, cells := 0, slots := 0, locals := 197 } : Room) s m args below meth c H locs 0 0 Q (F0 m 0 ls []) := by
  intro sa so pl fa op si le tx st rq co ro LL te bl v_0 v_1 v_2 v_3 v_4 v_5 v_6 v_7 v_8 v_9 v_10 v_11 v_12 v_13 v_14 v_15 v_16 v_17 v_18 v_19 v_20 H locs ls hP hD hS hl
  subst v_0
  subst v_1
  subst v_2
  subst v_3
  refine lv_iload_n hx hb d_M_step_0 rfl (lv_at hl 1 rfl) ?_
  rcases wfp.le6 v_16 with rfl | rfl | rfl | rfl | rfl | rfl | rfl
  · have hx1 : List.count 1 (0 :: LL) = List.count 1 LL + 0 := by simp [List.count_cons]
    have hx6 : List.count 6 (0 :: LL) = List.count 6 LL + 0 := by simp [List.count_cons]
    have hxl : (0 :: LL).length = LL.length + 1 := rfl
    have hl : lv_has ls 2 [(0, .ref (h 0)), (1, .int 0)] := hl
    refine lv_ev (show nI 0 = 0 from rfl) ?_
    refine lv_tableIn (off := 39) (tgt := 40) hx hb d_M_step_1 (by decide) (by decide) (by decide) (by decide) ?_
    refine lv_aload_n hx hb d_M_step_40 rfl (lv_at hl 0 rfl) ?_
    refine lv_iconst (v := 1) hx hb d_M_step_41 (by decide) ?_
    have hc_1 : Int32.toInt 1 = 1 := by decide
    have hFc := va_free (wc := (ME h g ss sa so pl si fa li co st rq bl te op wo wz sr le tx ro)) hD hS hA [0, 1, 2, 3, 4, 5, 6] rfl
    refine va_calli (va_runV (As := [.int 1]) (rest := []) ⟨hx, hb, hml, hown, ht⟩ (c_M_is l dC dI k h g ss sa so pl si fa li co st rq bl te op wo le wz sr tx ro 1 _ (by omega) (by omega) ) (cwV 1 ht (g_V k_771 k_773 k_52 k_80 k_774) rfl rfl rfl (by decide +kernel) ⟨(Nat.le_of_ble_eq_true rfl), (Nat.le_of_ble_eq_true rfl)⟩) ⟨fb_X, va_recv hK hP (ci := 4) (q0 := 0) rfl rfl, pre_X hE hS hFc hP hK hD⟩ rfl rfl hl.1 rfl (lv_room (Nat.le_of_ble_eq_true rfl)) d_M_step_42 ⟨(Nat.le_of_ble_eq_true rfl), (Nat.le_of_ble_eq_true rfl)⟩) hS (fun q _ h9 => hFc q h9) hFc (fun r_2 u_1 t H locs het hvm hw hB hz1 hk1 hS => ?_)
    obtain ⟨p_3, p_4⟩ := hw
    obtain ⟨hP1, hK1, hD1⟩ := hB
    rw [het] at hP1
    have hP : va_P (dC, dI) cls (ME h g ss sa so pl si fa li co st rq bl te op wo wz sr le tx ro) H := hP1
    have hD : va_D A (ME h g ss sa so pl si fa li co st rq bl te op wo wz sr le tx ro) := hD1.weaken (fun _ _ _ h9 => hFc _ h9)
    refine lv_if_eq (tgt := 60) hx hb d_M_step_45 (by decide) (fun c_5 => ?_) (fun c_5 => ?_)
    · have dc_5 := i_eq c_5 rfl (show Int32.toInt 0 = 0 by decide)
      refine lv_iload_n hx hb d_M_step_60 rfl (lv_at hl 1 rfl) ?_
      refine lv_if_ne (tgt := 78) hx hb d_M_step_61 (by decide) (fun cn => absurd (by decide) cn) (fun _ => ?_)
      refine lv_aload_n hx hb d_M_step_64 rfl (lv_at hl 0 rfl) ?_
      refine va_get (D := (dC, dI)) (ci := 4) (v := .int so) (C := "SieveDeskModel") (T := F_M) (N := 19) hx hb ht i_M hown hK hP 0 rfl rfl 5 (by decide) (ht _ k_632) (fun _ h9 => h9) rfl d_M_step_65 ?_
      refine lv_if_eq (tgt := 94) hx hb d_M_step_68 (by decide) (fun c_6 => ?_) (fun c_6 => ?_)
      · have dc_6 := i_eq c_6 rfl (show Int32.toInt 0 = 0 by decide)
        exact fin  (sa, so, pl, fa, op, si, le, tx, st, rq, co, ro, LL, te, bl) _ _ _ ls d_M_step_94 ⟨(by (try dsimp only); omega), (by (try dsimp only); omega), (by (try dsimp only); omega), (by (try dsimp only); omega), (by (try dsimp only); omega), (by (try dsimp only); omega), (by (try dsimp only); omega), (by (try dsimp only); omega), (by (try dsimp only); omega), v_13, (by (try dsimp only); (try simp only [List.length_cons]); omega), (by (try dsimp only); have h19 : List.count 1 LL = List.count 1 LL + 0 := (by simp [List.count_cons]); have h69 : List.count 6 LL = List.count 6 LL + 0 := (by simp [List.count_cons]); omega)⟩ hP hD hS
      · have dc_6 := i_ne c_6 rfl (show Int32.toInt 0 = 0 by decide)
        refine lv_aload_n hx hb d_M_step_71 rfl (lv_at hl 0 rfl) ?_
        have hFc := va_free (wc := (ME h g ss sa so pl si fa li co st rq bl te op wo wz sr le tx ro)) hD hS hA [0, 1, 2, 3, 4, 5, 6] rfl
        refine va_callv (va_runV (As := []) (rest := []) ⟨hx, hb, hml, hown, ht⟩ (c_M_fail l dC dI k h g ss sa so pl si fa li co st rq bl te op wo le wz sr tx ro  _ (by omega) (by omega) (by omega) (by omega)) (cwV 0 ht (g_V k_763 k_765 k_50 k_80 k_766) rfl rfl rfl (by decide +kernel) ⟨(Nat.le_of_ble_eq_true rfl), (Nat.le_of_ble_eq_true rfl)⟩) ⟨fb_X, va_recv hK hP (ci := 4) (q0 := 0) rfl rfl, pre_X hE hS hFc hP hK hD⟩ rfl rfl hl.1 rfl (lv_room (Nat.le_of_ble_eq_true rfl)) d_M_step_72 ⟨(Nat.le_of_ble_eq_true rfl), (Nat.le_of_ble_eq_true rfl)⟩) hS (fun q _ h9 => hFc q h9) hFc (fun u_10 t H locs het hvm hw hB hz1 hk1 hS => ?_)
        obtain ⟨so_7, fa_8, op_9⟩ := u_10
        try dsimp only at hw
        obtain ⟨p_12, p_13, p_14, p_15, p_16, p_17⟩ := hw
        obtain ⟨hP1, hK1, hD1⟩ := hB
        rw [het] at hP1
        have hP : va_P (dC, dI) cls (ME h g ss sa so_7 pl si fa_8 li co st rq bl te op_9 wo wz sr le tx ro) H := hP1
        have hD : va_D A (ME h g ss sa so_7 pl si fa_8 li co st rq bl te op_9 wo wz sr le tx ro) := hD1.weaken (fun _ _ _ h9 => hFc _ h9)
        have sk_18 : SI LL fa_8 op_9 ro := SI_fault (by omega)
        have rl_19 : PS ss sa so fa op sa so_7 fa_8 op_9 := pr_out (by omega) (by omega) (by omega) _ _ _ _ (by omega)
        refine lv_goto (tgt := 94) hx hb d_M_step_75 (by decide) ?_
        exact fin  (sa, so_7, pl, fa_8, op_9, si, le, tx, st, rq, co, ro, LL, te, bl) _ _ _ ls d_M_step_94 ⟨(by (try dsimp only); omega), (by (try dsimp only); omega), (by (try dsimp only); omega), (by (try dsimp only); omega), (by (try dsimp only); omega), (by (try dsimp only); omega), (by (try dsimp only); omega), (by (try dsimp only); omega), (by (try dsimp only); omega), sk_18, (by (try dsimp only); have y9 := PT.yd rl_19.pt (by (try dsimp only); omega); (try simp only [List.length_cons]); omega), (by (try dsimp only); have h19 : List.count 1 LL = List.count 1 LL + 0 := (by simp [List.count_cons]); have h69 : List.count 6 LL = List.count 6 LL + 0 := (by simp [List.count_cons]); omega)⟩ hP hD hS
    · have dc_5 := i_ne c_5 rfl (show Int32.toInt 0 = 0 by decide)
      refine lv_aload_n hx hb d_M_step_48 rfl (lv_at hl 0 rfl) ?_
      refine lv_iload_n hx hb d_M_step_49 rfl (lv_at hl 1 rfl) ?_
      have sl_20 := SI_op v_13
      try simp only [List.length_cons, List.length_nil] at sl_20
      have hFc := va_free (wc := (ME h g ss sa so pl si fa li co st rq bl te op wo wz sr le tx ro)) hD hS hA [0, 1, 2, 3, 4, 5, 6] rfl
      refine va_callv (va_runV (As := [.int 0]) (rest := []) ⟨hx, hb, hml, hown, ht⟩ (c_M_push l dC dI k h g ss sa so pl si fa li co st rq bl te op wo le wz sr tx ro 0 _ (by omega) (by omega) (by omega) (by omega)) (cwV 1 ht (g_V k_795 k_797 k_58 k_80 k_798) rfl rfl rfl (by decide +kernel) ⟨(Nat.le_of_ble_eq_true rfl), (Nat.le_of_ble_eq_true rfl)⟩) ⟨fb_X, va_recv hK hP (ci := 4) (q0 := 0) rfl rfl, pre_X hE hS hFc hP hK hD⟩ rfl rfl hl.1 rfl (lv_room (Nat.le_of_ble_eq_true rfl)) d_M_step_50 ⟨(Nat.le_of_ble_eq_true rfl), (Nat.le_of_ble_eq_true rfl)⟩) hS (fun q _ h9 => hFc q h9) hFc (fun u_23 t H locs het hvm hw hB hz1 hk1 hS => ?_)
      obtain ⟨op_21, ro_22⟩ := u_23
      try dsimp only at hw
      obtain ⟨p_25, p_26⟩ := hw
      obtain ⟨hP1, hK1, hD1⟩ := hB
      rw [het] at hP1
      have hP : va_P (dC, dI) cls (ME h g ss sa so pl si fa li co st rq bl te op_21 wo wz sr le tx ro_22) H := hP1
      have hD : va_D A (ME h g ss sa so pl si fa li co st rq bl te op_21 wo wz sr le tx ro_22) := hD1.weaken (fun _ _ _ h9 => hFc _ h9)
      have sk_27 : SI (0 :: LL) fa op_21 ro_22 := SI_push (x := 0) v_13 (fun _ => v_16) p_26
      refine lv_aload_n hx hb d_M_step_53 rfl (lv_at hl 0 rfl) ?_
      have hFc := va_free (wc := (ME h g ss sa so pl si fa li co st rq bl te op_21 wo wz sr le tx ro_22)) hD hS hA [0, 1, 2, 3, 4, 5, 6] rfl
      refine va_callv (va_runV (As := []) (rest := []) ⟨hx, hb, hml, hown, ht⟩ (c_M_command l dC dI k h g ss sa so pl si fa li co st rq bl te op_21 wo le wz sr tx ro_22 (0 :: LL)  _ (by omega) (by omega) (by omega) (by omega) (by omega) (by omega) (by omega) (by omega) (by omega) (by omega) (by omega) sk_27 (by omega) (by omega) (by omega) ⟨rfl, v_16⟩) (cwV 0 ht (g_V k_803 k_805 k_60 k_80 k_806) rfl rfl rfl (by decide +kernel) ⟨(Nat.le_of_ble_eq_true rfl), (Nat.le_of_ble_eq_true rfl)⟩) ⟨fb_X, va_recv hK hP (ci := 4) (q0 := 0) rfl rfl, pre_X hE hS hFc hP hK hD⟩ rfl rfl hl.1 rfl (lv_room (Nat.le_of_ble_eq_true rfl)) d_M_step_54 ⟨(Nat.le_of_ble_eq_true rfl), (Nat.le_of_ble_eq_true rfl)⟩) hS (fun q _ h9 => hFc q h9) hFc (fun u_41 t H locs het hvm hw hB hz1 hk1 hS => ?_)
      obtain ⟨sa_28, so_29, pl_30, fa_31, op_32, si_33, le_34, tx_35, st_36, rq_37, co_38, ro_39, LL_40⟩ := u_41
      try dsimp only at hw
      obtain ⟨p_43, p_44, p_45, p_46, p_47, p_48, p_49, p_50, p_51, p_52, p_53, p_54, p_55, p_56⟩ := hw
      obtain ⟨hP1, hK1, hD1⟩ := hB
      rw [het] at hP1
      have hP : va_P (dC, dI) cls (ME h g ss sa_28 so_29 pl_30 si_33 fa_31 li co_38 st_36 rq_37 bl te op_32 wo wz sr le_34 tx_35 ro_39) H := hP1
      have hD : va_D A (ME h g ss sa_28 so_29 pl_30 si_33 fa_31 li co_38 st_36 rq_37 bl te op_32 wo wz sr le_34 tx_35 ro_39) := hD1.weaken (fun _ _ _ h9 => hFc _ h9)
      refine lv_goto (tgt := 94) hx hb d_M_step_57 (by decide) ?_
      exact fin  (sa_28, so_29, pl_30, fa_31, op_32, si_33, le_34, tx_35, st_36, rq_37, co_38, ro_39, LL_40, te, bl) _ _ _ ls d_M_step_94 ⟨(by (try dsimp only); omega), (by (try dsimp only); omega), (by (try dsimp only); omega), (by (try dsimp only); omega), (by (try dsimp only); omega), (by (try dsimp only); omega), (by (try dsimp only); omega), (by (try dsimp only); omega), (by (try dsimp only); omega), p_52, (by (try dsimp only); have y9 := PT.yd p_53 (by (try dsimp only); omega); (try simp only [List.length_cons]); omega), (by (try dsimp only); have h19 : List.count 1 LL_40 = List.count 1 LL_40 + 0 := (by simp [List.count_cons]); have h69 : List.count 6 LL_40 = List.count 6 LL_40 + 0 := (by simp [List.count_cons]); omega)⟩ hP hD hS
  · have hx1 : List.count 1 (1 :: LL) = List.count 1 LL + 1 := by simp [List.count_cons]
    have hx6 : List.count 6 (1 :: LL) = List.count 6 LL + 0 := by simp [List.count_cons]
    have hxl : (1 :: LL).length = LL.length + 1 := rfl
    have hl : lv_has ls 2 [(0, .ref (h 0)), (1, .int 1)] := hl
    refine lv_ev (show nI 1 = 1 from rfl) ?_
    refine lv_tableIn (off := 39) (tgt := 40) hx hb d_M_step_1 (by decide) (by decide) (by decide) (by decide) ?_
    refine lv_aload_n hx hb d_M_step_40 rfl (lv_at hl 0 rfl) ?_
    refine lv_iconst (v := 1) hx hb d_M_step_41 (by decide) ?_
    have hc_1 : Int32.toInt 1 = 1 := by decide
    have hFc := va_free (wc := (ME h g ss sa so pl si fa li co st rq bl te op wo wz sr le tx ro)) hD hS hA [0, 1, 2, 3, 4, 5, 6] rfl
    refine va_calli (va_runV (As := [.int 1]) (rest := []) ⟨hx, hb, hml, hown, ht⟩ (c_M_is l dC dI k h g ss sa so pl si fa li co st rq bl te op wo le wz sr tx ro 1 _ (by omega) (by omega) ) (cwV 1 ht (g_V k_771 k_773 k_52 k_80 k_774) rfl rfl rfl (by decide +kernel) ⟨(Nat.le_of_ble_eq_true rfl), (Nat.le_of_ble_eq_true rfl)⟩) ⟨fb_X, va_recv hK hP (ci := 4) (q0 := 0) rfl rfl, pre_X hE hS hFc hP hK hD⟩ rfl rfl hl.1 rfl (lv_room (Nat.le_of_ble_eq_true rfl)) d_M_step_42 ⟨(Nat.le_of_ble_eq_true rfl), (Nat.le_of_ble_eq_true rfl)⟩) hS (fun q _ h9 => hFc q h9) hFc (fun r_58 u_57 t H locs het hvm hw hB hz1 hk1 hS => ?_)
    obtain ⟨p_59, p_60⟩ := hw
    obtain ⟨hP1, hK1, hD1⟩ := hB
    rw [het] at hP1
    have hP : va_P (dC, dI) cls (ME h g ss sa so pl si fa li co st rq bl te op wo wz sr le tx ro) H := hP1
    have hD : va_D A (ME h g ss sa so pl si fa li co st rq bl te op wo wz sr le tx ro) := hD1.weaken (fun _ _ _ h9 => hFc _ h9)
    refine lv_if_eq (tgt := 60) hx hb d_M_step_45 (by decide) (fun c_61 => ?_) (fun c_61 => ?_)
    · have dc_61 := i_eq c_61 rfl (show Int32.toInt 0 = 0 by decide)
      refine lv_iload_n hx hb d_M_step_60 rfl (lv_at hl 1 rfl) ?_
      refine lv_if_ne (tgt := 78) hx hb d_M_step_61 (by decide) (fun _ => ?_) (fun cn => absurd cn (by decide))
      refine lv_aload_n hx hb d_M_step_78 rfl (lv_at hl 0 rfl) ?_
      refine lv_bipush (v := 125) hx hb d_M_step_79 (by decide) ?_
      have hc_125 : Int32.toInt 125 = 125 := by decide
      have hFc := va_free (wc := (ME h g ss sa so pl si fa li co st rq bl te op wo wz sr le tx ro)) hD hS hA [0, 1, 2, 3, 4, 5, 6] rfl
      refine va_callv (va_runV (As := [.int 125]) (rest := []) ⟨hx, hb, hml, hown, ht⟩ (c_M_take l dC dI k h g ss sa so pl si fa li co st rq bl te op wo le wz sr tx ro 125 _ (by omega) (by omega) (by omega) (by omega) (by omega) (by omega) (by omega) (by omega) (by omega) (by omega) (by omega) (by omega) (by omega)) (cwV 1 ht (g_V k_791 k_793 k_57 k_80 k_794) rfl rfl rfl (by decide +kernel) ⟨(Nat.le_of_ble_eq_true rfl), (Nat.le_of_ble_eq_true rfl)⟩) ⟨fb_X, va_recv hK hP (ci := 4) (q0 := 0) rfl rfl, pre_X hE hS hFc hP hK hD⟩ rfl rfl hl.1 rfl (lv_room (Nat.le_of_ble_eq_true rfl)) d_M_step_81 ⟨(Nat.le_of_ble_eq_true rfl), (Nat.le_of_ble_eq_true rfl)⟩) hS (fun q _ h9 => hFc q h9) hFc (fun u_70 t H locs het hvm hw hB hz1 hk1 hS => ?_)
      obtain ⟨sa_62, so_63, pl_64, fa_65, op_66, si_67, le_68, tx_69⟩ := u_70
      try dsimp only at hw
      obtain ⟨p_72, p_73, p_74, p_75, p_76, p_77, p_78, p_79, p_80, p_81, p_82⟩ := hw
      obtain ⟨hP1, hK1, hD1⟩ := hB
      rw [het] at hP1
      have hP : va_P (dC, dI) cls (ME h g ss sa_62 so_63 pl_64 si_67 fa_65 li co st rq bl te op_66 wo wz sr le_68 tx_69 ro) H := hP1
      have hD : va_D A (ME h g ss sa_62 so_63 pl_64 si_67 fa_65 li co st rq bl te op_66 wo wz sr le_68 tx_69 ro) := hD1.weaken (fun _ _ _ h9 => hFc _ h9)
      have sk_83 : SI LL fa_65 op_66 ro := SI_pr v_13 p_81.pr
      refine lv_aload_n hx hb d_M_step_84 rfl (lv_at hl 0 rfl) ?_
      refine lv_aload_n hx hb d_M_step_85 rfl (lv_at hl 0 rfl) ?_
      refine va_get (D := (dC, dI)) (ci := 4) (v := .int bl) (C := "SieveDeskModel") (T := F_M) (N := 19) hx hb ht i_M hown hK hP 0 rfl rfl 15 (by decide) (ht _ k_642) (fun _ h9 => h9) rfl d_M_step_86 ?_
      refine lv_iconst (v := 1) hx hb d_M_step_89 (by decide) ?_
      refine lv_isub hx hb d_M_step_90 ?_
      have e_84 : Int32.toInt (bl - 1) = (Int32.toInt bl) - 1 := i_sub rfl (show Int32.toInt 1 = 1 by decide) (by omega) (by omega)
      refine va_put (D := (dC, dI)) (ci := 4) (v := .int (bl - 1)) (ty := .int) (C := "SieveDeskModel") (T := F_M) (N := 19) hx hb ht i_M ty_M ty_M_ok n_M hown hK hP hD hS 0 rfl rfl 15 (by decide) (ht _ k_642) (fun _ h9 => h9) rfl (ty_M_ok 15 (by decide)) rfl rfl (Nat.le_of_ble_eq_true rfl) d_M_step_91 (fun H locs hP hD hS => ?_)
      have hP : va_P (dC, dI) cls (ME h g ss sa_62 so_63 pl_64 si_67 fa_65 li co st rq (bl - 1) te op_66 wo wz sr le_68 tx_69 ro) H := hP
      have hD : va_D A (ME h g ss sa_62 so_63 pl_64 si_67 fa_65 li co st rq (bl - 1) te op_66 wo wz sr le_68 tx_69 ro) := hD
      exact fin  (sa_62, so_63, pl_64, fa_65, op_66, si_67, le_68, tx_69, st, rq, co, ro, LL, te, (bl - 1)) _ _ _ ls d_M_step_94 ⟨(by (try dsimp only); omega), (by (try dsimp only); omega), (by (try dsimp only); omega), (by (try dsimp only); omega), (by (try dsimp only); omega), (by (try dsimp only); omega), (by (try dsimp only); omega), (by (try dsimp only); omega), (by (try dsimp only); omega), sk_83, (by (try dsimp only); have y9 := PT.yd p_81.pt (by (try dsimp only); omega); (try simp only [List.length_cons]); omega), (by (try dsimp only); have h19 : List.count 1 LL = List.count 1 LL + 0 := (by simp [List.count_cons]); have h69 : List.count 6 LL = List.count 6 LL + 0 := (by simp [List.count_cons]); omega)⟩ hP hD hS
    · have dc_61 := i_ne c_61 rfl (show Int32.toInt 0 = 0 by decide)
      refine lv_aload_n hx hb d_M_step_48 rfl (lv_at hl 0 rfl) ?_
      refine lv_iload_n hx hb d_M_step_49 rfl (lv_at hl 1 rfl) ?_
      have sl_85 := SI_op v_13
      try simp only [List.length_cons, List.length_nil] at sl_85
      have hFc := va_free (wc := (ME h g ss sa so pl si fa li co st rq bl te op wo wz sr le tx ro)) hD hS hA [0, 1, 2, 3, 4, 5, 6] rfl
      refine va_callv (va_runV (As := [.int 1]) (rest := []) ⟨hx, hb, hml, hown, ht⟩ (c_M_push l dC dI k h g ss sa so pl si fa li co st rq bl te op wo le wz sr tx ro 1 _ (by omega) (by omega) (by omega) (by omega)) (cwV 1 ht (g_V k_795 k_797 k_58 k_80 k_798) rfl rfl rfl (by decide +kernel) ⟨(Nat.le_of_ble_eq_true rfl), (Nat.le_of_ble_eq_true rfl)⟩) ⟨fb_X, va_recv hK hP (ci := 4) (q0 := 0) rfl rfl, pre_X hE hS hFc hP hK hD⟩ rfl rfl hl.1 rfl (lv_room (Nat.le_of_ble_eq_true rfl)) d_M_step_50 ⟨(Nat.le_of_ble_eq_true rfl), (Nat.le_of_ble_eq_true rfl)⟩) hS (fun q _ h9 => hFc q h9) hFc (fun u_88 t H locs het hvm hw hB hz1 hk1 hS => ?_)
      obtain ⟨op_86, ro_87⟩ := u_88
      try dsimp only at hw
      obtain ⟨p_90, p_91⟩ := hw
      obtain ⟨hP1, hK1, hD1⟩ := hB
      rw [het] at hP1
      have hP : va_P (dC, dI) cls (ME h g ss sa so pl si fa li co st rq bl te op_86 wo wz sr le tx ro_87) H := hP1
      have hD : va_D A (ME h g ss sa so pl si fa li co st rq bl te op_86 wo wz sr le tx ro_87) := hD1.weaken (fun _ _ _ h9 => hFc _ h9)
      have sk_92 : SI (1 :: LL) fa op_86 ro_87 := SI_push (x := 1) v_13 (fun _ => v_16) p_91
      refine lv_aload_n hx hb d_M_step_53 rfl (lv_at hl 0 rfl) ?_
      have hFc := va_free (wc := (ME h g ss sa so pl si fa li co st rq bl te op_86 wo wz sr le tx ro_87)) hD hS hA [0, 1, 2, 3, 4, 5, 6] rfl
      refine va_callv (va_runV (As := []) (rest := []) ⟨hx, hb, hml, hown, ht⟩ (c_M_command l dC dI k h g ss sa so pl si fa li co st rq bl te op_86 wo le wz sr tx ro_87 (1 :: LL)  _ (by omega) (by omega) (by omega) (by omega) (by omega) (by omega) (by omega) (by omega) (by omega) (by omega) (by omega) sk_92 (by omega) (by omega) (by omega) ⟨rfl, v_16⟩) (cwV 0 ht (g_V k_803 k_805 k_60 k_80 k_806) rfl rfl rfl (by decide +kernel) ⟨(Nat.le_of_ble_eq_true rfl), (Nat.le_of_ble_eq_true rfl)⟩) ⟨fb_X, va_recv hK hP (ci := 4) (q0 := 0) rfl rfl, pre_X hE hS hFc hP hK hD⟩ rfl rfl hl.1 rfl (lv_room (Nat.le_of_ble_eq_true rfl)) d_M_step_54 ⟨(Nat.le_of_ble_eq_true rfl), (Nat.le_of_ble_eq_true rfl)⟩) hS (fun q _ h9 => hFc q h9) hFc (fun u_106 t H locs het hvm hw hB hz1 hk1 hS => ?_)
      obtain ⟨sa_93, so_94, pl_95, fa_96, op_97, si_98, le_99, tx_100, st_101, rq_102, co_103, ro_104, LL_105⟩ := u_106
      try dsimp only at hw
      obtain ⟨p_108, p_109, p_110, p_111, p_112, p_113, p_114, p_115, p_116, p_117, p_118, p_119, p_120, p_121⟩ := hw
      obtain ⟨hP1, hK1, hD1⟩ := hB
      rw [het] at hP1
      have hP : va_P (dC, dI) cls (ME h g ss sa_93 so_94 pl_95 si_98 fa_96 li co_103 st_101 rq_102 bl te op_97 wo wz sr le_99 tx_100 ro_104) H := hP1
      have hD : va_D A (ME h g ss sa_93 so_94 pl_95 si_98 fa_96 li co_103 st_101 rq_102 bl te op_97 wo wz sr le_99 tx_100 ro_104) := hD1.weaken (fun _ _ _ h9 => hFc _ h9)
      refine lv_goto (tgt := 94) hx hb d_M_step_57 (by decide) ?_
      exact fin  (sa_93, so_94, pl_95, fa_96, op_97, si_98, le_99, tx_100, st_101, rq_102, co_103, ro_104, LL_105, te, bl) _ _ _ ls d_M_step_94 ⟨(by (try dsimp only); omega), (by (try dsimp only); omega), (by (try dsimp only); omega), (by (try dsimp only); omega), (by (try dsimp only); omega), (by (try dsimp only); omega), (by (try dsimp only); omega), (by (try dsimp only); omega), (by (try dsimp only); omega), p_117, (by (try dsimp only); have y9 := PT.yd p_118 (by (try dsimp only); omega); (try simp only [List.length_cons]); omega), (by (try dsimp only); have h19 : List.count 1 LL_105 = List.count 1 LL_105 + 0 := (by simp [List.count_cons]); have h69 : List.count 6 LL_105 = List.count 6 LL_105 + 0 := (by simp [List.count_cons]); omega)⟩ hP hD hS
  · have hx1 : List.count 1 (2 :: LL) = List.count 1 LL + 0 := by simp [List.count_cons]
    have hx6 : List.count 6 (2 :: LL) = List.count 6 LL + 0 := by simp [List.count_cons]
    have hxl : (2 :: LL).length = LL.length + 1 := rfl
    have hl : lv_has ls 2 [(0, .ref (h 0)), (1, .int 2)] := hl
    refine lv_ev (show nI 2 = 2 from rfl) ?_
    refine lv_tableIn (off := 94) (tgt := 95) hx hb d_M_step_1 (by decide) (by decide) (by decide) (by decide) ?_
    refine lv_aload_n hx hb d_M_step_95 rfl (lv_at hl 0 rfl) ?_
    refine lv_bipush (v := 123) hx hb d_M_step_96 (by decide) ?_
    have hc_123 : Int32.toInt 123 = 123 := by decide
    have hFc := va_free (wc := (ME h g ss sa so pl si fa li co st rq bl te op wo wz sr le tx ro)) hD hS hA [0, 1, 2, 3, 4, 5, 6] rfl
    refine va_calli (va_runV (As := [.int 123]) (rest := []) ⟨hx, hb, hml, hown, ht⟩ (c_M_isSign l dC dI k h g ss sa so pl si fa li co st rq bl te op wo le wz sr tx ro 123 _ (by omega) (by omega) (by omega) (by omega) ) (cwV 1 ht (g_V k_779 k_781 k_54 k_80 k_782) rfl rfl rfl (by decide +kernel) ⟨(Nat.le_of_ble_eq_true rfl), (Nat.le_of_ble_eq_true rfl)⟩) ⟨fb_X, va_recv hK hP (ci := 4) (q0 := 0) rfl rfl, pre_X hE hS hFc hP hK hD⟩ rfl rfl hl.1 rfl (lv_room (Nat.le_of_ble_eq_true rfl)) d_M_step_98 ⟨(Nat.le_of_ble_eq_true rfl), (Nat.le_of_ble_eq_true rfl)⟩) hS (fun q _ h9 => hFc q h9) hFc (fun r_123 u_122 t H locs het hvm hw hB hz1 hk1 hS => ?_)
    obtain ⟨p_124, p_125⟩ := hw
    obtain ⟨hP1, hK1, hD1⟩ := hB
    rw [het] at hP1
    have hP : va_P (dC, dI) cls (ME h g ss sa so pl si fa li co st rq bl te op wo wz sr le tx ro) H := hP1
    have hD : va_D A (ME h g ss sa so pl si fa li co st rq bl te op wo wz sr le tx ro) := hD1.weaken (fun _ _ _ h9 => hFc _ h9)
    refine lv_if_eq (tgt := 117) hx hb d_M_step_101 (by decide) (fun c_126 => ?_) (fun c_126 => ?_)
    · have dc_126 := i_eq c_126 rfl (show Int32.toInt 0 = 0 by decide)
      refine lv_aload_n hx hb d_M_step_117 rfl (lv_at hl 0 rfl) ?_
      refine lv_bipush (v := 123) hx hb d_M_step_118 (by decide) ?_
      have hFc := va_free (wc := (ME h g ss sa so pl si fa li co st rq bl te op wo wz sr le tx ro)) hD hS hA [0, 1, 2, 3, 4, 5, 6] rfl
      refine va_callv (va_runV (As := [.int 123]) (rest := []) ⟨hx, hb, hml, hown, ht⟩ (c_M_take l dC dI k h g ss sa so pl si fa li co st rq bl te op wo le wz sr tx ro 123 _ (by omega) (by omega) (by omega) (by omega) (by omega) (by omega) (by omega) (by omega) (by omega) (by omega) (by omega) (by omega) (by omega)) (cwV 1 ht (g_V k_791 k_793 k_57 k_80 k_794) rfl rfl rfl (by decide +kernel) ⟨(Nat.le_of_ble_eq_true rfl), (Nat.le_of_ble_eq_true rfl)⟩) ⟨fb_X, va_recv hK hP (ci := 4) (q0 := 0) rfl rfl, pre_X hE hS hFc hP hK hD⟩ rfl rfl hl.1 rfl (lv_room (Nat.le_of_ble_eq_true rfl)) d_M_step_120 ⟨(Nat.le_of_ble_eq_true rfl), (Nat.le_of_ble_eq_true rfl)⟩) hS (fun q _ h9 => hFc q h9) hFc (fun u_135 t H locs het hvm hw hB hz1 hk1 hS => ?_)
      obtain ⟨sa_127, so_128, pl_129, fa_130, op_131, si_132, le_133, tx_134⟩ := u_135
      try dsimp only at hw
      obtain ⟨p_137, p_138, p_139, p_140, p_141, p_142, p_143, p_144, p_145, p_146, p_147⟩ := hw
      obtain ⟨hP1, hK1, hD1⟩ := hB
      rw [het] at hP1
      have hP : va_P (dC, dI) cls (ME h g ss sa_127 so_128 pl_129 si_132 fa_130 li co st rq bl te op_131 wo wz sr le_133 tx_134 ro) H := hP1
      have hD : va_D A (ME h g ss sa_127 so_128 pl_129 si_132 fa_130 li co st rq bl te op_131 wo wz sr le_133 tx_134 ro) := hD1.weaken (fun _ _ _ h9 => hFc _ h9)
      have sk_148 : SI LL fa_130 op_131 ro := SI_pr v_13 p_146.pr
      refine lv_aload_n hx hb d_M_step_123 rfl (lv_at hl 0 rfl) ?_
      refine lv_aload_n hx hb d_M_step_124 rfl (lv_at hl 0 rfl) ?_
      refine va_get (D := (dC, dI)) (ci := 4) (v := .int bl) (C := "SieveDeskModel") (T := F_M) (N := 19) hx hb ht i_M hown hK hP 0 rfl rfl 15 (by decide) (ht _ k_642) (fun _ h9 => h9) rfl d_M_step_125 ?_
      refine lv_iconst (v := 1) hx hb d_M_step_128 (by decide) ?_
      refine lv_iadd hx hb d_M_step_129 ?_
      have e_149 : Int32.toInt (bl + 1) = (Int32.toInt bl) + 1 := i_add rfl (show Int32.toInt 1 = 1 by decide) (by omega) (by omega)
      refine va_put (D := (dC, dI)) (ci := 4) (v := .int (bl + 1)) (ty := .int) (C := "SieveDeskModel") (T := F_M) (N := 19) hx hb ht i_M ty_M ty_M_ok n_M hown hK hP hD hS 0 rfl rfl 15 (by decide) (ht _ k_642) (fun _ h9 => h9) rfl (ty_M_ok 15 (by decide)) rfl rfl (Nat.le_of_ble_eq_true rfl) d_M_step_130 (fun H locs hP hD hS => ?_)
      have hP : va_P (dC, dI) cls (ME h g ss sa_127 so_128 pl_129 si_132 fa_130 li co st rq (bl + 1) te op_131 wo wz sr le_133 tx_134 ro) H := hP
      have hD : va_D A (ME h g ss sa_127 so_128 pl_129 si_132 fa_130 li co st rq (bl + 1) te op_131 wo wz sr le_133 tx_134 ro) := hD
      refine lv_aload_n hx hb d_M_step_133 rfl (lv_at hl 0 rfl) ?_
      refine lv_iconst (v := 1) hx hb d_M_step_134 (by decide) ?_
      have sl_150 := SI_op sk_148
      try simp only [List.length_cons, List.length_nil] at sl_150
      have hFc := va_free (wc := (ME h g ss sa_127 so_128 pl_129 si_132 fa_130 li co st rq (bl + 1) te op_131 wo wz sr le_133 tx_134 ro)) hD hS hA [0, 1, 2, 3, 4, 5, 6] rfl
      refine va_callv (va_runV (As := [.int 1]) (rest := []) ⟨hx, hb, hml, hown, ht⟩ (c_M_push l dC dI k h g ss sa_127 so_128 pl_129 si_132 fa_130 li co st rq (bl + 1) te op_131 wo le_133 wz sr tx_134 ro 1 _ (by omega) (by omega) (by omega) (by omega)) (cwV 1 ht (g_V k_795 k_797 k_58 k_80 k_798) rfl rfl rfl (by decide +kernel) ⟨(Nat.le_of_ble_eq_true rfl), (Nat.le_of_ble_eq_true rfl)⟩) ⟨fb_X, va_recv hK hP (ci := 4) (q0 := 0) rfl rfl, pre_X hE hS hFc hP hK hD⟩ rfl rfl hl.1 rfl (lv_room (Nat.le_of_ble_eq_true rfl)) d_M_step_135 ⟨(Nat.le_of_ble_eq_true rfl), (Nat.le_of_ble_eq_true rfl)⟩) hS (fun q _ h9 => hFc q h9) hFc (fun u_153 t H locs het hvm hw hB hz1 hk1 hS => ?_)
      obtain ⟨op_151, ro_152⟩ := u_153
      try dsimp only at hw
      obtain ⟨p_155, p_156⟩ := hw
      obtain ⟨hP1, hK1, hD1⟩ := hB
      rw [het] at hP1
      have hP : va_P (dC, dI) cls (ME h g ss sa_127 so_128 pl_129 si_132 fa_130 li co st rq (bl + 1) te op_151 wo wz sr le_133 tx_134 ro_152) H := hP1
      have hD : va_D A (ME h g ss sa_127 so_128 pl_129 si_132 fa_130 li co st rq (bl + 1) te op_151 wo wz sr le_133 tx_134 ro_152) := hD1.weaken (fun _ _ _ h9 => hFc _ h9)
      have sk_157 : SI (1 :: LL) fa_130 op_151 ro_152 := SI_push (x := 1) sk_148 (fun _ => wfp.re v_16 (by decide) pr2_21) p_156
      exact fin  (sa_127, so_128, pl_129, fa_130, op_151, si_132, le_133, tx_134, st, rq, co, ro_152, (1 :: LL), te, (bl + 1)) _ _ _ ls d_M_step_138 ⟨(by (try dsimp only); omega), (by (try dsimp only); omega), (by (try dsimp only); omega), (by (try dsimp only); omega), (by (try dsimp only); omega), (by (try dsimp only); omega), (by (try dsimp only); omega), (by (try dsimp only); omega), (by (try dsimp only); omega), sk_157, (by (try dsimp only); have y9 := PT.yd p_146.pt (by (try dsimp only); omega); (try simp only [List.length_cons]); omega), (by (try dsimp only); have h19 : List.count 1 (1 :: LL) = List.count 1 LL + 1 := (by simp [List.count_cons]); have h69 : List.count 6 (1 :: LL) = List.count 6 LL + 0 := (by simp [List.count_cons]); omega)⟩ hP hD hS
    · have dc_126 := i_ne c_126 rfl (show Int32.toInt 0 = 0 by decide)
      refine lv_aload_n hx hb d_M_step_104 rfl (lv_at hl 0 rfl) ?_
      refine va_get (D := (dC, dI)) (ci := 4) (v := .int bl) (C := "SieveDeskModel") (T := F_M) (N := 19) hx hb ht i_M hown hK hP 0 rfl rfl 15 (by decide) (ht _ k_642) (fun _ h9 => h9) rfl d_M_step_105 ?_
      refine lv_bipush (v := 8) hx hb d_M_step_108 (by decide) ?_
      refine lv_icmp_ne (tgt := 117) hx hb d_M_step_110 (by decide) (fun c_158 => ?_) (fun c_158 => ?_)
      · have dc_158 := i_ne c_158 rfl (show Int32.toInt 8 = 8 by decide)
        refine lv_aload_n hx hb d_M_step_117 rfl (lv_at hl 0 rfl) ?_
        refine lv_bipush (v := 123) hx hb d_M_step_118 (by decide) ?_
        have hFc := va_free (wc := (ME h g ss sa so pl si fa li co st rq bl te op wo wz sr le tx ro)) hD hS hA [0, 1, 2, 3, 4, 5, 6] rfl
        refine va_callv (va_runV (As := [.int 123]) (rest := []) ⟨hx, hb, hml, hown, ht⟩ (c_M_take l dC dI k h g ss sa so pl si fa li co st rq bl te op wo le wz sr tx ro 123 _ (by omega) (by omega) (by omega) (by omega) (by omega) (by omega) (by omega) (by omega) (by omega) (by omega) (by omega) (by omega) (by omega)) (cwV 1 ht (g_V k_791 k_793 k_57 k_80 k_794) rfl rfl rfl (by decide +kernel) ⟨(Nat.le_of_ble_eq_true rfl), (Nat.le_of_ble_eq_true rfl)⟩) ⟨fb_X, va_recv hK hP (ci := 4) (q0 := 0) rfl rfl, pre_X hE hS hFc hP hK hD⟩ rfl rfl hl.1 rfl (lv_room (Nat.le_of_ble_eq_true rfl)) d_M_step_120 ⟨(Nat.le_of_ble_eq_true rfl), (Nat.le_of_ble_eq_true rfl)⟩) hS (fun q _ h9 => hFc q h9) hFc (fun u_167 t H locs het hvm hw hB hz1 hk1 hS => ?_)
        obtain ⟨sa_159, so_160, pl_161, fa_162, op_163, si_164, le_165, tx_166⟩ := u_167
        try dsimp only at hw
        obtain ⟨p_169, p_170, p_171, p_172, p_173, p_174, p_175, p_176, p_177, p_178, p_179⟩ := hw
        obtain ⟨hP1, hK1, hD1⟩ := hB
        rw [het] at hP1
        have hP : va_P (dC, dI) cls (ME h g ss sa_159 so_160 pl_161 si_164 fa_162 li co st rq bl te op_163 wo wz sr le_165 tx_166 ro) H := hP1
        have hD : va_D A (ME h g ss sa_159 so_160 pl_161 si_164 fa_162 li co st rq bl te op_163 wo wz sr le_165 tx_166 ro) := hD1.weaken (fun _ _ _ h9 => hFc _ h9)
        have sk_180 : SI LL fa_162 op_163 ro := SI_pr v_13 p_178.pr
        refine lv_aload_n hx hb d_M_step_123 rfl (lv_at hl 0 rfl) ?_
        refine lv_aload_n hx hb d_M_step_124 rfl (lv_at hl 0 rfl) ?_
        refine va_get (D := (dC, dI)) (ci := 4) (v := .int bl) (C := "SieveDeskModel") (T := F_M) (N := 19) hx hb ht i_M hown hK hP 0 rfl rfl 15 (by decide) (ht _ k_642) (fun _ h9 => h9) rfl d_M_step_125 ?_
        refine lv_iconst (v := 1) hx hb d_M_step_128 (by decide) ?_
        refine lv_iadd hx hb d_M_step_129 ?_
        have e_181 : Int32.toInt (bl + 1) = (Int32.toInt bl) + 1 := i_add rfl (show Int32.toInt 1 = 1 by decide) (by omega) (by omega)
        refine va_put (D := (dC, dI)) (ci := 4) (v := .int (bl + 1)) (ty := .int) (C := "SieveDeskModel") (T := F_M) (N := 19) hx hb ht i_M ty_M ty_M_ok n_M hown hK hP hD hS 0 rfl rfl 15 (by decide) (ht _ k_642) (fun _ h9 => h9) rfl (ty_M_ok 15 (by decide)) rfl rfl (Nat.le_of_ble_eq_true rfl) d_M_step_130 (fun H locs hP hD hS => ?_)
        have hP : va_P (dC, dI) cls (ME h g ss sa_159 so_160 pl_161 si_164 fa_162 li co st rq (bl + 1) te op_163 wo wz sr le_165 tx_166 ro) H := hP
        have hD : va_D A (ME h g ss sa_159 so_160 pl_161 si_164 fa_162 li co st rq (bl + 1) te op_163 wo wz sr le_165 tx_166 ro) := hD
        refine lv_aload_n hx hb d_M_step_133 rfl (lv_at hl 0 rfl) ?_
        refine lv_iconst (v := 1) hx hb d_M_step_134 (by decide) ?_
        have sl_182 := SI_op sk_180
        try simp only [List.length_cons, List.length_nil] at sl_182
        have hFc := va_free (wc := (ME h g ss sa_159 so_160 pl_161 si_164 fa_162 li co st rq (bl + 1) te op_163 wo wz sr le_165 tx_166 ro)) hD hS hA [0, 1, 2, 3, 4, 5, 6] rfl
        refine va_callv (va_runV (As := [.int 1]) (rest := []) ⟨hx, hb, hml, hown, ht⟩ (c_M_push l dC dI k h g ss sa_159 so_160 pl_161 si_164 fa_162 li co st rq (bl + 1) te op_163 wo le_165 wz sr tx_166 ro 1 _ (by omega) (by omega) (by omega) (by omega)) (cwV 1 ht (g_V k_795 k_797 k_58 k_80 k_798) rfl rfl rfl (by decide +kernel) ⟨(Nat.le_of_ble_eq_true rfl), (Nat.le_of_ble_eq_true rfl)⟩) ⟨fb_X, va_recv hK hP (ci := 4) (q0 := 0) rfl rfl, pre_X hE hS hFc hP hK hD⟩ rfl rfl hl.1 rfl (lv_room (Nat.le_of_ble_eq_true rfl)) d_M_step_135 ⟨(Nat.le_of_ble_eq_true rfl), (Nat.le_of_ble_eq_true rfl)⟩) hS (fun q _ h9 => hFc q h9) hFc (fun u_185 t H locs het hvm hw hB hz1 hk1 hS => ?_)
        obtain ⟨op_183, ro_184⟩ := u_185
        try dsimp only at hw
        obtain ⟨p_187, p_188⟩ := hw
        obtain ⟨hP1, hK1, hD1⟩ := hB
        rw [het] at hP1
        have hP : va_P (dC, dI) cls (ME h g ss sa_159 so_160 pl_161 si_164 fa_162 li co st rq (bl + 1) te op_183 wo wz sr le_165 tx_166 ro_184) H := hP1
        have hD : va_D A (ME h g ss sa_159 so_160 pl_161 si_164 fa_162 li co st rq (bl + 1) te op_183 wo wz sr le_165 tx_166 ro_184) := hD1.weaken (fun _ _ _ h9 => hFc _ h9)
        have sk_189 : SI (1 :: LL) fa_162 op_183 ro_184 := SI_push (x := 1) sk_180 (fun _ => wfp.re v_16 (by decide) pr2_21) p_188
        exact fin  (sa_159, so_160, pl_161, fa_162, op_183, si_164, le_165, tx_166, st, rq, co, ro_184, (1 :: LL), te, (bl + 1)) _ _ _ ls d_M_step_138 ⟨(by (try dsimp only); omega), (by (try dsimp only); omega), (by (try dsimp only); omega), (by (try dsimp only); omega), (by (try dsimp only); omega), (by (try dsimp only); omega), (by (try dsimp only); omega), (by (try dsimp only); omega), (by (try dsimp only); omega), sk_189, (by (try dsimp only); have y9 := PT.yd p_178.pt (by (try dsimp only); omega); (try simp only [List.length_cons]); omega), (by (try dsimp only); have h19 : List.count 1 (1 :: LL) = List.count 1 LL + 1 := (by simp [List.count_cons]); have h69 : List.count 6 (1 :: LL) = List.count 6 LL + 0 := (by simp [List.count_cons]); omega)⟩ hP hD hS
      · have dc_158 := i_eq c_158 rfl (show Int32.toInt 8 = 8 by decide)
        refine lv_aload_n hx hb d_M_step_113 rfl (lv_at hl 0 rfl) ?_
        have hFc := va_free (wc := (ME h g ss sa so pl si fa li co st rq bl te op wo wz sr le tx ro)) hD hS hA [0, 1, 2, 3, 4, 5, 6] rfl
        refine va_callv (va_runV (As := []) (rest := []) ⟨hx, hb, hml, hown, ht⟩ (c_M_fail l dC dI k h g ss sa so pl si fa li co st rq bl te op wo le wz sr tx ro  _ (by omega) (by omega) (by omega) (by omega)) (cwV 0 ht (g_V k_763 k_765 k_50 k_80 k_766) rfl rfl rfl (by decide +kernel) ⟨(Nat.le_of_ble_eq_true rfl), (Nat.le_of_ble_eq_true rfl)⟩) ⟨fb_X, va_recv hK hP (ci := 4) (q0 := 0) rfl rfl, pre_X hE hS hFc hP hK hD⟩ rfl rfl hl.1 rfl (lv_room (Nat.le_of_ble_eq_true rfl)) d_M_step_114 ⟨(Nat.le_of_ble_eq_true rfl), (Nat.le_of_ble_eq_true rfl)⟩) hS (fun q _ h9 => hFc q h9) hFc (fun u_193 t H locs het hvm hw hB hz1 hk1 hS => ?_)
        obtain ⟨so_190, fa_191, op_192⟩ := u_193
        try dsimp only at hw
        obtain ⟨p_195, p_196, p_197, p_198, p_199, p_200⟩ := hw
        obtain ⟨hP1, hK1, hD1⟩ := hB
        rw [het] at hP1
        have hP : va_P (dC, dI) cls (ME h g ss sa so_190 pl si fa_191 li co st rq bl te op_192 wo wz sr le tx ro) H := hP1
        have hD : va_D A (ME h g ss sa so_190 pl si fa_191 li co st rq bl te op_192 wo wz sr le tx ro) := hD1.weaken (fun _ _ _ h9 => hFc _ h9)
        have sk_201 : SI LL fa_191 op_192 ro := SI_fault (by omega)
        have rl_202 : PS ss sa so fa op sa so_190 fa_191 op_192 := pr_out (by omega) (by omega) (by omega) _ _ _ _ (by omega)
        refine lv_aload_n hx hb d_M_step_117 rfl (lv_at hl 0 rfl) ?_
        refine lv_bipush (v := 123) hx hb d_M_step_118 (by decide) ?_
        have hFc := va_free (wc := (ME h g ss sa so_190 pl si fa_191 li co st rq bl te op_192 wo wz sr le tx ro)) hD hS hA [0, 1, 2, 3, 4, 5, 6] rfl
        refine va_callv (va_runV (As := [.int 123]) (rest := []) ⟨hx, hb, hml, hown, ht⟩ (c_M_take l dC dI k h g ss sa so_190 pl si fa_191 li co st rq bl te op_192 wo le wz sr tx ro 123 _ (by omega) (by omega) (by omega) (by omega) (by omega) (by omega) (by omega) (by omega) (by omega) (by omega) (by omega) (by omega) (by omega)) (cwV 1 ht (g_V k_791 k_793 k_57 k_80 k_794) rfl rfl rfl (by decide +kernel) ⟨(Nat.le_of_ble_eq_true rfl), (Nat.le_of_ble_eq_true rfl)⟩) ⟨fb_X, va_recv hK hP (ci := 4) (q0 := 0) rfl rfl, pre_X hE hS hFc hP hK hD⟩ rfl rfl hl.1 rfl (lv_room (Nat.le_of_ble_eq_true rfl)) d_M_step_120 ⟨(Nat.le_of_ble_eq_true rfl), (Nat.le_of_ble_eq_true rfl)⟩) hS (fun q _ h9 => hFc q h9) hFc (fun u_211 t H locs het hvm hw hB hz1 hk1 hS => ?_)
        obtain ⟨sa_203, so_204, pl_205, fa_206, op_207, si_208, le_209, tx_210⟩ := u_211
        try dsimp only at hw
        obtain ⟨p_213, p_214, p_215, p_216, p_217, p_218, p_219, p_220, p_221, p_222, p_223⟩ := hw
        obtain ⟨hP1, hK1, hD1⟩ := hB
        rw [het] at hP1
        have hP : va_P (dC, dI) cls (ME h g ss sa_203 so_204 pl_205 si_208 fa_206 li co st rq bl te op_207 wo wz sr le_209 tx_210 ro) H := hP1
        have hD : va_D A (ME h g ss sa_203 so_204 pl_205 si_208 fa_206 li co st rq bl te op_207 wo wz sr le_209 tx_210 ro) := hD1.weaken (fun _ _ _ h9 => hFc _ h9)
        have sk_224 : SI LL fa_206 op_207 ro := SI_pr sk_201 p_222.pr
        have rl_225 := uTT rl_202.pt p_222.pt
        refine lv_aload_n hx hb d_M_step_123 rfl (lv_at hl 0 rfl) ?_
        refine lv_aload_n hx hb d_M_step_124 rfl (lv_at hl 0 rfl) ?_
        refine va_get (D := (dC, dI)) (ci := 4) (v := .int bl) (C := "SieveDeskModel") (T := F_M) (N := 19) hx hb ht i_M hown hK hP 0 rfl rfl 15 (by decide) (ht _ k_642) (fun _ h9 => h9) rfl d_M_step_125 ?_
        refine lv_iconst (v := 1) hx hb d_M_step_128 (by decide) ?_
        refine lv_iadd hx hb d_M_step_129 ?_
        have e_226 : Int32.toInt (bl + 1) = (Int32.toInt bl) + 1 := i_add rfl (show Int32.toInt 1 = 1 by decide) (by omega) (by omega)
        refine va_put (D := (dC, dI)) (ci := 4) (v := .int (bl + 1)) (ty := .int) (C := "SieveDeskModel") (T := F_M) (N := 19) hx hb ht i_M ty_M ty_M_ok n_M hown hK hP hD hS 0 rfl rfl 15 (by decide) (ht _ k_642) (fun _ h9 => h9) rfl (ty_M_ok 15 (by decide)) rfl rfl (Nat.le_of_ble_eq_true rfl) d_M_step_130 (fun H locs hP hD hS => ?_)
        have hP : va_P (dC, dI) cls (ME h g ss sa_203 so_204 pl_205 si_208 fa_206 li co st rq (bl + 1) te op_207 wo wz sr le_209 tx_210 ro) H := hP
        have hD : va_D A (ME h g ss sa_203 so_204 pl_205 si_208 fa_206 li co st rq (bl + 1) te op_207 wo wz sr le_209 tx_210 ro) := hD
        refine lv_aload_n hx hb d_M_step_133 rfl (lv_at hl 0 rfl) ?_
        refine lv_iconst (v := 1) hx hb d_M_step_134 (by decide) ?_
        have sl_227 := SI_op sk_224
        try simp only [List.length_cons, List.length_nil] at sl_227
        have hFc := va_free (wc := (ME h g ss sa_203 so_204 pl_205 si_208 fa_206 li co st rq (bl + 1) te op_207 wo wz sr le_209 tx_210 ro)) hD hS hA [0, 1, 2, 3, 4, 5, 6] rfl
        refine va_callv (va_runV (As := [.int 1]) (rest := []) ⟨hx, hb, hml, hown, ht⟩ (c_M_push l dC dI k h g ss sa_203 so_204 pl_205 si_208 fa_206 li co st rq (bl + 1) te op_207 wo le_209 wz sr tx_210 ro 1 _ (by omega) (by omega) (by omega) (by omega)) (cwV 1 ht (g_V k_795 k_797 k_58 k_80 k_798) rfl rfl rfl (by decide +kernel) ⟨(Nat.le_of_ble_eq_true rfl), (Nat.le_of_ble_eq_true rfl)⟩) ⟨fb_X, va_recv hK hP (ci := 4) (q0 := 0) rfl rfl, pre_X hE hS hFc hP hK hD⟩ rfl rfl hl.1 rfl (lv_room (Nat.le_of_ble_eq_true rfl)) d_M_step_135 ⟨(Nat.le_of_ble_eq_true rfl), (Nat.le_of_ble_eq_true rfl)⟩) hS (fun q _ h9 => hFc q h9) hFc (fun u_230 t H locs het hvm hw hB hz1 hk1 hS => ?_)
        obtain ⟨op_228, ro_229⟩ := u_230
        try dsimp only at hw
        obtain ⟨p_232, p_233⟩ := hw
        obtain ⟨hP1, hK1, hD1⟩ := hB
        rw [het] at hP1
        have hP : va_P (dC, dI) cls (ME h g ss sa_203 so_204 pl_205 si_208 fa_206 li co st rq (bl + 1) te op_228 wo wz sr le_209 tx_210 ro_229) H := hP1
        have hD : va_D A (ME h g ss sa_203 so_204 pl_205 si_208 fa_206 li co st rq (bl + 1) te op_228 wo wz sr le_209 tx_210 ro_229) := hD1.weaken (fun _ _ _ h9 => hFc _ h9)
        have sk_234 : SI (1 :: LL) fa_206 op_228 ro_229 := SI_push (x := 1) sk_224 (fun _ => wfp.re v_16 (by decide) pr2_21) p_233
        exact fin  (sa_203, so_204, pl_205, fa_206, op_228, si_208, le_209, tx_210, st, rq, co, ro_229, (1 :: LL), te, (bl + 1)) _ _ _ ls d_M_step_138 ⟨(by (try dsimp only); omega), (by (try dsimp only); omega), (by (try dsimp only); omega), (by (try dsimp only); omega), (by (try dsimp only); omega), (by (try dsimp only); omega), (by (try dsimp only); omega), (by (try dsimp only); omega), (by (try dsimp only); omega), sk_234, (by (try dsimp only); have y9 := PT.yd rl_225 (by (try dsimp only); omega); (try simp only [List.length_cons]); omega), (by (try dsimp only); have h19 : List.count 1 (1 :: LL) = List.count 1 LL + 1 := (by simp [List.count_cons]); have h69 : List.count 6 (1 :: LL) = List.count 6 LL + 0 := (by simp [List.count_cons]); omega)⟩ hP hD hS
  · have hx1 : List.count 1 (3 :: LL) = List.count 1 LL + 0 := by simp [List.count_cons]
    have hx6 : List.count 6 (3 :: LL) = List.count 6 LL + 0 := by simp [List.count_cons]
    have hxl : (3 :: LL).length = LL.length + 1 := rfl
    have hl : lv_has ls 2 [(0, .ref (h 0)), (1, .int 3)] := hl
    refine lv_ev (show nI 3 = 3 from rfl) ?_
    refine lv_tableIn (off := 138) (tgt := 139) hx hb d_M_step_1 (by decide) (by decide) (by decide) (by decide) ?_
    refine lv_aload_n hx hb d_M_step_139 rfl (lv_at hl 0 rfl) ?_
    refine lv_iconst (v := 2) hx hb d_M_step_140 (by decide) ?_
    have hc_2 : Int32.toInt 2 = 2 := by decide
    have hFc := va_free (wc := (ME h g ss sa so pl si fa li co st rq bl te op wo wz sr le tx ro)) hD hS hA [0, 1, 2, 3, 4, 5, 6] rfl
    refine va_calli (va_runV (As := [.int 2]) (rest := []) ⟨hx, hb, hml, hown, ht⟩ (c_M_isWord l dC dI k h g ss sa so pl si fa li co st rq bl te op wo le wz sr tx ro 2 _ (by omega) (by omega) (by omega) (by omega) ) (cwV 1 ht (g_V k_767 k_769 k_51 k_80 k_770) rfl rfl rfl (by decide +kernel) ⟨(Nat.le_of_ble_eq_true rfl), (Nat.le_of_ble_eq_true rfl)⟩) ⟨fb_X, va_recv hK hP (ci := 4) (q0 := 0) rfl rfl, pre_X hE hS hFc hP hK hD⟩ rfl rfl hl.1 rfl (lv_room (Nat.le_of_ble_eq_true rfl)) d_M_step_141 ⟨(Nat.le_of_ble_eq_true rfl), (Nat.le_of_ble_eq_true rfl)⟩) hS (fun q _ h9 => hFc q h9) hFc (fun r_236 u_235 t H locs het hvm hw hB hz1 hk1 hS => ?_)
    obtain ⟨p_237, p_238⟩ := hw
    obtain ⟨hP1, hK1, hD1⟩ := hB
    rw [het] at hP1
    have hP : va_P (dC, dI) cls (ME h g ss sa so pl si fa li co st rq bl te op wo wz sr le tx ro) H := hP1
    have hD : va_D A (ME h g ss sa so pl si fa li co st rq bl te op wo wz sr le tx ro) := hD1.weaken (fun _ _ _ h9 => hFc _ h9)
    refine lv_if_eq (tgt := 169) hx hb d_M_step_144 (by decide) (fun c_239 => ?_) (fun c_239 => ?_)
    · have dc_239 := i_eq c_239 rfl (show Int32.toInt 0 = 0 by decide)
      refine lv_aload_n hx hb d_M_step_169 rfl (lv_at hl 0 rfl) ?_
      refine lv_iconst (v := 3) hx hb d_M_step_170 (by decide) ?_
      have hc_3 : Int32.toInt 3 = 3 := by decide
      have hFc := va_free (wc := (ME h g ss sa so pl si fa li co st rq bl te op wo wz sr le tx ro)) hD hS hA [0, 1, 2, 3, 4, 5, 6] rfl
      refine va_calli (va_runV (As := [.int 3]) (rest := []) ⟨hx, hb, hml, hown, ht⟩ (c_M_isWord l dC dI k h g ss sa so pl si fa li co st rq bl te op wo le wz sr tx ro 3 _ (by omega) (by omega) (by omega) (by omega) ) (cwV 1 ht (g_V k_767 k_769 k_51 k_80 k_770) rfl rfl rfl (by decide +kernel) ⟨(Nat.le_of_ble_eq_true rfl), (Nat.le_of_ble_eq_true rfl)⟩) ⟨fb_X, va_recv hK hP (ci := 4) (q0 := 0) rfl rfl, pre_X hE hS hFc hP hK hD⟩ rfl rfl hl.1 rfl (lv_room (Nat.le_of_ble_eq_true rfl)) d_M_step_171 ⟨(Nat.le_of_ble_eq_true rfl), (Nat.le_of_ble_eq_true rfl)⟩) hS (fun q _ h9 => hFc q h9) hFc (fun r_241 u_240 t H locs het hvm hw hB hz1 hk1 hS => ?_)
      obtain ⟨p_242, p_243⟩ := hw
      obtain ⟨hP1, hK1, hD1⟩ := hB
      rw [het] at hP1
      have hP : va_P (dC, dI) cls (ME h g ss sa so pl si fa li co st rq bl te op wo wz sr le tx ro) H := hP1
      have hD : va_D A (ME h g ss sa so pl si fa li co st rq bl te op wo wz sr le tx ro) := hD1.weaken (fun _ _ _ h9 => hFc _ h9)
      refine lv_if_eq (tgt := 186) hx hb d_M_step_174 (by decide) (fun c_244 => ?_) (fun c_244 => ?_)
      · have dc_244 := i_eq c_244 rfl (show Int32.toInt 0 = 0 by decide)
        exact fin  (sa, so, pl, fa, op, si, le, tx, st, rq, co, ro, LL, te, bl) _ _ _ ls d_M_step_186 ⟨(by (try dsimp only); omega), (by (try dsimp only); omega), (by (try dsimp only); omega), (by (try dsimp only); omega), (by (try dsimp only); omega), (by (try dsimp only); omega), (by (try dsimp only); omega), (by (try dsimp only); omega), (by (try dsimp only); omega), v_13, (by (try dsimp only); (try simp only [List.length_cons]); omega), (by (try dsimp only); have h19 : List.count 1 LL = List.count 1 LL + 0 := (by simp [List.count_cons]); have h69 : List.count 6 LL = List.count 6 LL + 0 := (by simp [List.count_cons]); omega)⟩ hP hD hS
      · have dc_244 := i_ne c_244 rfl (show Int32.toInt 0 = 0 by decide)
        refine lv_aload_n hx hb d_M_step_177 rfl (lv_at hl 0 rfl) ?_
        have hFc := va_free (wc := (ME h g ss sa so pl si fa li co st rq bl te op wo wz sr le tx ro)) hD hS hA [0, 1, 2, 3, 4, 5, 6] rfl
        refine va_callv (va_runV (As := []) (rest := []) ⟨hx, hb, hml, hown, ht⟩ (c_M_next l dC dI k h g ss sa so pl si fa li co st rq bl te op wo le wz sr tx ro  _ (by omega) (by omega) (by omega) (by omega) (by omega) (by omega) (by omega) (by omega) (by omega) (by omega) (by omega)) (cwV 0 ht (g_V k_694 k_696 k_37 k_80 k_697) rfl rfl rfl (by decide +kernel) ⟨(Nat.le_of_ble_eq_true rfl), (Nat.le_of_ble_eq_true rfl)⟩) ⟨fb_X, va_recv hK hP (ci := 4) (q0 := 0) rfl rfl, pre_X hE hS hFc hP hK hD⟩ rfl rfl hl.1 rfl (lv_room (Nat.le_of_ble_eq_true rfl)) d_M_step_178 ⟨(Nat.le_of_ble_eq_true rfl), (Nat.le_of_ble_eq_true rfl)⟩) hS (fun q _ h9 => hFc q h9) hFc (fun u_253 t H locs het hvm hw hB hz1 hk1 hS => ?_)
        obtain ⟨sa_245, so_246, pl_247, fa_248, op_249, si_250, le_251, tx_252⟩ := u_253
        try dsimp only at hw
        obtain ⟨p_255, p_256, p_257, p_258, p_259, p_260, p_261, p_262, p_263, p_264, p_265⟩ := hw
        obtain ⟨hP1, hK1, hD1⟩ := hB
        rw [het] at hP1
        have hP : va_P (dC, dI) cls (ME h g ss sa_245 so_246 pl_247 si_250 fa_248 li co st rq bl te op_249 wo wz sr le_251 tx_252 ro) H := hP1
        have hD : va_D A (ME h g ss sa_245 so_246 pl_247 si_250 fa_248 li co st rq bl te op_249 wo wz sr le_251 tx_252 ro) := hD1.weaken (fun _ _ _ h9 => hFc _ h9)
        have sk_266 : SI LL fa_248 op_249 ro := SI_pr v_13 p_264
        have rl_267 := p_265.resolve_right (by omega)
        refine lv_aload_n hx hb d_M_step_181 rfl (lv_at hl 0 rfl) ?_
        refine lv_iconst (v := 2) hx hb d_M_step_182 (by decide) ?_
        have sl_268 := SI_op sk_266
        try simp only [List.length_cons, List.length_nil] at sl_268
        have hFc := va_free (wc := (ME h g ss sa_245 so_246 pl_247 si_250 fa_248 li co st rq bl te op_249 wo wz sr le_251 tx_252 ro)) hD hS hA [0, 1, 2, 3, 4, 5, 6] rfl
        refine va_callv (va_runV (As := [.int 2]) (rest := []) ⟨hx, hb, hml, hown, ht⟩ (c_M_push l dC dI k h g ss sa_245 so_246 pl_247 si_250 fa_248 li co st rq bl te op_249 wo le_251 wz sr tx_252 ro 2 _ (by omega) (by omega) (by omega) (by omega)) (cwV 1 ht (g_V k_795 k_797 k_58 k_80 k_798) rfl rfl rfl (by decide +kernel) ⟨(Nat.le_of_ble_eq_true rfl), (Nat.le_of_ble_eq_true rfl)⟩) ⟨fb_X, va_recv hK hP (ci := 4) (q0 := 0) rfl rfl, pre_X hE hS hFc hP hK hD⟩ rfl rfl hl.1 rfl (lv_room (Nat.le_of_ble_eq_true rfl)) d_M_step_183 ⟨(Nat.le_of_ble_eq_true rfl), (Nat.le_of_ble_eq_true rfl)⟩) hS (fun q _ h9 => hFc q h9) hFc (fun u_271 t H locs het hvm hw hB hz1 hk1 hS => ?_)
        obtain ⟨op_269, ro_270⟩ := u_271
        try dsimp only at hw
        obtain ⟨p_273, p_274⟩ := hw
        obtain ⟨hP1, hK1, hD1⟩ := hB
        rw [het] at hP1
        have hP : va_P (dC, dI) cls (ME h g ss sa_245 so_246 pl_247 si_250 fa_248 li co st rq bl te op_269 wo wz sr le_251 tx_252 ro_270) H := hP1
        have hD : va_D A (ME h g ss sa_245 so_246 pl_247 si_250 fa_248 li co st rq bl te op_269 wo wz sr le_251 tx_252 ro_270) := hD1.weaken (fun _ _ _ h9 => hFc _ h9)
        have sk_275 : SI (2 :: LL) fa_248 op_269 ro_270 := SI_push (x := 2) sk_266 (fun _ => wfp.re v_16 (by decide) pr2_32) p_274
        exact fin  (sa_245, so_246, pl_247, fa_248, op_269, si_250, le_251, tx_252, st, rq, co, ro_270, (2 :: LL), te, bl) _ _ _ ls d_M_step_186 ⟨(by (try dsimp only); omega), (by (try dsimp only); omega), (by (try dsimp only); omega), (by (try dsimp only); omega), (by (try dsimp only); omega), (by (try dsimp only); omega), (by (try dsimp only); omega), (by (try dsimp only); omega), (by (try dsimp only); omega), sk_275, (by (try dsimp only); have y9 := PT.yd rl_267.pt (by (try dsimp only); omega); (try simp only [List.length_cons]); omega), (by (try dsimp only); have h19 : List.count 1 (2 :: LL) = List.count 1 LL + 0 := (by simp [List.count_cons]); have h69 : List.count 6 (2 :: LL) = List.count 6 LL + 0 := (by simp [List.count_cons]); omega)⟩ hP hD hS
    · have dc_239 := i_ne c_239 rfl (show Int32.toInt 0 = 0 by decide)
      refine lv_aload_n hx hb d_M_step_147 rfl (lv_at hl 0 rfl) ?_
      have hFc := va_free (wc := (ME h g ss sa so pl si fa li co st rq bl te op wo wz sr le tx ro)) hD hS hA [0, 1, 2, 3, 4, 5, 6] rfl
      refine va_callv (va_runV (As := []) (rest := []) ⟨hx, hb, hml, hown, ht⟩ (c_M_next l dC dI k h g ss sa so pl si fa li co st rq bl te op wo le wz sr tx ro  _ (by omega) (by omega) (by omega) (by omega) (by omega) (by omega) (by omega) (by omega) (by omega) (by omega) (by omega)) (cwV 0 ht (g_V k_694 k_696 k_37 k_80 k_697) rfl rfl rfl (by decide +kernel) ⟨(Nat.le_of_ble_eq_true rfl), (Nat.le_of_ble_eq_true rfl)⟩) ⟨fb_X, va_recv hK hP (ci := 4) (q0 := 0) rfl rfl, pre_X hE hS hFc hP hK hD⟩ rfl rfl hl.1 rfl (lv_room (Nat.le_of_ble_eq_true rfl)) d_M_step_148 ⟨(Nat.le_of_ble_eq_true rfl), (Nat.le_of_ble_eq_true rfl)⟩) hS (fun q _ h9 => hFc q h9) hFc (fun u_284 t H locs het hvm hw hB hz1 hk1 hS => ?_)
      obtain ⟨sa_276, so_277, pl_278, fa_279, op_280, si_281, le_282, tx_283⟩ := u_284
      try dsimp only at hw
      obtain ⟨p_286, p_287, p_288, p_289, p_290, p_291, p_292, p_293, p_294, p_295, p_296⟩ := hw
      obtain ⟨hP1, hK1, hD1⟩ := hB
      rw [het] at hP1
      have hP : va_P (dC, dI) cls (ME h g ss sa_276 so_277 pl_278 si_281 fa_279 li co st rq bl te op_280 wo wz sr le_282 tx_283 ro) H := hP1
      have hD : va_D A (ME h g ss sa_276 so_277 pl_278 si_281 fa_279 li co st rq bl te op_280 wo wz sr le_282 tx_283 ro) := hD1.weaken (fun _ _ _ h9 => hFc _ h9)
      have sk_297 : SI LL fa_279 op_280 ro := SI_pr v_13 p_295
      have rl_298 := p_296.resolve_right (by omega)
      refine lv_aload_n hx hb d_M_step_151 rfl (lv_at hl 0 rfl) ?_
      refine lv_iconst (v := 3) hx hb d_M_step_152 (by decide) ?_
      have sl_299 := SI_op sk_297
      try simp only [List.length_cons, List.length_nil] at sl_299
      have hFc := va_free (wc := (ME h g ss sa_276 so_277 pl_278 si_281 fa_279 li co st rq bl te op_280 wo wz sr le_282 tx_283 ro)) hD hS hA [0, 1, 2, 3, 4, 5, 6] rfl
      refine va_callv (va_runV (As := [.int 3]) (rest := []) ⟨hx, hb, hml, hown, ht⟩ (c_M_push l dC dI k h g ss sa_276 so_277 pl_278 si_281 fa_279 li co st rq bl te op_280 wo le_282 wz sr tx_283 ro 3 _ (by omega) (by omega) (by omega) (by omega)) (cwV 1 ht (g_V k_795 k_797 k_58 k_80 k_798) rfl rfl rfl (by decide +kernel) ⟨(Nat.le_of_ble_eq_true rfl), (Nat.le_of_ble_eq_true rfl)⟩) ⟨fb_X, va_recv hK hP (ci := 4) (q0 := 0) rfl rfl, pre_X hE hS hFc hP hK hD⟩ rfl rfl hl.1 rfl (lv_room (Nat.le_of_ble_eq_true rfl)) d_M_step_153 ⟨(Nat.le_of_ble_eq_true rfl), (Nat.le_of_ble_eq_true rfl)⟩) hS (fun q _ h9 => hFc q h9) hFc (fun u_302 t H locs het hvm hw hB hz1 hk1 hS => ?_)
      obtain ⟨op_300, ro_301⟩ := u_302
      try dsimp only at hw
      obtain ⟨p_304, p_305⟩ := hw
      obtain ⟨hP1, hK1, hD1⟩ := hB
      rw [het] at hP1
      have hP : va_P (dC, dI) cls (ME h g ss sa_276 so_277 pl_278 si_281 fa_279 li co st rq bl te op_300 wo wz sr le_282 tx_283 ro_301) H := hP1
      have hD : va_D A (ME h g ss sa_276 so_277 pl_278 si_281 fa_279 li co st rq bl te op_300 wo wz sr le_282 tx_283 ro_301) := hD1.weaken (fun _ _ _ h9 => hFc _ h9)
      have sk_306 : SI (3 :: LL) fa_279 op_300 ro_301 := SI_push (x := 3) sk_297 (fun _ => v_16) p_305
      refine lv_aload_n hx hb d_M_step_156 rfl (lv_at hl 0 rfl) ?_
      refine lv_iconst (v := 2) hx hb d_M_step_157 (by decide) ?_
      have sl_307 := SI_op sk_306
      try simp only [List.length_cons, List.length_nil] at sl_307
      have hFc := va_free (wc := (ME h g ss sa_276 so_277 pl_278 si_281 fa_279 li co st rq bl te op_300 wo wz sr le_282 tx_283 ro_301)) hD hS hA [0, 1, 2, 3, 4, 5, 6] rfl
      refine va_callv (va_runV (As := [.int 2]) (rest := []) ⟨hx, hb, hml, hown, ht⟩ (c_M_push l dC dI k h g ss sa_276 so_277 pl_278 si_281 fa_279 li co st rq bl te op_300 wo le_282 wz sr tx_283 ro_301 2 _ (by omega) (by omega) (by omega) (by omega)) (cwV 1 ht (g_V k_795 k_797 k_58 k_80 k_798) rfl rfl rfl (by decide +kernel) ⟨(Nat.le_of_ble_eq_true rfl), (Nat.le_of_ble_eq_true rfl)⟩) ⟨fb_X, va_recv hK hP (ci := 4) (q0 := 0) rfl rfl, pre_X hE hS hFc hP hK hD⟩ rfl rfl hl.1 rfl (lv_room (Nat.le_of_ble_eq_true rfl)) d_M_step_158 ⟨(Nat.le_of_ble_eq_true rfl), (Nat.le_of_ble_eq_true rfl)⟩) hS (fun q _ h9 => hFc q h9) hFc (fun u_310 t H locs het hvm hw hB hz1 hk1 hS => ?_)
      obtain ⟨op_308, ro_309⟩ := u_310
      try dsimp only at hw
      obtain ⟨p_312, p_313⟩ := hw
      obtain ⟨hP1, hK1, hD1⟩ := hB
      rw [het] at hP1
      have hP : va_P (dC, dI) cls (ME h g ss sa_276 so_277 pl_278 si_281 fa_279 li co st rq bl te op_308 wo wz sr le_282 tx_283 ro_309) H := hP1
      have hD : va_D A (ME h g ss sa_276 so_277 pl_278 si_281 fa_279 li co st rq bl te op_308 wo wz sr le_282 tx_283 ro_309) := hD1.weaken (fun _ _ _ h9 => hFc _ h9)
      have sk_314 : SI (2 :: (3 :: LL)) fa_279 op_308 ro_309 := SI_push (x := 2) sk_306 (fun hl9 => ⟨rfl, (sk_306 hl9).1⟩) p_313
      refine lv_aload_n hx hb d_M_step_161 rfl (lv_at hl 0 rfl) ?_
      refine lv_iconst (v := 4) hx hb d_M_step_162 (by decide) ?_
      have sl_315 := SI_op sk_314
      try simp only [List.length_cons, List.length_nil] at sl_315
      have hFc := va_free (wc := (ME h g ss sa_276 so_277 pl_278 si_281 fa_279 li co st rq bl te op_308 wo wz sr le_282 tx_283 ro_309)) hD hS hA [0, 1, 2, 3, 4, 5, 6] rfl
      refine va_callv (va_runV (As := [.int 4]) (rest := []) ⟨hx, hb, hml, hown, ht⟩ (c_M_push l dC dI k h g ss sa_276 so_277 pl_278 si_281 fa_279 li co st rq bl te op_308 wo le_282 wz sr tx_283 ro_309 4 _ (by omega) (by omega) (by omega) (by omega)) (cwV 1 ht (g_V k_795 k_797 k_58 k_80 k_798) rfl rfl rfl (by decide +kernel) ⟨(Nat.le_of_ble_eq_true rfl), (Nat.le_of_ble_eq_true rfl)⟩) ⟨fb_X, va_recv hK hP (ci := 4) (q0 := 0) rfl rfl, pre_X hE hS hFc hP hK hD⟩ rfl rfl hl.1 rfl (lv_room (Nat.le_of_ble_eq_true rfl)) d_M_step_163 ⟨(Nat.le_of_ble_eq_true rfl), (Nat.le_of_ble_eq_true rfl)⟩) hS (fun q _ h9 => hFc q h9) hFc (fun u_318 t H locs het hvm hw hB hz1 hk1 hS => ?_)
      obtain ⟨op_316, ro_317⟩ := u_318
      try dsimp only at hw
      obtain ⟨p_320, p_321⟩ := hw
      obtain ⟨hP1, hK1, hD1⟩ := hB
      rw [het] at hP1
      have hP : va_P (dC, dI) cls (ME h g ss sa_276 so_277 pl_278 si_281 fa_279 li co st rq bl te op_316 wo wz sr le_282 tx_283 ro_317) H := hP1
      have hD : va_D A (ME h g ss sa_276 so_277 pl_278 si_281 fa_279 li co st rq bl te op_316 wo wz sr le_282 tx_283 ro_317) := hD1.weaken (fun _ _ _ h9 => hFc _ h9)
      have sk_322 : SI (4 :: (2 :: (3 :: LL))) fa_279 op_316 ro_317 := SI_push (x := 4) sk_314 (fun hl9 => ⟨rfl, (sk_314 hl9).1⟩) p_321
      refine lv_goto (tgt := 186) hx hb d_M_step_166 (by decide) ?_
      exact fin  (sa_276, so_277, pl_278, fa_279, op_316, si_281, le_282, tx_283, st, rq, co, ro_317, (4 :: (2 :: (3 :: LL))), te, bl) _ _ _ ls d_M_step_186 ⟨(by (try dsimp only); omega), (by (try dsimp only); omega), (by (try dsimp only); omega), (by (try dsimp only); omega), (by (try dsimp only); omega), (by (try dsimp only); omega), (by (try dsimp only); omega), (by (try dsimp only); omega), (by (try dsimp only); omega), sk_322, (by (try dsimp only); have y9 := PT.yd rl_298.pt (by (try dsimp only); omega); (try simp only [List.length_cons]); omega), (by (try dsimp only); have h19 : List.count 1 (4 :: (2 :: (3 :: LL))) = List.count 1 LL + 0 := (by simp [List.count_cons]); have h69 : List.count 6 (4 :: (2 :: (3 :: LL))) = List.count 6 LL + 0 := (by simp [List.count_cons]); omega)⟩ hP hD hS
  · have hx1 : List.count 1 (4 :: LL) = List.count 1 LL + 0 := by simp [List.count_cons]
    have hx6 : List.count 6 (4 :: LL) = List.count 6 LL + 0 := by simp [List.count_cons]
    have hxl : (4 :: LL).length = LL.length + 1 := rfl
    have hl : lv_has ls 2 [(0, .ref (h 0)), (1, .int 4)] := hl
    refine lv_ev (show nI 4 = 4 from rfl) ?_
    refine lv_tableIn (off := 186) (tgt := 187) hx hb d_M_step_1 (by decide) (by decide) (by decide) (by decide) ?_
    refine lv_aload_n hx hb d_M_step_187 rfl (lv_at hl 0 rfl) ?_
    have hFc := va_free (wc := (ME h g ss sa so pl si fa li co st rq bl te op wo wz sr le tx ro)) hD hS hA [0, 1, 2, 3, 4, 5, 6] rfl
    refine va_callv (va_runV (As := []) (rest := []) ⟨hx, hb, hml, hown, ht⟩ (c_M_test l dC dI k h g ss sa so pl si fa li co st rq bl te op wo le wz sr tx ro LL  _ (by omega) (by omega) (by omega) (by omega) (by omega) (by omega) (by omega) (by omega) (by omega) (by omega) (by omega) v_13 (by omega) (by omega) (by omega) (by omega) (wfp.re v_16 (by decide) pr2_46)) (cwV 0 ht (g_V k_846 k_848 k_70 k_80 k_849) rfl rfl rfl (by decide +kernel) ⟨(Nat.le_of_ble_eq_true rfl), (Nat.le_of_ble_eq_true rfl)⟩) ⟨fb_X, va_recv hK hP (ci := 4) (q0 := 0) rfl rfl, pre_X hE hS hFc hP hK hD⟩ rfl rfl hl.1 rfl (lv_room (Nat.le_of_ble_eq_true rfl)) d_M_step_188 ⟨(Nat.le_of_ble_eq_true rfl), (Nat.le_of_ble_eq_true rfl)⟩) hS (fun q _ h9 => hFc q h9) hFc (fun u_337 t H locs het hvm hw hB hz1 hk1 hS => ?_)
    obtain ⟨sa_323, so_324, pl_325, fa_326, op_327, si_328, le_329, tx_330, st_331, rq_332, co_333, ro_334, LL_335, te_336⟩ := u_337
    try dsimp only at hw
    obtain ⟨p_339, p_340, p_341, p_342, p_343, p_344, p_345, p_346, p_347, p_348, p_349, p_350, p_351, p_352⟩ := hw
    obtain ⟨hP1, hK1, hD1⟩ := hB
    rw [het] at hP1
    have hP : va_P (dC, dI) cls (ME h g ss sa_323 so_324 pl_325 si_328 fa_326 li co_333 st_331 rq_332 bl te_336 op_327 wo wz sr le_329 tx_330 ro_334) H := hP1
    have hD : va_D A (ME h g ss sa_323 so_324 pl_325 si_328 fa_326 li co_333 st_331 rq_332 bl te_336 op_327 wo wz sr le_329 tx_330 ro_334) := hD1.weaken (fun _ _ _ h9 => hFc _ h9)
    exact fin  (sa_323, so_324, pl_325, fa_326, op_327, si_328, le_329, tx_330, st_331, rq_332, co_333, ro_334, LL_335, te_336, bl) _ _ _ ls d_M_step_191 ⟨(by (try dsimp only); omega), (by (try dsimp only); omega), (by (try dsimp only); omega), (by (try dsimp only); omega), (by (try dsimp only); omega), (by (try dsimp only); omega), (by (try dsimp only); omega), (by (try dsimp only); omega), (by (try dsimp only); omega), p_348, (by (try dsimp only); have y9 := PT.yd p_349 (by (try dsimp only); omega); (try simp only [List.length_cons]); omega), (by (try dsimp only); have h19 : List.count 1 LL_335 = List.count 1 LL_335 + 0 := (by simp [List.count_cons]); have h69 : List.count 6 LL_335 = List.count 6 LL_335 + 0 := (by simp [List.count_cons]); omega)⟩ hP hD hS
  · have hx1 : List.count 1 (5 :: LL) = List.count 1 LL + 0 := by simp [List.count_cons]
    have hx6 : List.count 6 (5 :: LL) = List.count 6 LL + 0 := by simp [List.count_cons]
    have hxl : (5 :: LL).length = LL.length + 1 := rfl
    have hl : lv_has ls 2 [(0, .ref (h 0)), (1, .int 5)] := hl
    refine lv_ev (show nI 5 = 5 from rfl) ?_
    refine lv_tableIn (off := 191) (tgt := 192) hx hb d_M_step_1 (by decide) (by decide) (by decide) (by decide) ?_
    refine lv_aload_n hx hb d_M_step_192 rfl (lv_at hl 0 rfl) ?_
    refine lv_bipush (v := 44) hx hb d_M_step_193 (by decide) ?_
    have hc_44 : Int32.toInt 44 = 44 := by decide
    have hFc := va_free (wc := (ME h g ss sa so pl si fa li co st rq bl te op wo wz sr le tx ro)) hD hS hA [0, 1, 2, 3, 4, 5, 6] rfl
    refine va_calli (va_runV (As := [.int 44]) (rest := []) ⟨hx, hb, hml, hown, ht⟩ (c_M_isSign l dC dI k h g ss sa so pl si fa li co st rq bl te op wo le wz sr tx ro 44 _ (by omega) (by omega) (by omega) (by omega) ) (cwV 1 ht (g_V k_779 k_781 k_54 k_80 k_782) rfl rfl rfl (by decide +kernel) ⟨(Nat.le_of_ble_eq_true rfl), (Nat.le_of_ble_eq_true rfl)⟩) ⟨fb_X, va_recv hK hP (ci := 4) (q0 := 0) rfl rfl, pre_X hE hS hFc hP hK hD⟩ rfl rfl hl.1 rfl (lv_room (Nat.le_of_ble_eq_true rfl)) d_M_step_195 ⟨(Nat.le_of_ble_eq_true rfl), (Nat.le_of_ble_eq_true rfl)⟩) hS (fun q _ h9 => hFc q h9) hFc (fun r_354 u_353 t H locs het hvm hw hB hz1 hk1 hS => ?_)
    obtain ⟨p_355, p_356⟩ := hw
    obtain ⟨hP1, hK1, hD1⟩ := hB
    rw [het] at hP1
    have hP : va_P (dC, dI) cls (ME h g ss sa so pl si fa li co st rq bl te op wo wz sr le tx ro) H := hP1
    have hD : va_D A (ME h g ss sa so pl si fa li co st rq bl te op wo wz sr le tx ro) := hD1.weaken (fun _ _ _ h9 => hFc _ h9)
    refine lv_if_eq (tgt := 218) hx hb d_M_step_198 (by decide) (fun c_357 => ?_) (fun c_357 => ?_)
    · have dc_357 := i_eq c_357 rfl (show Int32.toInt 0 = 0 by decide)
      refine lv_aload_n hx hb d_M_step_218 rfl (lv_at hl 0 rfl) ?_
      refine lv_bipush (v := 41) hx hb d_M_step_219 (by decide) ?_
      have hc_41 : Int32.toInt 41 = 41 := by decide
      have hFc := va_free (wc := (ME h g ss sa so pl si fa li co st rq bl te op wo wz sr le tx ro)) hD hS hA [0, 1, 2, 3, 4, 5, 6] rfl
      refine va_callv (va_runV (As := [.int 41]) (rest := []) ⟨hx, hb, hml, hown, ht⟩ (c_M_take l dC dI k h g ss sa so pl si fa li co st rq bl te op wo le wz sr tx ro 41 _ (by omega) (by omega) (by omega) (by omega) (by omega) (by omega) (by omega) (by omega) (by omega) (by omega) (by omega) (by omega) (by omega)) (cwV 1 ht (g_V k_791 k_793 k_57 k_80 k_794) rfl rfl rfl (by decide +kernel) ⟨(Nat.le_of_ble_eq_true rfl), (Nat.le_of_ble_eq_true rfl)⟩) ⟨fb_X, va_recv hK hP (ci := 4) (q0 := 0) rfl rfl, pre_X hE hS hFc hP hK hD⟩ rfl rfl hl.1 rfl (lv_room (Nat.le_of_ble_eq_true rfl)) d_M_step_221 ⟨(Nat.le_of_ble_eq_true rfl), (Nat.le_of_ble_eq_true rfl)⟩) hS (fun q _ h9 => hFc q h9) hFc (fun u_366 t H locs het hvm hw hB hz1 hk1 hS => ?_)
      obtain ⟨sa_358, so_359, pl_360, fa_361, op_362, si_363, le_364, tx_365⟩ := u_366
      try dsimp only at hw
      obtain ⟨p_368, p_369, p_370, p_371, p_372, p_373, p_374, p_375, p_376, p_377, p_378⟩ := hw
      obtain ⟨hP1, hK1, hD1⟩ := hB
      rw [het] at hP1
      have hP : va_P (dC, dI) cls (ME h g ss sa_358 so_359 pl_360 si_363 fa_361 li co st rq bl te op_362 wo wz sr le_364 tx_365 ro) H := hP1
      have hD : va_D A (ME h g ss sa_358 so_359 pl_360 si_363 fa_361 li co st rq bl te op_362 wo wz sr le_364 tx_365 ro) := hD1.weaken (fun _ _ _ h9 => hFc _ h9)
      have sk_379 : SI LL fa_361 op_362 ro := SI_pr v_13 p_377.pr
      exact fin  (sa_358, so_359, pl_360, fa_361, op_362, si_363, le_364, tx_365, st, rq, co, ro, LL, te, bl) _ _ _ ls d_M_step_224 ⟨(by (try dsimp only); omega), (by (try dsimp only); omega), (by (try dsimp only); omega), (by (try dsimp only); omega), (by (try dsimp only); omega), (by (try dsimp only); omega), (by (try dsimp only); omega), (by (try dsimp only); omega), (by (try dsimp only); omega), sk_379, (by (try dsimp only); have y9 := PT.yd p_377.pt (by (try dsimp only); omega); (try simp only [List.length_cons]); omega), (by (try dsimp only); have h19 : List.count 1 LL = List.count 1 LL + 0 := (by simp [List.count_cons]); have h69 : List.count 6 LL = List.count 6 LL + 0 := (by simp [List.count_cons]); omega)⟩ hP hD hS
    · have dc_357 := i_ne c_357 rfl (show Int32.toInt 0 = 0 by decide)
      refine lv_aload_n hx hb d_M_step_201 rfl (lv_at hl 0 rfl) ?_
      have hFc := va_free (wc := (ME h g ss sa so pl si fa li co st rq bl te op wo wz sr le tx ro)) hD hS hA [0, 1, 2, 3, 4, 5, 6] rfl
      refine va_callv (va_runV (As := []) (rest := []) ⟨hx, hb, hml, hown, ht⟩ (c_M_next l dC dI k h g ss sa so pl si fa li co st rq bl te op wo le wz sr tx ro  _ (by omega) (by omega) (by omega) (by omega) (by omega) (by omega) (by omega) (by omega) (by omega) (by omega) (by omega)) (cwV 0 ht (g_V k_694 k_696 k_37 k_80 k_697) rfl rfl rfl (by decide +kernel) ⟨(Nat.le_of_ble_eq_true rfl), (Nat.le_of_ble_eq_true rfl)⟩) ⟨fb_X, va_recv hK hP (ci := 4) (q0 := 0) rfl rfl, pre_X hE hS hFc hP hK hD⟩ rfl rfl hl.1 rfl (lv_room (Nat.le_of_ble_eq_true rfl)) d_M_step_202 ⟨(Nat.le_of_ble_eq_true rfl), (Nat.le_of_ble_eq_true rfl)⟩) hS (fun q _ h9 => hFc q h9) hFc (fun u_388 t H locs het hvm hw hB hz1 hk1 hS => ?_)
      obtain ⟨sa_380, so_381, pl_382, fa_383, op_384, si_385, le_386, tx_387⟩ := u_388
      try dsimp only at hw
      obtain ⟨p_390, p_391, p_392, p_393, p_394, p_395, p_396, p_397, p_398, p_399, p_400⟩ := hw
      obtain ⟨hP1, hK1, hD1⟩ := hB
      rw [het] at hP1
      have hP : va_P (dC, dI) cls (ME h g ss sa_380 so_381 pl_382 si_385 fa_383 li co st rq bl te op_384 wo wz sr le_386 tx_387 ro) H := hP1
      have hD : va_D A (ME h g ss sa_380 so_381 pl_382 si_385 fa_383 li co st rq bl te op_384 wo wz sr le_386 tx_387 ro) := hD1.weaken (fun _ _ _ h9 => hFc _ h9)
      have sk_401 : SI LL fa_383 op_384 ro := SI_pr v_13 p_399
      have rl_402 := p_400.resolve_right (by omega)
      refine lv_aload_n hx hb d_M_step_205 rfl (lv_at hl 0 rfl) ?_
      refine lv_iconst (v := 5) hx hb d_M_step_206 (by decide) ?_
      have sl_403 := SI_op sk_401
      try simp only [List.length_cons, List.length_nil] at sl_403
      have hFc := va_free (wc := (ME h g ss sa_380 so_381 pl_382 si_385 fa_383 li co st rq bl te op_384 wo wz sr le_386 tx_387 ro)) hD hS hA [0, 1, 2, 3, 4, 5, 6] rfl
      refine va_callv (va_runV (As := [.int 5]) (rest := []) ⟨hx, hb, hml, hown, ht⟩ (c_M_push l dC dI k h g ss sa_380 so_381 pl_382 si_385 fa_383 li co st rq bl te op_384 wo le_386 wz sr tx_387 ro 5 _ (by omega) (by omega) (by omega) (by omega)) (cwV 1 ht (g_V k_795 k_797 k_58 k_80 k_798) rfl rfl rfl (by decide +kernel) ⟨(Nat.le_of_ble_eq_true rfl), (Nat.le_of_ble_eq_true rfl)⟩) ⟨fb_X, va_recv hK hP (ci := 4) (q0 := 0) rfl rfl, pre_X hE hS hFc hP hK hD⟩ rfl rfl hl.1 rfl (lv_room (Nat.le_of_ble_eq_true rfl)) d_M_step_207 ⟨(Nat.le_of_ble_eq_true rfl), (Nat.le_of_ble_eq_true rfl)⟩) hS (fun q _ h9 => hFc q h9) hFc (fun u_406 t H locs het hvm hw hB hz1 hk1 hS => ?_)
      obtain ⟨op_404, ro_405⟩ := u_406
      try dsimp only at hw
      obtain ⟨p_408, p_409⟩ := hw
      obtain ⟨hP1, hK1, hD1⟩ := hB
      rw [het] at hP1
      have hP : va_P (dC, dI) cls (ME h g ss sa_380 so_381 pl_382 si_385 fa_383 li co st rq bl te op_404 wo wz sr le_386 tx_387 ro_405) H := hP1
      have hD : va_D A (ME h g ss sa_380 so_381 pl_382 si_385 fa_383 li co st rq bl te op_404 wo wz sr le_386 tx_387 ro_405) := hD1.weaken (fun _ _ _ h9 => hFc _ h9)
      have sk_410 : SI (5 :: LL) fa_383 op_404 ro_405 := SI_push (x := 5) sk_401 (fun _ => v_16) p_409
      refine lv_aload_n hx hb d_M_step_210 rfl (lv_at hl 0 rfl) ?_
      refine lv_iconst (v := 4) hx hb d_M_step_211 (by decide) ?_
      have sl_411 := SI_op sk_410
      try simp only [List.length_cons, List.length_nil] at sl_411
      have hFc := va_free (wc := (ME h g ss sa_380 so_381 pl_382 si_385 fa_383 li co st rq bl te op_404 wo wz sr le_386 tx_387 ro_405)) hD hS hA [0, 1, 2, 3, 4, 5, 6] rfl
      refine va_callv (va_runV (As := [.int 4]) (rest := []) ⟨hx, hb, hml, hown, ht⟩ (c_M_push l dC dI k h g ss sa_380 so_381 pl_382 si_385 fa_383 li co st rq bl te op_404 wo le_386 wz sr tx_387 ro_405 4 _ (by omega) (by omega) (by omega) (by omega)) (cwV 1 ht (g_V k_795 k_797 k_58 k_80 k_798) rfl rfl rfl (by decide +kernel) ⟨(Nat.le_of_ble_eq_true rfl), (Nat.le_of_ble_eq_true rfl)⟩) ⟨fb_X, va_recv hK hP (ci := 4) (q0 := 0) rfl rfl, pre_X hE hS hFc hP hK hD⟩ rfl rfl hl.1 rfl (lv_room (Nat.le_of_ble_eq_true rfl)) d_M_step_212 ⟨(Nat.le_of_ble_eq_true rfl), (Nat.le_of_ble_eq_true rfl)⟩) hS (fun q _ h9 => hFc q h9) hFc (fun u_414 t H locs het hvm hw hB hz1 hk1 hS => ?_)
      obtain ⟨op_412, ro_413⟩ := u_414
      try dsimp only at hw
      obtain ⟨p_416, p_417⟩ := hw
      obtain ⟨hP1, hK1, hD1⟩ := hB
      rw [het] at hP1
      have hP : va_P (dC, dI) cls (ME h g ss sa_380 so_381 pl_382 si_385 fa_383 li co st rq bl te op_412 wo wz sr le_386 tx_387 ro_413) H := hP1
      have hD : va_D A (ME h g ss sa_380 so_381 pl_382 si_385 fa_383 li co st rq bl te op_412 wo wz sr le_386 tx_387 ro_413) := hD1.weaken (fun _ _ _ h9 => hFc _ h9)
      have sk_418 : SI (4 :: (5 :: LL)) fa_383 op_412 ro_413 := SI_push (x := 4) sk_410 (fun hl9 => ⟨rfl, (sk_410 hl9).1⟩) p_417
      refine lv_goto (tgt := 224) hx hb d_M_step_215 (by decide) ?_
      exact fin  (sa_380, so_381, pl_382, fa_383, op_412, si_385, le_386, tx_387, st, rq, co, ro_413, (4 :: (5 :: LL)), te, bl) _ _ _ ls d_M_step_224 ⟨(by (try dsimp only); omega), (by (try dsimp only); omega), (by (try dsimp only); omega), (by (try dsimp only); omega), (by (try dsimp only); omega), (by (try dsimp only); omega), (by (try dsimp only); omega), (by (try dsimp only); omega), (by (try dsimp only); omega), sk_418, (by (try dsimp only); have y9 := PT.yd rl_402.pt (by (try dsimp only); omega); (try simp only [List.length_cons]); omega), (by (try dsimp only); have h19 : List.count 1 (4 :: (5 :: LL)) = List.count 1 LL + 0 := (by simp [List.count_cons]); have h69 : List.count 6 (4 :: (5 :: LL)) = List.count 6 LL + 0 := (by simp [List.count_cons]); omega)⟩ hP hD hS
  · have hx1 : List.count 1 (6 :: LL) = List.count 1 LL + 0 := by simp [List.count_cons]
    have hx6 : List.count 6 (6 :: LL) = List.count 6 LL + 1 := by simp [List.count_cons]
    have hxl : (6 :: LL).length = LL.length + 1 := rfl
    have hl : lv_has ls 2 [(0, .ref (h 0)), (1, .int 6)] := hl
    refine lv_ev (show nI 6 = 6 from rfl) ?_
    refine lv_tableOut (tgt := 225) hx hb d_M_step_1 (by decide) (by decide) ?_
    refine lv_aload_n hx hb d_M_step_225 rfl (lv_at hl 0 rfl) ?_
    refine lv_aload_n hx hb d_M_step_226 rfl (lv_at hl 0 rfl) ?_
    refine va_get (D := (dC, dI)) (ci := 4) (v := .int te) (C := "SieveDeskModel") (T := F_M) (N := 19) hx hb ht i_M hown hK hP 0 rfl rfl 16 (by decide) (ht _ k_643) (fun _ h9 => h9) rfl d_M_step_227 ?_
    refine lv_iconst (v := 1) hx hb d_M_step_230 (by decide) ?_
    refine lv_isub hx hb d_M_step_231 ?_
    have e_419 : Int32.toInt (te - 1) = (Int32.toInt te) - 1 := i_sub rfl (show Int32.toInt 1 = 1 by decide) (by omega) (by omega)
    refine va_put (D := (dC, dI)) (ci := 4) (v := .int (te - 1)) (ty := .int) (C := "SieveDeskModel") (T := F_M) (N := 19) hx hb ht i_M ty_M ty_M_ok n_M hown hK hP hD hS 0 rfl rfl 16 (by decide) (ht _ k_643) (fun _ h9 => h9) rfl (ty_M_ok 16 (by decide)) rfl rfl (Nat.le_of_ble_eq_true rfl) d_M_step_232 (fun H locs hP hD hS => ?_)
    have hP : va_P (dC, dI) cls (ME h g ss sa so pl si fa li co st rq bl (te - 1) op wo wz sr le tx ro) H := hP
    have hD : va_D A (ME h g ss sa so pl si fa li co st rq bl (te - 1) op wo wz sr le tx ro) := hD
    exact fin  (sa, so, pl, fa, op, si, le, tx, st, rq, co, ro, LL, (te - 1), bl) _ _ _ ls d_M_step_235 ⟨(by (try dsimp only); omega), (by (try dsimp only); omega), (by (try dsimp only); omega), (by (try dsimp only); omega), (by (try dsimp only); omega), (by (try dsimp only); omega), (by (try dsimp only); omega), (by (try dsimp only); omega), (by (try dsimp only); omega), v_13, (by (try dsimp only); (try simp only [List.length_cons]); omega), (by (try dsimp only); have h19 : List.count 1 LL = List.count 1 LL + 0 := (by simp [List.count_cons]); have h69 : List.count 6 LL = List.count 6 LL + 0 := (by simp [List.count_cons]); omega)⟩ hP hD hS
set_option maxHeartbeats 4000000 in
set_option maxRecDepth 100000 in
theorem c_M_step (l : Launch) (dC : Nat → ClassId) (dI : Nat → Nat → Nat) (k : Nat → Nat) (h : Nat → Nat) (g : Nat → ClassId) (ss : Int32) (sa : Int32) (so : Int32) (pl : Int32) (si : Int32) (fa : Int32) (li : Int32) (co : Int32) (st : Int32) (rq : Int32) (bl : Int32) (te : Int32) (op : Int32) (wo : Nat → Int64) (le : Nat → Int64) (wz : Nat → Int32) (sr : Nat → Int32) (tx : Nat → Int32) (ro : Nat → Int32) (LL : List Nat) (x : Nat) (sz : Nat) (h_0 : 0 ≤ Int32.toInt ss) (h_1 : Int32.toInt ss ≤ 400) (v_0 : 0 ≤ Int32.toInt sa) (v_1 : Int32.toInt sa ≤ Int32.toInt ss) (v_2 : 0 ≤ Int32.toInt pl) (v_3 : Int32.toInt pl ≤ 400) (v_4 : -1 ≤ Int32.toInt fa) (v_5 : Int32.toInt fa ≤ 400) (v_6 : Int32.toInt fa < 0 ∨ (Int32.toInt so = 0 ∧ Int32.toInt op = 0)) (v_7 : 0 ≤ Int32.toInt si) (v_8 : Int32.toInt si ≤ 400) (v_9 : SI LL fa op ro) (v_10 : Int32.toInt fa < 0) (v_11 : LL.length ≤ 38) (v_12 : wfp (x :: LL)) (v_13 : Int32.toInt bl = List.count 1 (x :: LL)) (v_14 : List.count 1 (x :: LL) ≤ 8) (v_15 : Int32.toInt te = List.count 6 (x :: LL)) (v_16 : List.count 6 (x :: LL) ≤ 8) : Met l y_M_step (.code y_M_step b_M_step 2 none :: TT) ({ frames := 9, cells := 0, slots := 0, locals := 197 }) (va_Pc [.ref (h 0), .int (nI x)] (PX dC dI k (TM g) (ME h g ss sa so pl si fa li co st rq bl te op wo wz sr le tx ro) sz)) (va_Qv (fun u : Int32 × Int32 × Int32 × Int32 × Int32 × Int32 × (Nat → Int64) × (Nat → Int32) × Int32 × Int32 × Int32 × (Nat → Int32) × List Nat × Int32 × Int32 => 0 ≤ Int32.toInt u.1 ∧ Int32.toInt u.1 ≤ Int32.toInt ss ∧ 0 ≤ Int32.toInt u.2.2.1 ∧ Int32.toInt u.2.2.1 ≤ 400 ∧ -1 ≤ Int32.toInt u.2.2.2.1 ∧ Int32.toInt u.2.2.2.1 ≤ 400 ∧ (Int32.toInt u.2.2.2.1 < 0 ∨ (Int32.toInt u.2.1 = 0 ∧ Int32.toInt u.2.2.2.2.1 = 0)) ∧ 0 ≤ Int32.toInt u.2.2.2.2.2.1 ∧ Int32.toInt u.2.2.2.2.2.1 ≤ 400 ∧ SI u.2.2.2.2.2.2.2.2.2.2.2.2.1 u.2.2.2.1 u.2.2.2.2.1 u.2.2.2.2.2.2.2.2.2.2.2.1 ∧ 8 * YY ss u.1 u.2.1 u.2.2.2.1 + u.2.2.2.2.2.2.2.2.2.2.2.2.1.length ≤ 8 * YY ss sa so fa + LL.length ∧ (0 ≤ Int32.toInt u.2.2.2.1 ∨ (Int32.toInt u.2.2.2.2.2.2.2.2.2.2.2.2.2.2 = List.count 1 u.2.2.2.2.2.2.2.2.2.2.2.2.1 ∧ List.count 1 u.2.2.2.2.2.2.2.2.2.2.2.2.1 ≤ 8 ∧ Int32.toInt u.2.2.2.2.2.2.2.2.2.2.2.2.2.1 = List.count 6 u.2.2.2.2.2.2.2.2.2.2.2.2.1 ∧ List.count 6 u.2.2.2.2.2.2.2.2.2.2.2.2.1 ≤ 8))) (fun u t => BX dC dI (TM g) (va_A (ME h g ss sa so pl si fa li co st rq bl te op wo wz sr le tx ro) sz) (ME h g ss u.1 u.2.1 u.2.2.1 u.2.2.2.2.2.1 u.2.2.2.1 li u.2.2.2.2.2.2.2.2.2.2.1 u.2.2.2.2.2.2.2.2.1 u.2.2.2.2.2.2.2.2.2.1 u.2.2.2.2.2.2.2.2.2.2.2.2.2.2 u.2.2.2.2.2.2.2.2.2.2.2.2.2.1 u.2.2.2.2.1 wo wz sr u.2.2.2.2.2.2.1 u.2.2.2.2.2.2.2.1 u.2.2.2.2.2.2.2.2.2.2.2.1) t) (va_A (ME h g ss sa so pl si fa li co st rq bl te op wo wz sr le tx ro) sz)) 0 0 (va_A (ME h g ss sa so pl si fa li co st rq bl te op wo wz sr le tx ro) sz) := by
  refine Met.ofW (cc := b_M_step) (maxL := 2) (ret := none) (by decide) rfl ?_
  intro p e s m args below meth c s₁ B hml hv
  obtain ⟨rfl, hsz, hE, hP, hK, hD0⟩ := hv
  have hx := B.exec
  have hb := B.bytes
  have hr := B.returns
  have ht : ∀ w ∈ TT, w.before _ s = true := fun w hw => atoms_spec (ws := .code y_M_step b_M_step 2 none :: TT) B.pre w (List.mem_cons_of_mem _ hw)
  have hown : s.vm.findClass "SieveDeskModel" = some m.cls := findClass_of_methodNamed B.named
  have hlocks := B.notSynchronized
  subst hsz
  have hD := hD0.self (sz := s.heap.size)
  generalize hAe : va_A (ME h g ss sa so pl si fa li co st rq bl te op wo wz sr le tx ro) s.heap.size = A at hE hD ⊢
  have hA : ∀ q : Nat, s.heap.size ≤ q → A q := fun q h9 => by rw [← hAe]; exact Or.inr h9
  have hS : va_S A s.heap s.heap [] := va_S.rf
  have hl := lv_entry ([.ref (h 0), .int (nI x)]) (n := 2) (Nat.le_of_ble_eq_true rfl)
  rw [lg_entry_eq]
  generalize (lg_sl ([.ref (h 0), .int (nI x)]) ++ List.replicate (2 - (lg_sl ([.ref (h 0), .int (nI x)])).length) Slot.unset).toArray = ls at hl ⊢
  have hl : lv_has ls 2 [(0, .ref (h 0)), (1, .int (nI x))] := hl
  exact bd_M_step_0 (x := x) hx hb hml hown ht hE hA hK h_0 h_1 (fun u H locs pc ls hd hp hP hD hS => W.vret hx hb hr (fun t het hW => ⟨⟨u, rfl, hp, by rw [het]; exact hP, va_K.moved hW.alike hK, hD⟩, hS.F het⟩) hS.2.2 hd) sa so pl fa op si le tx st rq co ro LL te bl rfl rfl rfl rfl v_0 v_1 v_2 v_3 v_4 v_5 v_6 v_7 v_8 v_9 v_10 v_11 v_12 v_13 v_14 v_15 v_16 _ _ ls hP hD hS hl

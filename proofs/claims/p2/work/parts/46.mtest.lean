set_option maxHeartbeats 4000000 in
set_option maxRecDepth 100000 in
theorem lp_M_test_169 {p : Program} {l : Launch} {e : Env} {s : State} {m : MethodId} {args : Array Value} {below : List Frame} {meth : Method} {c : Code} {Q : State → Prop} {A : Nat → Prop} {dC : Nat → ClassId} {dI : Nat → Nat → Nat} {k h : Nat → Nat} {g : Nat → ClassId} {ss : Int32} {li : Int32} {bl : Int32} {wo : Nat → Int64} {wz : Nat → Int32} {sr : Nat → Int32} {sa0 : Int32} {so0 : Int32} {fa0 : Int32} {LL0 : List Nat} (hx : p.tables.exec = Jvm.exec) (hb : c.code = b_M_test) (hml : c.maxLocals = 2) (hown : s.vm.findClass "SieveDeskModel" = some m.cls) (ht : ∀ w ∈ TT, w.before args s = true) (hE : KE k A s s.heap) (hA : ∀ q : Nat, s.heap.size ≤ q → A q) (hK : va_K (dC, dI) cls (TM g) s)  (h_0 : 0 ≤ Int32.toInt ss) (h_1 : Int32.toInt ss ≤ 400) (fin : ∀ (u : Int32 × Int32 × Int32 × Int32 × Int32 × Int32 × (Nat → Int64) × (Nat → Int32) × Int32 × Int32 × Int32 × (Nat → Int32) × List Nat × Int32) (H : Heap) (locs : List Loc) (pc : Nat) (ls : Array Slot), decode b_M_test pc = .ok (.return_, 1) → (0 ≤ Int32.toInt u.1 ∧ Int32.toInt u.1 ≤ Int32.toInt ss ∧ 0 ≤ Int32.toInt u.2.2.1 ∧ Int32.toInt u.2.2.1 ≤ 400 ∧ -1 ≤ Int32.toInt u.2.2.2.1 ∧ Int32.toInt u.2.2.2.1 ≤ 400 ∧ (Int32.toInt u.2.2.2.1 < 0 ∨ (Int32.toInt u.2.1 = 0 ∧ Int32.toInt u.2.2.2.2.1 = 0)) ∧ 0 ≤ Int32.toInt u.2.2.2.2.2.1 ∧ Int32.toInt u.2.2.2.2.2.1 ≤ 400 ∧ SI u.2.2.2.2.2.2.2.2.2.2.2.2.1 u.2.2.2.1 u.2.2.2.2.1 u.2.2.2.2.2.2.2.2.2.2.2.1 ∧ PT ss sa0 so0 fa0 u.1 u.2.1 u.2.2.2.1 ∧ u.2.2.2.2.2.2.2.2.2.2.2.2.1.length ≤ LL0.length + 3 ∧ List.count 1 u.2.2.2.2.2.2.2.2.2.2.2.2.1 = List.count 1 LL0 ∧ (0 ≤ Int32.toInt u.2.2.2.1 ∨ (Int32.toInt u.2.2.2.2.2.2.2.2.2.2.2.2.2 = List.count 6 u.2.2.2.2.2.2.2.2.2.2.2.2.1 ∧ List.count 6 u.2.2.2.2.2.2.2.2.2.2.2.2.1 ≤ 8))) → va_P (dC, dI) cls (ME h g ss u.1 u.2.1 u.2.2.1 u.2.2.2.2.2.1 u.2.2.2.1 li u.2.2.2.2.2.2.2.2.2.2.1 u.2.2.2.2.2.2.2.2.1 u.2.2.2.2.2.2.2.2.2.1 bl u.2.2.2.2.2.2.2.2.2.2.2.2.2 u.2.2.2.2.1 wo wz sr u.2.2.2.2.2.2.1 u.2.2.2.2.2.2.2.1 u.2.2.2.2.2.2.2.2.2.2.2.1) H → va_D A (ME h g ss u.1 u.2.1 u.2.2.1 u.2.2.2.2.2.1 u.2.2.2.1 li u.2.2.2.2.2.2.2.2.2.2.1 u.2.2.2.2.2.2.2.2.1 u.2.2.2.2.2.2.2.2.2.1 bl u.2.2.2.2.2.2.2.2.2.2.2.2.2 u.2.2.2.2.1 wo wz sr u.2.2.2.2.2.2.1 u.2.2.2.2.2.2.2.1 u.2.2.2.2.2.2.2.2.2.2.2.1) → va_S A s.heap H locs → W p l e ({ frames := 7, cells := 0, slots := 0, locals := 153 } : Room) s m args below meth c H locs 0 0 Q (F0 m pc ls [])) : ∀ (w : Int32) (sa : Int32) (so : Int32) (pl : Int32) (fa : Int32) (op : Int32) (si : Int32) (le : Nat → Int64) (tx : Nat → Int32) (st : Int32) (rq : Int32) (co : Int32) (ro : Nat → Int32) (LL : List Nat) (te : Int32), PT ss sa0 so0 fa0 sa so fa → LL = LL0 → Int32.toInt te = List.count 6 LL → 0 ≤ Int32.toInt te → Int32.toInt te ≤ 7 → LL.length ≤ 40 → wfp (6 :: LL) → 0 ≤ Int32.toInt sa → Int32.toInt sa ≤ Int32.toInt ss → 0 ≤ Int32.toInt pl → Int32.toInt pl ≤ 400 → -1 ≤ Int32.toInt fa → Int32.toInt fa ≤ 400 → (Int32.toInt fa < 0 ∨ (Int32.toInt so = 0 ∧ Int32.toInt op = 0)) → 0 ≤ Int32.toInt si → Int32.toInt si ≤ 400 → SI LL fa op ro → ∀ (H : Heap) (locs : List Loc) (ls : Array Slot), va_P (dC, dI) cls (ME h g ss sa so pl si fa li co st rq bl te op wo wz sr le tx ro) H → va_D A (ME h g ss sa so pl si fa li co st rq bl te op wo wz sr le tx ro) → va_S A s.heap H locs → lv_has ls 2 [(1, .int w), (0, .ref (h 0))] → W p l e ({ frames := 7, cells := 0, slots := 0, locals := 153 } : Room) s m args below meth c H locs 0 0 Q (F0 m 169 ls []) := by
  intro w sa so pl fa op si le tx st rq co ro LL te v_0 v_1 v_2 v_3 v_4 v_5 v_6 v_7 v_8 v_9 v_10 v_11 v_12 v_13 v_14 v_15 v_16 H locs ls hP hD hS hl
  subst v_1
  refine lv_iload_n hx hb d_M_test_169 rfl (lv_at hl 0 rfl) ?_
  refine lv_bipush (v := 19) hx hb d_M_test_170 (by decide) ?_
  refine lv_icmp_ne (tgt := 205) hx hb d_M_test_172 (by decide) (fun c_1 => ?_) (fun c_1 => ?_)
  · exact fin  (sa, so, pl, fa, op, si, le, tx, st, rq, co, ro, LL, te) _ _ _ ls d_M_test_205 ⟨(by (try dsimp only); omega), (by (try dsimp only); omega), (by (try dsimp only); omega), (by (try dsimp only); omega), (by (try dsimp only); omega), (by (try dsimp only); omega), (by (try dsimp only); omega), (by (try dsimp only); omega), (by (try dsimp only); omega), v_16, v_0, (by (try dsimp only); (try simp only [List.length_cons]); omega), (by first | rfl | (simp [List.count_cons]; done)), (by (try dsimp only); have h69 : List.count 6 LL = List.count 6 LL + 0 := (by simp [List.count_cons]); omega)⟩ hP hD hS
  · refine lv_aload_n hx hb d_M_test_175 rfl (lv_at hl 1 rfl) ?_
    refine lv_iconst (v := 2) hx hb d_M_test_176 (by decide) ?_
    have hc_2 : Int32.toInt 2 = 2 := by decide
    have hFc := va_free (wc := (ME h g ss sa so pl si fa li co st rq bl te op wo wz sr le tx ro)) hD hS hA [0, 1, 2, 3, 4, 5, 6] rfl
    refine va_calli (va_runV (As := [.int 2]) (rest := []) ⟨hx, hb, hml, hown, ht⟩ (c_M_is l dC dI k h g ss sa so pl si fa li co st rq bl te op wo le wz sr tx ro 2 _ (by omega) (by omega) ) (cwV 1 ht (g_V k_771 k_773 k_52 k_80 k_774) rfl rfl rfl (by decide +kernel) ⟨(Nat.le_of_ble_eq_true rfl), (Nat.le_of_ble_eq_true rfl)⟩) ⟨fb_X, va_recv hK hP (ci := 4) (q0 := 0) rfl rfl, pre_X hE hS hFc hP hK hD⟩ rfl rfl hl.1 rfl (lv_room (Nat.le_of_ble_eq_true rfl)) d_M_test_177 ⟨(Nat.le_of_ble_eq_true rfl), (Nat.le_of_ble_eq_true rfl)⟩) hS (fun q _ h9 => hFc q h9) hFc (fun r_3 u_2 t H locs het hvm hw hB hz1 hk1 hS => ?_)
    obtain ⟨p_4, p_5⟩ := hw
    obtain ⟨hP1, hK1, hD1⟩ := hB
    rw [het] at hP1
    have hP : va_P (dC, dI) cls (ME h g ss sa so pl si fa li co st rq bl te op wo wz sr le tx ro) H := hP1
    have hD : va_D A (ME h g ss sa so pl si fa li co st rq bl te op wo wz sr le tx ro) := hD1.weaken (fun _ _ _ h9 => hFc _ h9)
    refine lv_if_eq (tgt := 193) hx hb d_M_test_180 (by decide) (fun c_6 => ?_) (fun c_6 => ?_)
    · have dc_6 := i_eq c_6 rfl (show Int32.toInt 0 = 0 by decide)
      refine lv_aload_n hx hb d_M_test_193 rfl (lv_at hl 1 rfl) ?_
      have hFc := va_free (wc := (ME h g ss sa so pl si fa li co st rq bl te op wo wz sr le tx ro)) hD hS hA [0, 1, 2, 3, 4, 5, 6] rfl
      refine va_callv (va_runV (As := []) (rest := []) ⟨hx, hb, hml, hown, ht⟩ (c_M_fail l dC dI k h g ss sa so pl si fa li co st rq bl te op wo le wz sr tx ro  _ (by omega) (by omega) (by omega) (by omega)) (cwV 0 ht (g_V k_763 k_765 k_50 k_80 k_766) rfl rfl rfl (by decide +kernel) ⟨(Nat.le_of_ble_eq_true rfl), (Nat.le_of_ble_eq_true rfl)⟩) ⟨fb_X, va_recv hK hP (ci := 4) (q0 := 0) rfl rfl, pre_X hE hS hFc hP hK hD⟩ rfl rfl hl.1 rfl (lv_room (Nat.le_of_ble_eq_true rfl)) d_M_test_194 ⟨(Nat.le_of_ble_eq_true rfl), (Nat.le_of_ble_eq_true rfl)⟩) hS (fun q _ h9 => hFc q h9) hFc (fun u_10 t H locs het hvm hw hB hz1 hk1 hS => ?_)
      obtain ⟨so_7, fa_8, op_9⟩ := u_10
      try dsimp only at hw
      obtain ⟨p_12, p_13, p_14, p_15, p_16, p_17⟩ := hw
      obtain ⟨hP1, hK1, hD1⟩ := hB
      rw [het] at hP1
      have hP : va_P (dC, dI) cls (ME h g ss sa so_7 pl si fa_8 li co st rq bl te op_9 wo wz sr le tx ro) H := hP1
      have hD : va_D A (ME h g ss sa so_7 pl si fa_8 li co st rq bl te op_9 wo wz sr le tx ro) := hD1.weaken (fun _ _ _ h9 => hFc _ h9)
      have sk_18 : SI LL fa_8 op_9 ro := SI_fault (by omega)
      have rl_19 : PS ss sa so fa op sa so_7 fa_8 op_9 := pr_out (by omega) (by omega) (by omega) _ _ _ _ (by omega)
      refine lv_aload_n hx hb d_M_test_197 rfl (lv_at hl 1 rfl) ?_
      have hFc := va_free (wc := (ME h g ss sa so_7 pl si fa_8 li co st rq bl te op_9 wo wz sr le tx ro)) hD hS hA [0, 1, 2, 3, 4, 5, 6] rfl
      refine va_callv (va_runV (As := []) (rest := []) ⟨hx, hb, hml, hown, ht⟩ (c_M_next l dC dI k h g ss sa so_7 pl si fa_8 li co st rq bl te op_9 wo le wz sr tx ro  _ (by omega) (by omega) (by omega) (by omega) (by omega) (by omega) (by omega) (by omega) (by omega) (by omega) (by omega)) (cwV 0 ht (g_V k_694 k_696 k_37 k_80 k_697) rfl rfl rfl (by decide +kernel) ⟨(Nat.le_of_ble_eq_true rfl), (Nat.le_of_ble_eq_true rfl)⟩) ⟨fb_X, va_recv hK hP (ci := 4) (q0 := 0) rfl rfl, pre_X hE hS hFc hP hK hD⟩ rfl rfl hl.1 rfl (lv_room (Nat.le_of_ble_eq_true rfl)) d_M_test_198 ⟨(Nat.le_of_ble_eq_true rfl), (Nat.le_of_ble_eq_true rfl)⟩) hS (fun q _ h9 => hFc q h9) hFc (fun u_28 t H locs het hvm hw hB hz1 hk1 hS => ?_)
      obtain ⟨sa_20, so_21, pl_22, fa_23, op_24, si_25, le_26, tx_27⟩ := u_28
      try dsimp only at hw
      obtain ⟨p_30, p_31, p_32, p_33, p_34, p_35, p_36, p_37, p_38, p_39, p_40⟩ := hw
      obtain ⟨hP1, hK1, hD1⟩ := hB
      rw [het] at hP1
      have hP : va_P (dC, dI) cls (ME h g ss sa_20 so_21 pl_22 si_25 fa_23 li co st rq bl te op_24 wo wz sr le_26 tx_27 ro) H := hP1
      have hD : va_D A (ME h g ss sa_20 so_21 pl_22 si_25 fa_23 li co st rq bl te op_24 wo wz sr le_26 tx_27 ro) := hD1.weaken (fun _ _ _ h9 => hFc _ h9)
      have sk_41 : SI LL fa_23 op_24 ro := SI_pr sk_18 p_39
      have rl_42 := p_40.resolve_right (by omega)
      have rl_43 := uTT rl_19.pt rl_42.pt
      refine lv_aload_n hx hb d_M_test_201 rfl (lv_at hl 1 rfl) ?_
      have hFc := va_free (wc := (ME h g ss sa_20 so_21 pl_22 si_25 fa_23 li co st rq bl te op_24 wo wz sr le_26 tx_27 ro)) hD hS hA [0, 1, 2, 3, 4, 5, 6] rfl
      refine va_callv (va_runV (As := []) (rest := []) ⟨hx, hb, hml, hown, ht⟩ (c_M_number l dC dI k h g ss sa_20 so_21 pl_22 si_25 fa_23 li co st rq bl te op_24 wo le_26 wz sr tx_27 ro  _ (by omega) (by omega) (by omega) (by omega) (by omega) (by omega) (by omega) (by omega) (by omega) (by omega) (by omega)) (cwV 0 ht (g_V k_842 k_844 k_69 k_80 k_845) rfl rfl rfl (by decide +kernel) ⟨(Nat.le_of_ble_eq_true rfl), (Nat.le_of_ble_eq_true rfl)⟩) ⟨fb_X, va_recv hK hP (ci := 4) (q0 := 0) rfl rfl, pre_X hE hS hFc hP hK hD⟩ rfl rfl hl.1 rfl (lv_room (Nat.le_of_ble_eq_true rfl)) d_M_test_202 ⟨(Nat.le_of_ble_eq_true rfl), (Nat.le_of_ble_eq_true rfl)⟩) hS (fun q _ h9 => hFc q h9) hFc (fun u_52 t H locs het hvm hw hB hz1 hk1 hS => ?_)
      obtain ⟨sa_44, so_45, pl_46, fa_47, op_48, si_49, le_50, tx_51⟩ := u_52
      try dsimp only at hw
      obtain ⟨p_54, p_55, p_56, p_57, p_58, p_59, p_60, p_61, p_62, p_63⟩ := hw
      obtain ⟨hP1, hK1, hD1⟩ := hB
      rw [het] at hP1
      have hP : va_P (dC, dI) cls (ME h g ss sa_44 so_45 pl_46 si_49 fa_47 li co st rq bl te op_48 wo wz sr le_50 tx_51 ro) H := hP1
      have hD : va_D A (ME h g ss sa_44 so_45 pl_46 si_49 fa_47 li co st rq bl te op_48 wo wz sr le_50 tx_51 ro) := hD1.weaken (fun _ _ _ h9 => hFc _ h9)
      have sk_64 : SI LL fa_47 op_48 ro := SI_pr sk_41 p_63.pr
      have rl_65 := uTT rl_43 p_63.pt
      exact fin  (sa_44, so_45, pl_46, fa_47, op_48, si_49, le_50, tx_51, st, rq, co, ro, LL, te) _ _ _ ls d_M_test_205 ⟨(by (try dsimp only); omega), (by (try dsimp only); omega), (by (try dsimp only); omega), (by (try dsimp only); omega), (by (try dsimp only); omega), (by (try dsimp only); omega), (by (try dsimp only); omega), (by (try dsimp only); omega), (by (try dsimp only); omega), sk_64, (uTT v_0 rl_65), (by (try dsimp only); (try simp only [List.length_cons]); omega), (by first | rfl | (simp [List.count_cons]; done)), (by (try dsimp only); have h69 : List.count 6 LL = List.count 6 LL + 0 := (by simp [List.count_cons]); omega)⟩ hP hD hS
    · have dc_6 := i_ne c_6 rfl (show Int32.toInt 0 = 0 by decide)
      refine lv_aload_n hx hb d_M_test_183 rfl (lv_at hl 1 rfl) ?_
      refine lv_bipush (v := 31) hx hb d_M_test_184 (by decide) ?_
      refine lv_iconst (v := 2) hx hb d_M_test_186 (by decide) ?_
      have hc_31 : Int32.toInt 31 = 31 := by decide
      have hFc := va_free (wc := (ME h g ss sa so pl si fa li co st rq bl te op wo wz sr le tx ro)) hD hS hA [0, 1, 2, 3, 4, 5, 6] rfl
      refine va_calli (va_runV (As := [.int 31, .int 2]) (rest := []) ⟨hx, hb, hml, hown, ht⟩ (c_M_which l dC dI k h g ss sa so pl si fa li co st rq bl te op wo le wz sr tx ro 31 2 _ (by omega) (by omega) (by omega) ) (cwV 2 ht (g_V k_738 k_740 k_45 k_80 k_741) rfl rfl rfl (by decide +kernel) ⟨(Nat.le_of_ble_eq_true rfl), (Nat.le_of_ble_eq_true rfl)⟩) ⟨fb_X, va_recv hK hP (ci := 4) (q0 := 0) rfl rfl, pre_X hE hS hFc hP hK hD⟩ rfl rfl hl.1 rfl (lv_room (Nat.le_of_ble_eq_true rfl)) d_M_test_187 ⟨(Nat.le_of_ble_eq_true rfl), (Nat.le_of_ble_eq_true rfl)⟩) hS (fun q _ h9 => hFc q h9) hFc (fun r_67 u_66 t H locs het hvm hw hB hz1 hk1 hS => ?_)
      have p_68 := hw
      obtain ⟨hP1, hK1, hD1⟩ := hB
      rw [het] at hP1
      have hP : va_P (dC, dI) cls (ME h g ss sa so pl si fa li co st rq bl te op wo wz sr le tx ro) H := hP1
      have hD : va_D A (ME h g ss sa so pl si fa li co st rq bl te op wo wz sr le tx ro) := hD1.weaken (fun _ _ _ h9 => hFc _ h9)
      refine lv_if_ge (tgt := 197) hx hb d_M_test_190 (by decide) (fun c_69 => ?_) (fun c_69 => ?_)
      · have dc_69 := i_le c_69 (show Int32.toInt 0 = 0 by decide) rfl
        refine lv_aload_n hx hb d_M_test_197 rfl (lv_at hl 1 rfl) ?_
        have hFc := va_free (wc := (ME h g ss sa so pl si fa li co st rq bl te op wo wz sr le tx ro)) hD hS hA [0, 1, 2, 3, 4, 5, 6] rfl
        refine va_callv (va_runV (As := []) (rest := []) ⟨hx, hb, hml, hown, ht⟩ (c_M_next l dC dI k h g ss sa so pl si fa li co st rq bl te op wo le wz sr tx ro  _ (by omega) (by omega) (by omega) (by omega) (by omega) (by omega) (by omega) (by omega) (by omega) (by omega) (by omega)) (cwV 0 ht (g_V k_694 k_696 k_37 k_80 k_697) rfl rfl rfl (by decide +kernel) ⟨(Nat.le_of_ble_eq_true rfl), (Nat.le_of_ble_eq_true rfl)⟩) ⟨fb_X, va_recv hK hP (ci := 4) (q0 := 0) rfl rfl, pre_X hE hS hFc hP hK hD⟩ rfl rfl hl.1 rfl (lv_room (Nat.le_of_ble_eq_true rfl)) d_M_test_198 ⟨(Nat.le_of_ble_eq_true rfl), (Nat.le_of_ble_eq_true rfl)⟩) hS (fun q _ h9 => hFc q h9) hFc (fun u_78 t H locs het hvm hw hB hz1 hk1 hS => ?_)
        obtain ⟨sa_70, so_71, pl_72, fa_73, op_74, si_75, le_76, tx_77⟩ := u_78
        try dsimp only at hw
        obtain ⟨p_80, p_81, p_82, p_83, p_84, p_85, p_86, p_87, p_88, p_89, p_90⟩ := hw
        obtain ⟨hP1, hK1, hD1⟩ := hB
        rw [het] at hP1
        have hP : va_P (dC, dI) cls (ME h g ss sa_70 so_71 pl_72 si_75 fa_73 li co st rq bl te op_74 wo wz sr le_76 tx_77 ro) H := hP1
        have hD : va_D A (ME h g ss sa_70 so_71 pl_72 si_75 fa_73 li co st rq bl te op_74 wo wz sr le_76 tx_77 ro) := hD1.weaken (fun _ _ _ h9 => hFc _ h9)
        have sk_91 : SI LL fa_73 op_74 ro := SI_pr v_16 p_89
        have rl_92 := p_90.resolve_right (by omega)
        refine lv_aload_n hx hb d_M_test_201 rfl (lv_at hl 1 rfl) ?_
        have hFc := va_free (wc := (ME h g ss sa_70 so_71 pl_72 si_75 fa_73 li co st rq bl te op_74 wo wz sr le_76 tx_77 ro)) hD hS hA [0, 1, 2, 3, 4, 5, 6] rfl
        refine va_callv (va_runV (As := []) (rest := []) ⟨hx, hb, hml, hown, ht⟩ (c_M_number l dC dI k h g ss sa_70 so_71 pl_72 si_75 fa_73 li co st rq bl te op_74 wo le_76 wz sr tx_77 ro  _ (by omega) (by omega) (by omega) (by omega) (by omega) (by omega) (by omega) (by omega) (by omega) (by omega) (by omega)) (cwV 0 ht (g_V k_842 k_844 k_69 k_80 k_845) rfl rfl rfl (by decide +kernel) ⟨(Nat.le_of_ble_eq_true rfl), (Nat.le_of_ble_eq_true rfl)⟩) ⟨fb_X, va_recv hK hP (ci := 4) (q0 := 0) rfl rfl, pre_X hE hS hFc hP hK hD⟩ rfl rfl hl.1 rfl (lv_room (Nat.le_of_ble_eq_true rfl)) d_M_test_202 ⟨(Nat.le_of_ble_eq_true rfl), (Nat.le_of_ble_eq_true rfl)⟩) hS (fun q _ h9 => hFc q h9) hFc (fun u_101 t H locs het hvm hw hB hz1 hk1 hS => ?_)
        obtain ⟨sa_93, so_94, pl_95, fa_96, op_97, si_98, le_99, tx_100⟩ := u_101
        try dsimp only at hw
        obtain ⟨p_103, p_104, p_105, p_106, p_107, p_108, p_109, p_110, p_111, p_112⟩ := hw
        obtain ⟨hP1, hK1, hD1⟩ := hB
        rw [het] at hP1
        have hP : va_P (dC, dI) cls (ME h g ss sa_93 so_94 pl_95 si_98 fa_96 li co st rq bl te op_97 wo wz sr le_99 tx_100 ro) H := hP1
        have hD : va_D A (ME h g ss sa_93 so_94 pl_95 si_98 fa_96 li co st rq bl te op_97 wo wz sr le_99 tx_100 ro) := hD1.weaken (fun _ _ _ h9 => hFc _ h9)
        have sk_113 : SI LL fa_96 op_97 ro := SI_pr sk_91 p_112.pr
        have rl_114 := uTT rl_92.pt p_112.pt
        exact fin  (sa_93, so_94, pl_95, fa_96, op_97, si_98, le_99, tx_100, st, rq, co, ro, LL, te) _ _ _ ls d_M_test_205 ⟨(by (try dsimp only); omega), (by (try dsimp only); omega), (by (try dsimp only); omega), (by (try dsimp only); omega), (by (try dsimp only); omega), (by (try dsimp only); omega), (by (try dsimp only); omega), (by (try dsimp only); omega), (by (try dsimp only); omega), sk_113, (uTT v_0 rl_114), (by (try dsimp only); (try simp only [List.length_cons]); omega), (by first | rfl | (simp [List.count_cons]; done)), (by (try dsimp only); have h69 : List.count 6 LL = List.count 6 LL + 0 := (by simp [List.count_cons]); omega)⟩ hP hD hS
      · have dc_69 := i_nle c_69 (show Int32.toInt 0 = 0 by decide) rfl
        refine lv_aload_n hx hb d_M_test_193 rfl (lv_at hl 1 rfl) ?_
        have hFc := va_free (wc := (ME h g ss sa so pl si fa li co st rq bl te op wo wz sr le tx ro)) hD hS hA [0, 1, 2, 3, 4, 5, 6] rfl
        refine va_callv (va_runV (As := []) (rest := []) ⟨hx, hb, hml, hown, ht⟩ (c_M_fail l dC dI k h g ss sa so pl si fa li co st rq bl te op wo le wz sr tx ro  _ (by omega) (by omega) (by omega) (by omega)) (cwV 0 ht (g_V k_763 k_765 k_50 k_80 k_766) rfl rfl rfl (by decide +kernel) ⟨(Nat.le_of_ble_eq_true rfl), (Nat.le_of_ble_eq_true rfl)⟩) ⟨fb_X, va_recv hK hP (ci := 4) (q0 := 0) rfl rfl, pre_X hE hS hFc hP hK hD⟩ rfl rfl hl.1 rfl (lv_room (Nat.le_of_ble_eq_true rfl)) d_M_test_194 ⟨(Nat.le_of_ble_eq_true rfl), (Nat.le_of_ble_eq_true rfl)⟩) hS (fun q _ h9 => hFc q h9) hFc (fun u_118 t H locs het hvm hw hB hz1 hk1 hS => ?_)
        obtain ⟨so_115, fa_116, op_117⟩ := u_118
        try dsimp only at hw
        obtain ⟨p_120, p_121, p_122, p_123, p_124, p_125⟩ := hw
        obtain ⟨hP1, hK1, hD1⟩ := hB
        rw [het] at hP1
        have hP : va_P (dC, dI) cls (ME h g ss sa so_115 pl si fa_116 li co st rq bl te op_117 wo wz sr le tx ro) H := hP1
        have hD : va_D A (ME h g ss sa so_115 pl si fa_116 li co st rq bl te op_117 wo wz sr le tx ro) := hD1.weaken (fun _ _ _ h9 => hFc _ h9)
        have sk_126 : SI LL fa_116 op_117 ro := SI_fault (by omega)
        have rl_127 : PS ss sa so fa op sa so_115 fa_116 op_117 := pr_out (by omega) (by omega) (by omega) _ _ _ _ (by omega)
        refine lv_aload_n hx hb d_M_test_197 rfl (lv_at hl 1 rfl) ?_
        have hFc := va_free (wc := (ME h g ss sa so_115 pl si fa_116 li co st rq bl te op_117 wo wz sr le tx ro)) hD hS hA [0, 1, 2, 3, 4, 5, 6] rfl
        refine va_callv (va_runV (As := []) (rest := []) ⟨hx, hb, hml, hown, ht⟩ (c_M_next l dC dI k h g ss sa so_115 pl si fa_116 li co st rq bl te op_117 wo le wz sr tx ro  _ (by omega) (by omega) (by omega) (by omega) (by omega) (by omega) (by omega) (by omega) (by omega) (by omega) (by omega)) (cwV 0 ht (g_V k_694 k_696 k_37 k_80 k_697) rfl rfl rfl (by decide +kernel) ⟨(Nat.le_of_ble_eq_true rfl), (Nat.le_of_ble_eq_true rfl)⟩) ⟨fb_X, va_recv hK hP (ci := 4) (q0 := 0) rfl rfl, pre_X hE hS hFc hP hK hD⟩ rfl rfl hl.1 rfl (lv_room (Nat.le_of_ble_eq_true rfl)) d_M_test_198 ⟨(Nat.le_of_ble_eq_true rfl), (Nat.le_of_ble_eq_true rfl)⟩) hS (fun q _ h9 => hFc q h9) hFc (fun u_136 t H locs het hvm hw hB hz1 hk1 hS => ?_)
        obtain ⟨sa_128, so_129, pl_130, fa_131, op_132, si_133, le_134, tx_135⟩ := u_136
        try dsimp only at hw
        obtain ⟨p_138, p_139, p_140, p_141, p_142, p_143, p_144, p_145, p_146, p_147, p_148⟩ := hw
        obtain ⟨hP1, hK1, hD1⟩ := hB
        rw [het] at hP1
        have hP : va_P (dC, dI) cls (ME h g ss sa_128 so_129 pl_130 si_133 fa_131 li co st rq bl te op_132 wo wz sr le_134 tx_135 ro) H := hP1
        have hD : va_D A (ME h g ss sa_128 so_129 pl_130 si_133 fa_131 li co st rq bl te op_132 wo wz sr le_134 tx_135 ro) := hD1.weaken (fun _ _ _ h9 => hFc _ h9)
        have sk_149 : SI LL fa_131 op_132 ro := SI_pr sk_126 p_147
        have rl_150 := p_148.resolve_right (by omega)
        have rl_151 := uTT rl_127.pt rl_150.pt
        refine lv_aload_n hx hb d_M_test_201 rfl (lv_at hl 1 rfl) ?_
        have hFc := va_free (wc := (ME h g ss sa_128 so_129 pl_130 si_133 fa_131 li co st rq bl te op_132 wo wz sr le_134 tx_135 ro)) hD hS hA [0, 1, 2, 3, 4, 5, 6] rfl
        refine va_callv (va_runV (As := []) (rest := []) ⟨hx, hb, hml, hown, ht⟩ (c_M_number l dC dI k h g ss sa_128 so_129 pl_130 si_133 fa_131 li co st rq bl te op_132 wo le_134 wz sr tx_135 ro  _ (by omega) (by omega) (by omega) (by omega) (by omega) (by omega) (by omega) (by omega) (by omega) (by omega) (by omega)) (cwV 0 ht (g_V k_842 k_844 k_69 k_80 k_845) rfl rfl rfl (by decide +kernel) ⟨(Nat.le_of_ble_eq_true rfl), (Nat.le_of_ble_eq_true rfl)⟩) ⟨fb_X, va_recv hK hP (ci := 4) (q0 := 0) rfl rfl, pre_X hE hS hFc hP hK hD⟩ rfl rfl hl.1 rfl (lv_room (Nat.le_of_ble_eq_true rfl)) d_M_test_202 ⟨(Nat.le_of_ble_eq_true rfl), (Nat.le_of_ble_eq_true rfl)⟩) hS (fun q _ h9 => hFc q h9) hFc (fun u_160 t H locs het hvm hw hB hz1 hk1 hS => ?_)
        obtain ⟨sa_152, so_153, pl_154, fa_155, op_156, si_157, le_158, tx_159⟩ := u_160
        try dsimp only at hw
        obtain ⟨p_162, p_163, p_164, p_165, p_166, p_167, p_168, p_169, p_170, p_171⟩ := hw
        obtain ⟨hP1, hK1, hD1⟩ := hB
        rw [het] at hP1
        have hP : va_P (dC, dI) cls (ME h g ss sa_152 so_153 pl_154 si_157 fa_155 li co st rq bl te op_156 wo wz sr le_158 tx_159 ro) H := hP1
        have hD : va_D A (ME h g ss sa_152 so_153 pl_154 si_157 fa_155 li co st rq bl te op_156 wo wz sr le_158 tx_159 ro) := hD1.weaken (fun _ _ _ h9 => hFc _ h9)
        have sk_172 : SI LL fa_155 op_156 ro := SI_pr sk_149 p_171.pr
        have rl_173 := uTT rl_151 p_171.pt
        exact fin  (sa_152, so_153, pl_154, fa_155, op_156, si_157, le_158, tx_159, st, rq, co, ro, LL, te) _ _ _ ls d_M_test_205 ⟨(by (try dsimp only); omega), (by (try dsimp only); omega), (by (try dsimp only); omega), (by (try dsimp only); omega), (by (try dsimp only); omega), (by (try dsimp only); omega), (by (try dsimp only); omega), (by (try dsimp only); omega), (by (try dsimp only); omega), sk_172, (uTT v_0 rl_173), (by (try dsimp only); (try simp only [List.length_cons]); omega), (by first | rfl | (simp [List.count_cons]; done)), (by (try dsimp only); have h69 : List.count 6 LL = List.count 6 LL + 0 := (by simp [List.count_cons]); omega)⟩ hP hD hS
set_option maxHeartbeats 4000000 in
set_option maxRecDepth 100000 in
theorem lp_M_test_158 {p : Program} {l : Launch} {e : Env} {s : State} {m : MethodId} {args : Array Value} {below : List Frame} {meth : Method} {c : Code} {Q : State → Prop} {A : Nat → Prop} {dC : Nat → ClassId} {dI : Nat → Nat → Nat} {k h : Nat → Nat} {g : Nat → ClassId} {ss : Int32} {li : Int32} {bl : Int32} {wo : Nat → Int64} {wz : Nat → Int32} {sr : Nat → Int32} {sa0 : Int32} {so0 : Int32} {fa0 : Int32} {LL0 : List Nat} (hx : p.tables.exec = Jvm.exec) (hb : c.code = b_M_test) (hml : c.maxLocals = 2) (hown : s.vm.findClass "SieveDeskModel" = some m.cls) (ht : ∀ w ∈ TT, w.before args s = true) (hE : KE k A s s.heap) (hA : ∀ q : Nat, s.heap.size ≤ q → A q) (hK : va_K (dC, dI) cls (TM g) s)  (h_0 : 0 ≤ Int32.toInt ss) (h_1 : Int32.toInt ss ≤ 400) (fin : ∀ (u : Int32 × Int32 × Int32 × Int32 × Int32 × Int32 × (Nat → Int64) × (Nat → Int32) × Int32 × Int32 × Int32 × (Nat → Int32) × List Nat × Int32) (H : Heap) (locs : List Loc) (pc : Nat) (ls : Array Slot), decode b_M_test pc = .ok (.return_, 1) → (0 ≤ Int32.toInt u.1 ∧ Int32.toInt u.1 ≤ Int32.toInt ss ∧ 0 ≤ Int32.toInt u.2.2.1 ∧ Int32.toInt u.2.2.1 ≤ 400 ∧ -1 ≤ Int32.toInt u.2.2.2.1 ∧ Int32.toInt u.2.2.2.1 ≤ 400 ∧ (Int32.toInt u.2.2.2.1 < 0 ∨ (Int32.toInt u.2.1 = 0 ∧ Int32.toInt u.2.2.2.2.1 = 0)) ∧ 0 ≤ Int32.toInt u.2.2.2.2.2.1 ∧ Int32.toInt u.2.2.2.2.2.1 ≤ 400 ∧ SI u.2.2.2.2.2.2.2.2.2.2.2.2.1 u.2.2.2.1 u.2.2.2.2.1 u.2.2.2.2.2.2.2.2.2.2.2.1 ∧ PT ss sa0 so0 fa0 u.1 u.2.1 u.2.2.2.1 ∧ u.2.2.2.2.2.2.2.2.2.2.2.2.1.length ≤ LL0.length + 3 ∧ List.count 1 u.2.2.2.2.2.2.2.2.2.2.2.2.1 = List.count 1 LL0 ∧ (0 ≤ Int32.toInt u.2.2.2.1 ∨ (Int32.toInt u.2.2.2.2.2.2.2.2.2.2.2.2.2 = List.count 6 u.2.2.2.2.2.2.2.2.2.2.2.2.1 ∧ List.count 6 u.2.2.2.2.2.2.2.2.2.2.2.2.1 ≤ 8))) → va_P (dC, dI) cls (ME h g ss u.1 u.2.1 u.2.2.1 u.2.2.2.2.2.1 u.2.2.2.1 li u.2.2.2.2.2.2.2.2.2.2.1 u.2.2.2.2.2.2.2.2.1 u.2.2.2.2.2.2.2.2.2.1 bl u.2.2.2.2.2.2.2.2.2.2.2.2.2 u.2.2.2.2.1 wo wz sr u.2.2.2.2.2.2.1 u.2.2.2.2.2.2.2.1 u.2.2.2.2.2.2.2.2.2.2.2.1) H → va_D A (ME h g ss u.1 u.2.1 u.2.2.1 u.2.2.2.2.2.1 u.2.2.2.1 li u.2.2.2.2.2.2.2.2.2.2.1 u.2.2.2.2.2.2.2.2.1 u.2.2.2.2.2.2.2.2.2.1 bl u.2.2.2.2.2.2.2.2.2.2.2.2.2 u.2.2.2.2.1 wo wz sr u.2.2.2.2.2.2.1 u.2.2.2.2.2.2.2.1 u.2.2.2.2.2.2.2.2.2.2.2.1) → va_S A s.heap H locs → W p l e ({ frames := 7, cells := 0, slots := 0, locals := 153 } : Room) s m args below meth c H locs 0 0 Q (F0 m pc ls [])) : ∀ (w : Int32) (sa : Int32) (so : Int32) (pl : Int32) (fa : Int32) (op : Int32) (si : Int32) (le : Nat → Int64) (tx : Nat → Int32) (st : Int32) (rq : Int32) (co : Int32) (ro : Nat → Int32) (LL : List Nat) (te : Int32), PT ss sa0 so0 fa0 sa so fa → LL = LL0 → Int32.toInt te = List.count 6 LL → 0 ≤ Int32.toInt te → Int32.toInt te ≤ 7 → LL.length ≤ 40 → wfp (6 :: LL) → 0 ≤ Int32.toInt sa → Int32.toInt sa ≤ Int32.toInt ss → 0 ≤ Int32.toInt pl → Int32.toInt pl ≤ 400 → -1 ≤ Int32.toInt fa → Int32.toInt fa ≤ 400 → (Int32.toInt fa < 0 ∨ (Int32.toInt so = 0 ∧ Int32.toInt op = 0)) → 0 ≤ Int32.toInt si → Int32.toInt si ≤ 400 → SI LL fa op ro → ∀ (H : Heap) (locs : List Loc) (ls : Array Slot), va_P (dC, dI) cls (ME h g ss sa so pl si fa li co st rq bl te op wo wz sr le tx ro) H → va_D A (ME h g ss sa so pl si fa li co st rq bl te op wo wz sr le tx ro) → va_S A s.heap H locs → lv_has ls 2 [(1, .int w), (0, .ref (h 0))] → W p l e ({ frames := 7, cells := 0, slots := 0, locals := 153 } : Room) s m args below meth c H locs 0 0 Q (F0 m 158 ls []) := by
  intro w sa so pl fa op si le tx st rq co ro LL te v_0 v_1 v_2 v_3 v_4 v_5 v_6 v_7 v_8 v_9 v_10 v_11 v_12 v_13 v_14 v_15 v_16 H locs ls hP hD hS hl
  subst v_1
  refine lv_iload_n hx hb d_M_test_158 rfl (lv_at hl 0 rfl) ?_
  refine lv_bipush (v := 19) hx hb d_M_test_159 (by decide) ?_
  refine lv_icmp_ge (tgt := 169) hx hb d_M_test_161 (by decide) (fun c_174 => ?_) (fun c_174 => ?_)
  · exact lp_M_test_169 (sa0 := sa0) (so0 := so0) (fa0 := fa0) (LL0 := LL) hx hb hml hown ht hE hA hK h_0 h_1 fin w sa so pl fa op si le tx st rq co ro LL te v_0 rfl (by omega) (by omega) (by omega) (by omega) v_6 (by omega) (by omega) (by omega) (by omega) (by omega) (by omega) (by omega) (by omega) (by omega) v_16 _ _ ls hP hD hS (lv_sub hl [0, 1] rfl)
  · refine lv_aload_n hx hb d_M_test_164 rfl (lv_at hl 1 rfl) ?_
    refine lv_iconst (v := 0) hx hb d_M_test_165 (by decide) ?_
    have hc_0 : Int32.toInt 0 = 0 := by decide
    have hFc := va_free (wc := (ME h g ss sa so pl si fa li co st rq bl te op wo wz sr le tx ro)) hD hS hA [0, 1, 2, 3, 4, 5, 6] rfl
    refine va_callv (va_runV (As := [.int 0]) (rest := []) ⟨hx, hb, hml, hown, ht⟩ (c_M_list l dC dI k h g ss sa so pl si fa li co st rq bl te op wo le wz sr tx ro 0 _ (by omega) (by omega) (by omega) (by omega) (by omega) (by omega) (by omega) (by omega) (by omega) (by omega) (by omega)) (cwV 1 ht (g_V k_775 k_777 k_53 k_80 k_778) rfl rfl rfl (by decide +kernel) ⟨(Nat.le_of_ble_eq_true rfl), (Nat.le_of_ble_eq_true rfl)⟩) ⟨fb_X, va_recv hK hP (ci := 4) (q0 := 0) rfl rfl, pre_X hE hS hFc hP hK hD⟩ rfl rfl hl.1 rfl (lv_room (Nat.le_of_ble_eq_true rfl)) d_M_test_166 ⟨(Nat.le_of_ble_eq_true rfl), (Nat.le_of_ble_eq_true rfl)⟩) hS (fun q _ h9 => hFc q h9) hFc (fun u_185 t H locs het hvm hw hB hz1 hk1 hS => ?_)
    obtain ⟨sa_175, so_176, pl_177, fa_178, op_179, si_180, le_181, tx_182, st_183, rq_184⟩ := u_185
    try dsimp only at hw
    obtain ⟨p_187, p_188, p_189, p_190, p_191, p_192, p_193, p_194, p_195, p_196⟩ := hw
    obtain ⟨hP1, hK1, hD1⟩ := hB
    rw [het] at hP1
    have hP : va_P (dC, dI) cls (ME h g ss sa_175 so_176 pl_177 si_180 fa_178 li co st_183 rq_184 bl te op_179 wo wz sr le_181 tx_182 ro) H := hP1
    have hD : va_D A (ME h g ss sa_175 so_176 pl_177 si_180 fa_178 li co st_183 rq_184 bl te op_179 wo wz sr le_181 tx_182 ro) := hD1.weaken (fun _ _ _ h9 => hFc _ h9)
    have sk_197 : SI LL fa_178 op_179 ro := SI_pr v_16 p_196.pr
    exact lp_M_test_169 (sa0 := sa0) (so0 := so0) (fa0 := fa0) (LL0 := LL) hx hb hml hown ht hE hA hK h_0 h_1 fin w sa_175 so_176 pl_177 fa_178 op_179 si_180 le_181 tx_182 st_183 rq_184 co ro LL te (uTT v_0 p_196.pt) rfl (by omega) (by omega) (by omega) (by omega) v_6 (by omega) (by omega) (by omega) (by omega) (by omega) (by omega) (by omega) (by omega) (by omega) sk_197 _ _ ls hP hD hS (lv_sub hl [0, 1] rfl)
set_option maxHeartbeats 4000000 in
set_option maxRecDepth 100000 in
theorem lp_M_test_147 {p : Program} {l : Launch} {e : Env} {s : State} {m : MethodId} {args : Array Value} {below : List Frame} {meth : Method} {c : Code} {Q : State → Prop} {A : Nat → Prop} {dC : Nat → ClassId} {dI : Nat → Nat → Nat} {k h : Nat → Nat} {g : Nat → ClassId} {ss : Int32} {li : Int32} {bl : Int32} {wo : Nat → Int64} {wz : Nat → Int32} {sr : Nat → Int32} {sa0 : Int32} {so0 : Int32} {fa0 : Int32} {LL0 : List Nat} (hx : p.tables.exec = Jvm.exec) (hb : c.code = b_M_test) (hml : c.maxLocals = 2) (hown : s.vm.findClass "SieveDeskModel" = some m.cls) (ht : ∀ w ∈ TT, w.before args s = true) (hE : KE k A s s.heap) (hA : ∀ q : Nat, s.heap.size ≤ q → A q) (hK : va_K (dC, dI) cls (TM g) s)  (h_0 : 0 ≤ Int32.toInt ss) (h_1 : Int32.toInt ss ≤ 400) (fin : ∀ (u : Int32 × Int32 × Int32 × Int32 × Int32 × Int32 × (Nat → Int64) × (Nat → Int32) × Int32 × Int32 × Int32 × (Nat → Int32) × List Nat × Int32) (H : Heap) (locs : List Loc) (pc : Nat) (ls : Array Slot), decode b_M_test pc = .ok (.return_, 1) → (0 ≤ Int32.toInt u.1 ∧ Int32.toInt u.1 ≤ Int32.toInt ss ∧ 0 ≤ Int32.toInt u.2.2.1 ∧ Int32.toInt u.2.2.1 ≤ 400 ∧ -1 ≤ Int32.toInt u.2.2.2.1 ∧ Int32.toInt u.2.2.2.1 ≤ 400 ∧ (Int32.toInt u.2.2.2.1 < 0 ∨ (Int32.toInt u.2.1 = 0 ∧ Int32.toInt u.2.2.2.2.1 = 0)) ∧ 0 ≤ Int32.toInt u.2.2.2.2.2.1 ∧ Int32.toInt u.2.2.2.2.2.1 ≤ 400 ∧ SI u.2.2.2.2.2.2.2.2.2.2.2.2.1 u.2.2.2.1 u.2.2.2.2.1 u.2.2.2.2.2.2.2.2.2.2.2.1 ∧ PT ss sa0 so0 fa0 u.1 u.2.1 u.2.2.2.1 ∧ u.2.2.2.2.2.2.2.2.2.2.2.2.1.length ≤ LL0.length + 3 ∧ List.count 1 u.2.2.2.2.2.2.2.2.2.2.2.2.1 = List.count 1 LL0 ∧ (0 ≤ Int32.toInt u.2.2.2.1 ∨ (Int32.toInt u.2.2.2.2.2.2.2.2.2.2.2.2.2 = List.count 6 u.2.2.2.2.2.2.2.2.2.2.2.2.1 ∧ List.count 6 u.2.2.2.2.2.2.2.2.2.2.2.2.1 ≤ 8))) → va_P (dC, dI) cls (ME h g ss u.1 u.2.1 u.2.2.1 u.2.2.2.2.2.1 u.2.2.2.1 li u.2.2.2.2.2.2.2.2.2.2.1 u.2.2.2.2.2.2.2.2.1 u.2.2.2.2.2.2.2.2.2.1 bl u.2.2.2.2.2.2.2.2.2.2.2.2.2 u.2.2.2.2.1 wo wz sr u.2.2.2.2.2.2.1 u.2.2.2.2.2.2.2.1 u.2.2.2.2.2.2.2.2.2.2.2.1) H → va_D A (ME h g ss u.1 u.2.1 u.2.2.1 u.2.2.2.2.2.1 u.2.2.2.1 li u.2.2.2.2.2.2.2.2.2.2.1 u.2.2.2.2.2.2.2.2.1 u.2.2.2.2.2.2.2.2.2.1 bl u.2.2.2.2.2.2.2.2.2.2.2.2.2 u.2.2.2.2.1 wo wz sr u.2.2.2.2.2.2.1 u.2.2.2.2.2.2.2.1 u.2.2.2.2.2.2.2.2.2.2.2.1) → va_S A s.heap H locs → W p l e ({ frames := 7, cells := 0, slots := 0, locals := 153 } : Room) s m args below meth c H locs 0 0 Q (F0 m pc ls [])) : ∀ (w : Int32) (sa : Int32) (so : Int32) (pl : Int32) (fa : Int32) (op : Int32) (si : Int32) (le : Nat → Int64) (tx : Nat → Int32) (st : Int32) (rq : Int32) (co : Int32) (ro : Nat → Int32) (LL : List Nat) (te : Int32), PT ss sa0 so0 fa0 sa so fa → LL = LL0 → Int32.toInt te = List.count 6 LL → 0 ≤ Int32.toInt te → Int32.toInt te ≤ 7 → LL.length ≤ 40 → wfp (6 :: LL) → 0 ≤ Int32.toInt sa → Int32.toInt sa ≤ Int32.toInt ss → 0 ≤ Int32.toInt pl → Int32.toInt pl ≤ 400 → -1 ≤ Int32.toInt fa → Int32.toInt fa ≤ 400 → (Int32.toInt fa < 0 ∨ (Int32.toInt so = 0 ∧ Int32.toInt op = 0)) → 0 ≤ Int32.toInt si → Int32.toInt si ≤ 400 → SI LL fa op ro → ∀ (H : Heap) (locs : List Loc) (ls : Array Slot), va_P (dC, dI) cls (ME h g ss sa so pl si fa li co st rq bl te op wo wz sr le tx ro) H → va_D A (ME h g ss sa so pl si fa li co st rq bl te op wo wz sr le tx ro) → va_S A s.heap H locs → lv_has ls 2 [(1, .int w), (0, .ref (h 0))] → W p l e ({ frames := 7, cells := 0, slots := 0, locals := 153 } : Room) s m args below meth c H locs 0 0 Q (F0 m 147 ls []) := by
  intro w sa so pl fa op si le tx st rq co ro LL te v_0 v_1 v_2 v_3 v_4 v_5 v_6 v_7 v_8 v_9 v_10 v_11 v_12 v_13 v_14 v_15 v_16 H locs ls hP hD hS hl
  subst v_1
  refine lv_iload_n hx hb d_M_test_147 rfl (lv_at hl 0 rfl) ?_
  refine lv_bipush (v := 17) hx hb d_M_test_148 (by decide) ?_
  refine lv_icmp_ge (tgt := 158) hx hb d_M_test_150 (by decide) (fun c_198 => ?_) (fun c_198 => ?_)
  · exact lp_M_test_158 (sa0 := sa0) (so0 := so0) (fa0 := fa0) (LL0 := LL) hx hb hml hown ht hE hA hK h_0 h_1 fin w sa so pl fa op si le tx st rq co ro LL te v_0 rfl (by omega) (by omega) (by omega) (by omega) v_6 (by omega) (by omega) (by omega) (by omega) (by omega) (by omega) (by omega) (by omega) (by omega) v_16 _ _ ls hP hD hS (lv_sub hl [0, 1] rfl)
  · refine lv_aload_n hx hb d_M_test_153 rfl (lv_at hl 1 rfl) ?_
    refine lv_iconst (v := 0) hx hb d_M_test_154 (by decide) ?_
    have hc_0 : Int32.toInt 0 = 0 := by decide
    have hFc := va_free (wc := (ME h g ss sa so pl si fa li co st rq bl te op wo wz sr le tx ro)) hD hS hA [0, 1, 2, 3, 4, 5, 6] rfl
    refine va_callv (va_runV (As := [.int 0]) (rest := []) ⟨hx, hb, hml, hown, ht⟩ (c_M_list l dC dI k h g ss sa so pl si fa li co st rq bl te op wo le wz sr tx ro 0 _ (by omega) (by omega) (by omega) (by omega) (by omega) (by omega) (by omega) (by omega) (by omega) (by omega) (by omega)) (cwV 1 ht (g_V k_775 k_777 k_53 k_80 k_778) rfl rfl rfl (by decide +kernel) ⟨(Nat.le_of_ble_eq_true rfl), (Nat.le_of_ble_eq_true rfl)⟩) ⟨fb_X, va_recv hK hP (ci := 4) (q0 := 0) rfl rfl, pre_X hE hS hFc hP hK hD⟩ rfl rfl hl.1 rfl (lv_room (Nat.le_of_ble_eq_true rfl)) d_M_test_155 ⟨(Nat.le_of_ble_eq_true rfl), (Nat.le_of_ble_eq_true rfl)⟩) hS (fun q _ h9 => hFc q h9) hFc (fun u_209 t H locs het hvm hw hB hz1 hk1 hS => ?_)
    obtain ⟨sa_199, so_200, pl_201, fa_202, op_203, si_204, le_205, tx_206, st_207, rq_208⟩ := u_209
    try dsimp only at hw
    obtain ⟨p_211, p_212, p_213, p_214, p_215, p_216, p_217, p_218, p_219, p_220⟩ := hw
    obtain ⟨hP1, hK1, hD1⟩ := hB
    rw [het] at hP1
    have hP : va_P (dC, dI) cls (ME h g ss sa_199 so_200 pl_201 si_204 fa_202 li co st_207 rq_208 bl te op_203 wo wz sr le_205 tx_206 ro) H := hP1
    have hD : va_D A (ME h g ss sa_199 so_200 pl_201 si_204 fa_202 li co st_207 rq_208 bl te op_203 wo wz sr le_205 tx_206 ro) := hD1.weaken (fun _ _ _ h9 => hFc _ h9)
    have sk_221 : SI LL fa_202 op_203 ro := SI_pr v_16 p_220.pr
    exact lp_M_test_158 (sa0 := sa0) (so0 := so0) (fa0 := fa0) (LL0 := LL) hx hb hml hown ht hE hA hK h_0 h_1 fin w sa_199 so_200 pl_201 fa_202 op_203 si_204 le_205 tx_206 st_207 rq_208 co ro LL te (uTT v_0 p_220.pt) rfl (by omega) (by omega) (by omega) (by omega) v_6 (by omega) (by omega) (by omega) (by omega) (by omega) (by omega) (by omega) (by omega) (by omega) sk_221 _ _ ls hP hD hS (lv_sub hl [0, 1] rfl)
set_option maxHeartbeats 4000000 in
set_option maxRecDepth 100000 in
theorem lp_M_test_69 {p : Program} {l : Launch} {e : Env} {s : State} {m : MethodId} {args : Array Value} {below : List Frame} {meth : Method} {c : Code} {Q : State → Prop} {A : Nat → Prop} {dC : Nat → ClassId} {dI : Nat → Nat → Nat} {k h : Nat → Nat} {g : Nat → ClassId} {ss : Int32} {li : Int32} {bl : Int32} {wo : Nat → Int64} {wz : Nat → Int32} {sr : Nat → Int32} {sa0 : Int32} {so0 : Int32} {fa0 : Int32} {LL0 : List Nat} (hx : p.tables.exec = Jvm.exec) (hb : c.code = b_M_test) (hml : c.maxLocals = 2) (hown : s.vm.findClass "SieveDeskModel" = some m.cls) (ht : ∀ w ∈ TT, w.before args s = true) (hE : KE k A s s.heap) (hA : ∀ q : Nat, s.heap.size ≤ q → A q) (hK : va_K (dC, dI) cls (TM g) s)  (h_0 : 0 ≤ Int32.toInt ss) (h_1 : Int32.toInt ss ≤ 400) (fin : ∀ (u : Int32 × Int32 × Int32 × Int32 × Int32 × Int32 × (Nat → Int64) × (Nat → Int32) × Int32 × Int32 × Int32 × (Nat → Int32) × List Nat × Int32) (H : Heap) (locs : List Loc) (pc : Nat) (ls : Array Slot), decode b_M_test pc = .ok (.return_, 1) → (0 ≤ Int32.toInt u.1 ∧ Int32.toInt u.1 ≤ Int32.toInt ss ∧ 0 ≤ Int32.toInt u.2.2.1 ∧ Int32.toInt u.2.2.1 ≤ 400 ∧ -1 ≤ Int32.toInt u.2.2.2.1 ∧ Int32.toInt u.2.2.2.1 ≤ 400 ∧ (Int32.toInt u.2.2.2.1 < 0 ∨ (Int32.toInt u.2.1 = 0 ∧ Int32.toInt u.2.2.2.2.1 = 0)) ∧ 0 ≤ Int32.toInt u.2.2.2.2.2.1 ∧ Int32.toInt u.2.2.2.2.2.1 ≤ 400 ∧ SI u.2.2.2.2.2.2.2.2.2.2.2.2.1 u.2.2.2.1 u.2.2.2.2.1 u.2.2.2.2.2.2.2.2.2.2.2.1 ∧ PT ss sa0 so0 fa0 u.1 u.2.1 u.2.2.2.1 ∧ u.2.2.2.2.2.2.2.2.2.2.2.2.1.length ≤ LL0.length + 3 ∧ List.count 1 u.2.2.2.2.2.2.2.2.2.2.2.2.1 = List.count 1 LL0 ∧ (0 ≤ Int32.toInt u.2.2.2.1 ∨ (Int32.toInt u.2.2.2.2.2.2.2.2.2.2.2.2.2 = List.count 6 u.2.2.2.2.2.2.2.2.2.2.2.2.1 ∧ List.count 6 u.2.2.2.2.2.2.2.2.2.2.2.2.1 ≤ 8))) → va_P (dC, dI) cls (ME h g ss u.1 u.2.1 u.2.2.1 u.2.2.2.2.2.1 u.2.2.2.1 li u.2.2.2.2.2.2.2.2.2.2.1 u.2.2.2.2.2.2.2.2.1 u.2.2.2.2.2.2.2.2.2.1 bl u.2.2.2.2.2.2.2.2.2.2.2.2.2 u.2.2.2.2.1 wo wz sr u.2.2.2.2.2.2.1 u.2.2.2.2.2.2.2.1 u.2.2.2.2.2.2.2.2.2.2.2.1) H → va_D A (ME h g ss u.1 u.2.1 u.2.2.1 u.2.2.2.2.2.1 u.2.2.2.1 li u.2.2.2.2.2.2.2.2.2.2.1 u.2.2.2.2.2.2.2.2.1 u.2.2.2.2.2.2.2.2.2.1 bl u.2.2.2.2.2.2.2.2.2.2.2.2.2 u.2.2.2.2.1 wo wz sr u.2.2.2.2.2.2.1 u.2.2.2.2.2.2.2.1 u.2.2.2.2.2.2.2.2.2.2.2.1) → va_S A s.heap H locs → W p l e ({ frames := 7, cells := 0, slots := 0, locals := 153 } : Room) s m args below meth c H locs 0 0 Q (F0 m pc ls [])) : ∀ (w : Int32) (sa : Int32) (so : Int32) (pl : Int32) (fa : Int32) (op : Int32) (si : Int32) (le : Nat → Int64) (tx : Nat → Int32) (st : Int32) (rq : Int32) (co : Int32) (ro : Nat → Int32) (LL : List Nat) (te : Int32), PT ss sa0 so0 fa0 sa so fa → LL = LL0 → Int32.toInt te = List.count 6 LL → 0 ≤ Int32.toInt te → Int32.toInt te ≤ 7 → LL.length ≤ 40 → wfp (6 :: LL) → 0 ≤ Int32.toInt sa → Int32.toInt sa ≤ Int32.toInt ss → 0 ≤ Int32.toInt pl → Int32.toInt pl ≤ 400 → -1 ≤ Int32.toInt fa → Int32.toInt fa ≤ 400 → (Int32.toInt fa < 0 ∨ (Int32.toInt so = 0 ∧ Int32.toInt op = 0)) → 0 ≤ Int32.toInt si → Int32.toInt si ≤ 400 → SI LL fa op ro → ∀ (H : Heap) (locs : List Loc) (ls : Array Slot), va_P (dC, dI) cls (ME h g ss sa so pl si fa li co st rq bl te op wo wz sr le tx ro) H → va_D A (ME h g ss sa so pl si fa li co st rq bl te op wo wz sr le tx ro) → va_S A s.heap H locs → lv_has ls 2 [(1, .int w), (0, .ref (h 0))] → W p l e ({ frames := 7, cells := 0, slots := 0, locals := 153 } : Room) s m args below meth c H locs 0 0 Q (F0 m 69 ls []) := by
  intro w sa so pl fa op si le tx st rq co ro LL te v_0 v_1 v_2 v_3 v_4 v_5 v_6 v_7 v_8 v_9 v_10 v_11 v_12 v_13 v_14 v_15 v_16 H locs ls hP hD hS hl
  subst v_1
  refine lv_iload_n hx hb d_M_test_69 rfl (lv_at hl 0 rfl) ?_
  refine lv_bipush (v := 20) hx hb d_M_test_70 (by decide) ?_
  refine lv_icmp_lt (tgt := 120) hx hb d_M_test_72 (by decide) (fun c_222 => ?_) (fun c_222 => ?_)
  · refine lv_iload_n hx hb d_M_test_120 rfl (lv_at hl 0 rfl) ?_
    refine lv_bipush (v := 18) hx hb d_M_test_121 (by decide) ?_
    refine lv_icmp_ge (tgt := 147) hx hb d_M_test_123 (by decide) (fun c_223 => ?_) (fun c_223 => ?_)
    · exact lp_M_test_147 (sa0 := sa0) (so0 := so0) (fa0 := fa0) (LL0 := LL) hx hb hml hown ht hE hA hK h_0 h_1 fin w sa so pl fa op si le tx st rq co ro LL te v_0 rfl (by omega) (by omega) (by omega) (by omega) v_6 (by omega) (by omega) (by omega) (by omega) (by omega) (by omega) (by omega) (by omega) (by omega) v_16 _ _ ls hP hD hS (lv_sub hl [0, 1] rfl)
    · refine lv_aload_n hx hb d_M_test_126 rfl (lv_at hl 1 rfl) ?_
      refine lv_iload_n hx hb d_M_test_127 rfl (lv_at hl 0 rfl) ?_
      refine lv_bipush (v := 15) hx hb d_M_test_128 (by decide) ?_
      refine lv_icmp_eq (tgt := 139) hx hb d_M_test_130 (by decide) (fun c_224 => ?_) (fun c_224 => ?_)
      · refine lv_iconst (v := 1) hx hb d_M_test_139 (by decide) ?_
        refine lv_goto (tgt := 144) hx hb d_M_test_140 (by decide) ?_
        have hc_1 : Int32.toInt 1 = 1 := by decide
        have hFc := va_free (wc := (ME h g ss sa so pl si fa li co st rq bl te op wo wz sr le tx ro)) hD hS hA [0, 1, 2, 3, 4, 5, 6] rfl
        refine va_callv (va_runV (As := [.int 1]) (rest := []) ⟨hx, hb, hml, hown, ht⟩ (c_M_how l dC dI k h g ss sa so pl si fa li co st rq bl te op wo le wz sr tx ro 1 _ (by omega) (by omega) (by omega) (by omega) (by omega) (by omega) (by omega) (by omega) (by omega) (by omega) (by omega)) (cwV 1 ht (g_V k_850 k_852 k_71 k_80 k_853) rfl rfl rfl (by decide +kernel) ⟨(Nat.le_of_ble_eq_true rfl), (Nat.le_of_ble_eq_true rfl)⟩) ⟨fb_X, va_recv hK hP (ci := 4) (q0 := 0) rfl rfl, pre_X hE hS hFc hP hK hD⟩ rfl rfl hl.1 rfl (lv_room (Nat.le_of_ble_eq_true rfl)) d_M_test_144 ⟨(Nat.le_of_ble_eq_true rfl), (Nat.le_of_ble_eq_true rfl)⟩) hS (fun q _ h9 => hFc q h9) hFc (fun u_234 t H locs het hvm hw hB hz1 hk1 hS => ?_)
        obtain ⟨sa_225, so_226, pl_227, fa_228, op_229, si_230, le_231, tx_232, st_233⟩ := u_234
        try dsimp only at hw
        obtain ⟨p_236, p_237, p_238, p_239, p_240, p_241, p_242, p_243, p_244, p_245⟩ := hw
        obtain ⟨hP1, hK1, hD1⟩ := hB
        rw [het] at hP1
        have hP : va_P (dC, dI) cls (ME h g ss sa_225 so_226 pl_227 si_230 fa_228 li co st_233 rq bl te op_229 wo wz sr le_231 tx_232 ro) H := hP1
        have hD : va_D A (ME h g ss sa_225 so_226 pl_227 si_230 fa_228 li co st_233 rq bl te op_229 wo wz sr le_231 tx_232 ro) := hD1.weaken (fun _ _ _ h9 => hFc _ h9)
        have sk_246 : SI LL fa_228 op_229 ro := SI_pr v_16 p_245
        exact lp_M_test_147 (sa0 := sa0) (so0 := so0) (fa0 := fa0) (LL0 := LL) hx hb hml hown ht hE hA hK h_0 h_1 fin w sa_225 so_226 pl_227 fa_228 op_229 si_230 le_231 tx_232 st_233 rq co ro LL te (uTU v_0 p_245.pu) rfl (by omega) (by omega) (by omega) (by omega) v_6 (by omega) (by omega) (by omega) (by omega) (by omega) (by omega) (by omega) (by omega) (by omega) sk_246 _ _ ls hP hD hS (lv_sub hl [0, 1] rfl)
      · refine lv_iload_n hx hb d_M_test_133 rfl (lv_at hl 0 rfl) ?_
        refine lv_bipush (v := 16) hx hb d_M_test_134 (by decide) ?_
        refine lv_icmp_ne (tgt := 143) hx hb d_M_test_136 (by decide) (fun c_247 => ?_) (fun c_247 => ?_)
        · refine lv_iconst (v := 0) hx hb d_M_test_143 (by decide) ?_
          have hc_0 : Int32.toInt 0 = 0 := by decide
          have hFc := va_free (wc := (ME h g ss sa so pl si fa li co st rq bl te op wo wz sr le tx ro)) hD hS hA [0, 1, 2, 3, 4, 5, 6] rfl
          refine va_callv (va_runV (As := [.int 0]) (rest := []) ⟨hx, hb, hml, hown, ht⟩ (c_M_how l dC dI k h g ss sa so pl si fa li co st rq bl te op wo le wz sr tx ro 0 _ (by omega) (by omega) (by omega) (by omega) (by omega) (by omega) (by omega) (by omega) (by omega) (by omega) (by omega)) (cwV 1 ht (g_V k_850 k_852 k_71 k_80 k_853) rfl rfl rfl (by decide +kernel) ⟨(Nat.le_of_ble_eq_true rfl), (Nat.le_of_ble_eq_true rfl)⟩) ⟨fb_X, va_recv hK hP (ci := 4) (q0 := 0) rfl rfl, pre_X hE hS hFc hP hK hD⟩ rfl rfl hl.1 rfl (lv_room (Nat.le_of_ble_eq_true rfl)) d_M_test_144 ⟨(Nat.le_of_ble_eq_true rfl), (Nat.le_of_ble_eq_true rfl)⟩) hS (fun q _ h9 => hFc q h9) hFc (fun u_257 t H locs het hvm hw hB hz1 hk1 hS => ?_)
          obtain ⟨sa_248, so_249, pl_250, fa_251, op_252, si_253, le_254, tx_255, st_256⟩ := u_257
          try dsimp only at hw
          obtain ⟨p_259, p_260, p_261, p_262, p_263, p_264, p_265, p_266, p_267, p_268⟩ := hw
          obtain ⟨hP1, hK1, hD1⟩ := hB
          rw [het] at hP1
          have hP : va_P (dC, dI) cls (ME h g ss sa_248 so_249 pl_250 si_253 fa_251 li co st_256 rq bl te op_252 wo wz sr le_254 tx_255 ro) H := hP1
          have hD : va_D A (ME h g ss sa_248 so_249 pl_250 si_253 fa_251 li co st_256 rq bl te op_252 wo wz sr le_254 tx_255 ro) := hD1.weaken (fun _ _ _ h9 => hFc _ h9)
          have sk_269 : SI LL fa_251 op_252 ro := SI_pr v_16 p_268
          exact lp_M_test_147 (sa0 := sa0) (so0 := so0) (fa0 := fa0) (LL0 := LL) hx hb hml hown ht hE hA hK h_0 h_1 fin w sa_248 so_249 pl_250 fa_251 op_252 si_253 le_254 tx_255 st_256 rq co ro LL te (uTU v_0 p_268.pu) rfl (by omega) (by omega) (by omega) (by omega) v_6 (by omega) (by omega) (by omega) (by omega) (by omega) (by omega) (by omega) (by omega) (by omega) sk_269 _ _ ls hP hD hS (lv_sub hl [0, 1] rfl)
        · refine lv_iconst (v := 1) hx hb d_M_test_139 (by decide) ?_
          refine lv_goto (tgt := 144) hx hb d_M_test_140 (by decide) ?_
          have hc_1 : Int32.toInt 1 = 1 := by decide
          have hFc := va_free (wc := (ME h g ss sa so pl si fa li co st rq bl te op wo wz sr le tx ro)) hD hS hA [0, 1, 2, 3, 4, 5, 6] rfl
          refine va_callv (va_runV (As := [.int 1]) (rest := []) ⟨hx, hb, hml, hown, ht⟩ (c_M_how l dC dI k h g ss sa so pl si fa li co st rq bl te op wo le wz sr tx ro 1 _ (by omega) (by omega) (by omega) (by omega) (by omega) (by omega) (by omega) (by omega) (by omega) (by omega) (by omega)) (cwV 1 ht (g_V k_850 k_852 k_71 k_80 k_853) rfl rfl rfl (by decide +kernel) ⟨(Nat.le_of_ble_eq_true rfl), (Nat.le_of_ble_eq_true rfl)⟩) ⟨fb_X, va_recv hK hP (ci := 4) (q0 := 0) rfl rfl, pre_X hE hS hFc hP hK hD⟩ rfl rfl hl.1 rfl (lv_room (Nat.le_of_ble_eq_true rfl)) d_M_test_144 ⟨(Nat.le_of_ble_eq_true rfl), (Nat.le_of_ble_eq_true rfl)⟩) hS (fun q _ h9 => hFc q h9) hFc (fun u_279 t H locs het hvm hw hB hz1 hk1 hS => ?_)
          obtain ⟨sa_270, so_271, pl_272, fa_273, op_274, si_275, le_276, tx_277, st_278⟩ := u_279
          try dsimp only at hw
          obtain ⟨p_281, p_282, p_283, p_284, p_285, p_286, p_287, p_288, p_289, p_290⟩ := hw
          obtain ⟨hP1, hK1, hD1⟩ := hB
          rw [het] at hP1
          have hP : va_P (dC, dI) cls (ME h g ss sa_270 so_271 pl_272 si_275 fa_273 li co st_278 rq bl te op_274 wo wz sr le_276 tx_277 ro) H := hP1
          have hD : va_D A (ME h g ss sa_270 so_271 pl_272 si_275 fa_273 li co st_278 rq bl te op_274 wo wz sr le_276 tx_277 ro) := hD1.weaken (fun _ _ _ h9 => hFc _ h9)
          have sk_291 : SI LL fa_273 op_274 ro := SI_pr v_16 p_290
          exact lp_M_test_147 (sa0 := sa0) (so0 := so0) (fa0 := fa0) (LL0 := LL) hx hb hml hown ht hE hA hK h_0 h_1 fin w sa_270 so_271 pl_272 fa_273 op_274 si_275 le_276 tx_277 st_278 rq co ro LL te (uTU v_0 p_290.pu) rfl (by omega) (by omega) (by omega) (by omega) v_6 (by omega) (by omega) (by omega) (by omega) (by omega) (by omega) (by omega) (by omega) (by omega) sk_291 _ _ ls hP hD hS (lv_sub hl [0, 1] rfl)
  · refine lv_iload_n hx hb d_M_test_75 rfl (lv_at hl 0 rfl) ?_
    refine lv_bipush (v := 22) hx hb d_M_test_76 (by decide) ?_
    refine lv_icmp_gt (tgt := 120) hx hb d_M_test_78 (by decide) (fun c_292 => ?_) (fun c_292 => ?_)
    · refine lv_iload_n hx hb d_M_test_120 rfl (lv_at hl 0 rfl) ?_
      refine lv_bipush (v := 18) hx hb d_M_test_121 (by decide) ?_
      refine lv_icmp_ge (tgt := 147) hx hb d_M_test_123 (by decide) (fun c_293 => ?_) (fun c_293 => ?_)
      · exact lp_M_test_147 (sa0 := sa0) (so0 := so0) (fa0 := fa0) (LL0 := LL) hx hb hml hown ht hE hA hK h_0 h_1 fin w sa so pl fa op si le tx st rq co ro LL te v_0 rfl (by omega) (by omega) (by omega) (by omega) v_6 (by omega) (by omega) (by omega) (by omega) (by omega) (by omega) (by omega) (by omega) (by omega) v_16 _ _ ls hP hD hS (lv_sub hl [0, 1] rfl)
      · refine lv_aload_n hx hb d_M_test_126 rfl (lv_at hl 1 rfl) ?_
        refine lv_iload_n hx hb d_M_test_127 rfl (lv_at hl 0 rfl) ?_
        refine lv_bipush (v := 15) hx hb d_M_test_128 (by decide) ?_
        refine lv_icmp_eq (tgt := 139) hx hb d_M_test_130 (by decide) (fun c_294 => ?_) (fun c_294 => ?_)
        · refine lv_iconst (v := 1) hx hb d_M_test_139 (by decide) ?_
          refine lv_goto (tgt := 144) hx hb d_M_test_140 (by decide) ?_
          have hc_1 : Int32.toInt 1 = 1 := by decide
          have hFc := va_free (wc := (ME h g ss sa so pl si fa li co st rq bl te op wo wz sr le tx ro)) hD hS hA [0, 1, 2, 3, 4, 5, 6] rfl
          refine va_callv (va_runV (As := [.int 1]) (rest := []) ⟨hx, hb, hml, hown, ht⟩ (c_M_how l dC dI k h g ss sa so pl si fa li co st rq bl te op wo le wz sr tx ro 1 _ (by omega) (by omega) (by omega) (by omega) (by omega) (by omega) (by omega) (by omega) (by omega) (by omega) (by omega)) (cwV 1 ht (g_V k_850 k_852 k_71 k_80 k_853) rfl rfl rfl (by decide +kernel) ⟨(Nat.le_of_ble_eq_true rfl), (Nat.le_of_ble_eq_true rfl)⟩) ⟨fb_X, va_recv hK hP (ci := 4) (q0 := 0) rfl rfl, pre_X hE hS hFc hP hK hD⟩ rfl rfl hl.1 rfl (lv_room (Nat.le_of_ble_eq_true rfl)) d_M_test_144 ⟨(Nat.le_of_ble_eq_true rfl), (Nat.le_of_ble_eq_true rfl)⟩) hS (fun q _ h9 => hFc q h9) hFc (fun u_304 t H locs het hvm hw hB hz1 hk1 hS => ?_)
          obtain ⟨sa_295, so_296, pl_297, fa_298, op_299, si_300, le_301, tx_302, st_303⟩ := u_304
          try dsimp only at hw
          obtain ⟨p_306, p_307, p_308, p_309, p_310, p_311, p_312, p_313, p_314, p_315⟩ := hw
          obtain ⟨hP1, hK1, hD1⟩ := hB
          rw [het] at hP1
          have hP : va_P (dC, dI) cls (ME h g ss sa_295 so_296 pl_297 si_300 fa_298 li co st_303 rq bl te op_299 wo wz sr le_301 tx_302 ro) H := hP1
          have hD : va_D A (ME h g ss sa_295 so_296 pl_297 si_300 fa_298 li co st_303 rq bl te op_299 wo wz sr le_301 tx_302 ro) := hD1.weaken (fun _ _ _ h9 => hFc _ h9)
          have sk_316 : SI LL fa_298 op_299 ro := SI_pr v_16 p_315
          exact lp_M_test_147 (sa0 := sa0) (so0 := so0) (fa0 := fa0) (LL0 := LL) hx hb hml hown ht hE hA hK h_0 h_1 fin w sa_295 so_296 pl_297 fa_298 op_299 si_300 le_301 tx_302 st_303 rq co ro LL te (uTU v_0 p_315.pu) rfl (by omega) (by omega) (by omega) (by omega) v_6 (by omega) (by omega) (by omega) (by omega) (by omega) (by omega) (by omega) (by omega) (by omega) sk_316 _ _ ls hP hD hS (lv_sub hl [0, 1] rfl)
        · refine lv_iload_n hx hb d_M_test_133 rfl (lv_at hl 0 rfl) ?_
          refine lv_bipush (v := 16) hx hb d_M_test_134 (by decide) ?_
          refine lv_icmp_ne (tgt := 143) hx hb d_M_test_136 (by decide) (fun c_317 => ?_) (fun c_317 => ?_)
          · refine lv_iconst (v := 0) hx hb d_M_test_143 (by decide) ?_
            have hc_0 : Int32.toInt 0 = 0 := by decide
            have hFc := va_free (wc := (ME h g ss sa so pl si fa li co st rq bl te op wo wz sr le tx ro)) hD hS hA [0, 1, 2, 3, 4, 5, 6] rfl
            refine va_callv (va_runV (As := [.int 0]) (rest := []) ⟨hx, hb, hml, hown, ht⟩ (c_M_how l dC dI k h g ss sa so pl si fa li co st rq bl te op wo le wz sr tx ro 0 _ (by omega) (by omega) (by omega) (by omega) (by omega) (by omega) (by omega) (by omega) (by omega) (by omega) (by omega)) (cwV 1 ht (g_V k_850 k_852 k_71 k_80 k_853) rfl rfl rfl (by decide +kernel) ⟨(Nat.le_of_ble_eq_true rfl), (Nat.le_of_ble_eq_true rfl)⟩) ⟨fb_X, va_recv hK hP (ci := 4) (q0 := 0) rfl rfl, pre_X hE hS hFc hP hK hD⟩ rfl rfl hl.1 rfl (lv_room (Nat.le_of_ble_eq_true rfl)) d_M_test_144 ⟨(Nat.le_of_ble_eq_true rfl), (Nat.le_of_ble_eq_true rfl)⟩) hS (fun q _ h9 => hFc q h9) hFc (fun u_327 t H locs het hvm hw hB hz1 hk1 hS => ?_)
            obtain ⟨sa_318, so_319, pl_320, fa_321, op_322, si_323, le_324, tx_325, st_326⟩ := u_327
            try dsimp only at hw
            obtain ⟨p_329, p_330, p_331, p_332, p_333, p_334, p_335, p_336, p_337, p_338⟩ := hw
            obtain ⟨hP1, hK1, hD1⟩ := hB
            rw [het] at hP1
            have hP : va_P (dC, dI) cls (ME h g ss sa_318 so_319 pl_320 si_323 fa_321 li co st_326 rq bl te op_322 wo wz sr le_324 tx_325 ro) H := hP1
            have hD : va_D A (ME h g ss sa_318 so_319 pl_320 si_323 fa_321 li co st_326 rq bl te op_322 wo wz sr le_324 tx_325 ro) := hD1.weaken (fun _ _ _ h9 => hFc _ h9)
            have sk_339 : SI LL fa_321 op_322 ro := SI_pr v_16 p_338
            exact lp_M_test_147 (sa0 := sa0) (so0 := so0) (fa0 := fa0) (LL0 := LL) hx hb hml hown ht hE hA hK h_0 h_1 fin w sa_318 so_319 pl_320 fa_321 op_322 si_323 le_324 tx_325 st_326 rq co ro LL te (uTU v_0 p_338.pu) rfl (by omega) (by omega) (by omega) (by omega) v_6 (by omega) (by omega) (by omega) (by omega) (by omega) (by omega) (by omega) (by omega) (by omega) sk_339 _ _ ls hP hD hS (lv_sub hl [0, 1] rfl)
          · refine lv_iconst (v := 1) hx hb d_M_test_139 (by decide) ?_
            refine lv_goto (tgt := 144) hx hb d_M_test_140 (by decide) ?_
            have hc_1 : Int32.toInt 1 = 1 := by decide
            have hFc := va_free (wc := (ME h g ss sa so pl si fa li co st rq bl te op wo wz sr le tx ro)) hD hS hA [0, 1, 2, 3, 4, 5, 6] rfl
            refine va_callv (va_runV (As := [.int 1]) (rest := []) ⟨hx, hb, hml, hown, ht⟩ (c_M_how l dC dI k h g ss sa so pl si fa li co st rq bl te op wo le wz sr tx ro 1 _ (by omega) (by omega) (by omega) (by omega) (by omega) (by omega) (by omega) (by omega) (by omega) (by omega) (by omega)) (cwV 1 ht (g_V k_850 k_852 k_71 k_80 k_853) rfl rfl rfl (by decide +kernel) ⟨(Nat.le_of_ble_eq_true rfl), (Nat.le_of_ble_eq_true rfl)⟩) ⟨fb_X, va_recv hK hP (ci := 4) (q0 := 0) rfl rfl, pre_X hE hS hFc hP hK hD⟩ rfl rfl hl.1 rfl (lv_room (Nat.le_of_ble_eq_true rfl)) d_M_test_144 ⟨(Nat.le_of_ble_eq_true rfl), (Nat.le_of_ble_eq_true rfl)⟩) hS (fun q _ h9 => hFc q h9) hFc (fun u_349 t H locs het hvm hw hB hz1 hk1 hS => ?_)
            obtain ⟨sa_340, so_341, pl_342, fa_343, op_344, si_345, le_346, tx_347, st_348⟩ := u_349
            try dsimp only at hw
            obtain ⟨p_351, p_352, p_353, p_354, p_355, p_356, p_357, p_358, p_359, p_360⟩ := hw
            obtain ⟨hP1, hK1, hD1⟩ := hB
            rw [het] at hP1
            have hP : va_P (dC, dI) cls (ME h g ss sa_340 so_341 pl_342 si_345 fa_343 li co st_348 rq bl te op_344 wo wz sr le_346 tx_347 ro) H := hP1
            have hD : va_D A (ME h g ss sa_340 so_341 pl_342 si_345 fa_343 li co st_348 rq bl te op_344 wo wz sr le_346 tx_347 ro) := hD1.weaken (fun _ _ _ h9 => hFc _ h9)
            have sk_361 : SI LL fa_343 op_344 ro := SI_pr v_16 p_360
            exact lp_M_test_147 (sa0 := sa0) (so0 := so0) (fa0 := fa0) (LL0 := LL) hx hb hml hown ht hE hA hK h_0 h_1 fin w sa_340 so_341 pl_342 fa_343 op_344 si_345 le_346 tx_347 st_348 rq co ro LL te (uTU v_0 p_360.pu) rfl (by omega) (by omega) (by omega) (by omega) v_6 (by omega) (by omega) (by omega) (by omega) (by omega) (by omega) (by omega) (by omega) (by omega) sk_361 _ _ ls hP hD hS (lv_sub hl [0, 1] rfl)
    · refine lv_aload_n hx hb d_M_test_81 rfl (lv_at hl 1 rfl) ?_
      refine lv_aload_n hx hb d_M_test_82 rfl (lv_at hl 1 rfl) ?_
      refine va_get (D := (dC, dI)) (ci := 4) (v := .int te) (C := "SieveDeskModel") (T := F_M) (N := 19) hx hb ht i_M hown hK hP 0 rfl rfl 16 (by decide) (ht _ k_643) (fun _ h9 => h9) rfl d_M_test_83 ?_
      refine lv_iconst (v := 1) hx hb d_M_test_86 (by decide) ?_
      refine lv_iadd hx hb d_M_test_87 ?_
      have e_362 : Int32.toInt (te + 1) = (Int32.toInt te) + 1 := i_add rfl (show Int32.toInt 1 = 1 by decide) (by omega) (by omega)
      refine va_put (D := (dC, dI)) (ci := 4) (v := .int (te + 1)) (ty := .int) (C := "SieveDeskModel") (T := F_M) (N := 19) hx hb ht i_M ty_M ty_M_ok n_M hown hK hP hD hS 0 rfl rfl 16 (by decide) (ht _ k_643) (fun _ h9 => h9) rfl (ty_M_ok 16 (by decide)) rfl rfl (Nat.le_of_ble_eq_true rfl) d_M_test_88 (fun H locs hP hD hS => ?_)
      have hP : va_P (dC, dI) cls (ME h g ss sa so pl si fa li co st rq bl (te + 1) op wo wz sr le tx ro) H := hP
      have hD : va_D A (ME h g ss sa so pl si fa li co st rq bl (te + 1) op wo wz sr le tx ro) := hD
      refine lv_aload_n hx hb d_M_test_91 rfl (lv_at hl 1 rfl) ?_
      refine lv_bipush (v := 6) hx hb d_M_test_92 (by decide) ?_
      have sl_363 := SI_op v_16
      try simp only [List.length_cons, List.length_nil] at sl_363
      have hFc := va_free (wc := (ME h g ss sa so pl si fa li co st rq bl (te + 1) op wo wz sr le tx ro)) hD hS hA [0, 1, 2, 3, 4, 5, 6] rfl
      refine va_callv (va_runV (As := [.int 6]) (rest := []) ⟨hx, hb, hml, hown, ht⟩ (c_M_push l dC dI k h g ss sa so pl si fa li co st rq bl (te + 1) op wo le wz sr tx ro 6 _ (by omega) (by omega) (by omega) (by omega)) (cwV 1 ht (g_V k_795 k_797 k_58 k_80 k_798) rfl rfl rfl (by decide +kernel) ⟨(Nat.le_of_ble_eq_true rfl), (Nat.le_of_ble_eq_true rfl)⟩) ⟨fb_X, va_recv hK hP (ci := 4) (q0 := 0) rfl rfl, pre_X hE hS hFc hP hK hD⟩ rfl rfl hl.1 rfl (lv_room (Nat.le_of_ble_eq_true rfl)) d_M_test_94 ⟨(Nat.le_of_ble_eq_true rfl), (Nat.le_of_ble_eq_true rfl)⟩) hS (fun q _ h9 => hFc q h9) hFc (fun u_366 t H locs het hvm hw hB hz1 hk1 hS => ?_)
      obtain ⟨op_364, ro_365⟩ := u_366
      try dsimp only at hw
      obtain ⟨p_368, p_369⟩ := hw
      obtain ⟨hP1, hK1, hD1⟩ := hB
      rw [het] at hP1
      have hP : va_P (dC, dI) cls (ME h g ss sa so pl si fa li co st rq bl (te + 1) op_364 wo wz sr le tx ro_365) H := hP1
      have hD : va_D A (ME h g ss sa so pl si fa li co st rq bl (te + 1) op_364 wo wz sr le tx ro_365) := hD1.weaken (fun _ _ _ h9 => hFc _ h9)
      have sk_370 : SI (6 :: LL) fa op_364 ro_365 := SI_push (x := 6) v_16 (fun _ => v_6) p_369
      refine lv_iload_n hx hb d_M_test_97 rfl (lv_at hl 0 rfl) ?_
      refine lv_bipush (v := 22) hx hb d_M_test_98 (by decide) ?_
      refine lv_icmp_eq (tgt := 114) hx hb d_M_test_100 (by decide) (fun c_371 => ?_) (fun c_371 => ?_)
      · refine lv_aload_n hx hb d_M_test_114 rfl (lv_at hl 1 rfl) ?_
        refine lv_iconst (v := 4) hx hb d_M_test_115 (by decide) ?_
        have sl_372 := SI_op sk_370
        try simp only [List.length_cons, List.length_nil] at sl_372
        have hFc := va_free (wc := (ME h g ss sa so pl si fa li co st rq bl (te + 1) op_364 wo wz sr le tx ro_365)) hD hS hA [0, 1, 2, 3, 4, 5, 6] rfl
        refine va_callv (va_runV (As := [.int 4]) (rest := []) ⟨hx, hb, hml, hown, ht⟩ (c_M_push l dC dI k h g ss sa so pl si fa li co st rq bl (te + 1) op_364 wo le wz sr tx ro_365 4 _ (by omega) (by omega) (by omega) (by omega)) (cwV 1 ht (g_V k_795 k_797 k_58 k_80 k_798) rfl rfl rfl (by decide +kernel) ⟨(Nat.le_of_ble_eq_true rfl), (Nat.le_of_ble_eq_true rfl)⟩) ⟨fb_X, va_recv hK hP (ci := 4) (q0 := 0) rfl rfl, pre_X hE hS hFc hP hK hD⟩ rfl rfl hl.1 rfl (lv_room (Nat.le_of_ble_eq_true rfl)) d_M_test_116 ⟨(Nat.le_of_ble_eq_true rfl), (Nat.le_of_ble_eq_true rfl)⟩) hS (fun q _ h9 => hFc q h9) hFc (fun u_375 t H locs het hvm hw hB hz1 hk1 hS => ?_)
        obtain ⟨op_373, ro_374⟩ := u_375
        try dsimp only at hw
        obtain ⟨p_377, p_378⟩ := hw
        obtain ⟨hP1, hK1, hD1⟩ := hB
        rw [het] at hP1
        have hP : va_P (dC, dI) cls (ME h g ss sa so pl si fa li co st rq bl (te + 1) op_373 wo wz sr le tx ro_374) H := hP1
        have hD : va_D A (ME h g ss sa so pl si fa li co st rq bl (te + 1) op_373 wo wz sr le tx ro_374) := hD1.weaken (fun _ _ _ h9 => hFc _ h9)
        have sk_379 : SI (4 :: (6 :: LL)) fa op_373 ro_374 := SI_push (x := 4) sk_370 (fun hl9 => ⟨rfl, (sk_370 hl9).1⟩) p_378
        exact fin  (sa, so, pl, fa, op_373, si, le, tx, st, rq, co, ro_374, (4 :: (6 :: LL)), (te + 1)) _ _ _ ls d_M_test_119 ⟨(by (try dsimp only); omega), (by (try dsimp only); omega), (by (try dsimp only); omega), (by (try dsimp only); omega), (by (try dsimp only); omega), (by (try dsimp only); omega), (by (try dsimp only); omega), (by (try dsimp only); omega), (by (try dsimp only); omega), sk_379, v_0, (by (try dsimp only); (try simp only [List.length_cons]); omega), (by first | rfl | (simp [List.count_cons]; done)), (by (try dsimp only); have h69 : List.count 6 (4 :: (6 :: LL)) = List.count 6 LL + 1 := (by simp [List.count_cons]); omega)⟩ hP hD hS
      · refine lv_aload_n hx hb d_M_test_103 rfl (lv_at hl 1 rfl) ?_
        refine lv_iconst (v := 5) hx hb d_M_test_104 (by decide) ?_
        have sl_380 := SI_op sk_370
        try simp only [List.length_cons, List.length_nil] at sl_380
        have hFc := va_free (wc := (ME h g ss sa so pl si fa li co st rq bl (te + 1) op_364 wo wz sr le tx ro_365)) hD hS hA [0, 1, 2, 3, 4, 5, 6] rfl
        refine va_callv (va_runV (As := [.int 5]) (rest := []) ⟨hx, hb, hml, hown, ht⟩ (c_M_push l dC dI k h g ss sa so pl si fa li co st rq bl (te + 1) op_364 wo le wz sr tx ro_365 5 _ (by omega) (by omega) (by omega) (by omega)) (cwV 1 ht (g_V k_795 k_797 k_58 k_80 k_798) rfl rfl rfl (by decide +kernel) ⟨(Nat.le_of_ble_eq_true rfl), (Nat.le_of_ble_eq_true rfl)⟩) ⟨fb_X, va_recv hK hP (ci := 4) (q0 := 0) rfl rfl, pre_X hE hS hFc hP hK hD⟩ rfl rfl hl.1 rfl (lv_room (Nat.le_of_ble_eq_true rfl)) d_M_test_105 ⟨(Nat.le_of_ble_eq_true rfl), (Nat.le_of_ble_eq_true rfl)⟩) hS (fun q _ h9 => hFc q h9) hFc (fun u_383 t H locs het hvm hw hB hz1 hk1 hS => ?_)
        obtain ⟨op_381, ro_382⟩ := u_383
        try dsimp only at hw
        obtain ⟨p_385, p_386⟩ := hw
        obtain ⟨hP1, hK1, hD1⟩ := hB
        rw [het] at hP1
        have hP : va_P (dC, dI) cls (ME h g ss sa so pl si fa li co st rq bl (te + 1) op_381 wo wz sr le tx ro_382) H := hP1
        have hD : va_D A (ME h g ss sa so pl si fa li co st rq bl (te + 1) op_381 wo wz sr le tx ro_382) := hD1.weaken (fun _ _ _ h9 => hFc _ h9)
        have sk_387 : SI (5 :: (6 :: LL)) fa op_381 ro_382 := SI_push (x := 5) sk_370 (fun hl9 => ⟨rfl, (sk_370 hl9).1⟩) p_386
        refine lv_aload_n hx hb d_M_test_108 rfl (lv_at hl 1 rfl) ?_
        refine lv_bipush (v := 40) hx hb d_M_test_109 (by decide) ?_
        have hc_40 : Int32.toInt 40 = 40 := by decide
        have hFc := va_free (wc := (ME h g ss sa so pl si fa li co st rq bl (te + 1) op_381 wo wz sr le tx ro_382)) hD hS hA [0, 1, 2, 3, 4, 5, 6] rfl
        refine va_callv (va_runV (As := [.int 40]) (rest := []) ⟨hx, hb, hml, hown, ht⟩ (c_M_take l dC dI k h g ss sa so pl si fa li co st rq bl (te + 1) op_381 wo le wz sr tx ro_382 40 _ (by omega) (by omega) (by omega) (by omega) (by omega) (by omega) (by omega) (by omega) (by omega) (by omega) (by omega) (by omega) (by omega)) (cwV 1 ht (g_V k_791 k_793 k_57 k_80 k_794) rfl rfl rfl (by decide +kernel) ⟨(Nat.le_of_ble_eq_true rfl), (Nat.le_of_ble_eq_true rfl)⟩) ⟨fb_X, va_recv hK hP (ci := 4) (q0 := 0) rfl rfl, pre_X hE hS hFc hP hK hD⟩ rfl rfl hl.1 rfl (lv_room (Nat.le_of_ble_eq_true rfl)) d_M_test_111 ⟨(Nat.le_of_ble_eq_true rfl), (Nat.le_of_ble_eq_true rfl)⟩) hS (fun q _ h9 => hFc q h9) hFc (fun u_396 t H locs het hvm hw hB hz1 hk1 hS => ?_)
        obtain ⟨sa_388, so_389, pl_390, fa_391, op_392, si_393, le_394, tx_395⟩ := u_396
        try dsimp only at hw
        obtain ⟨p_398, p_399, p_400, p_401, p_402, p_403, p_404, p_405, p_406, p_407, p_408⟩ := hw
        obtain ⟨hP1, hK1, hD1⟩ := hB
        rw [het] at hP1
        have hP : va_P (dC, dI) cls (ME h g ss sa_388 so_389 pl_390 si_393 fa_391 li co st rq bl (te + 1) op_392 wo wz sr le_394 tx_395 ro_382) H := hP1
        have hD : va_D A (ME h g ss sa_388 so_389 pl_390 si_393 fa_391 li co st rq bl (te + 1) op_392 wo wz sr le_394 tx_395 ro_382) := hD1.weaken (fun _ _ _ h9 => hFc _ h9)
        have sk_409 : SI (5 :: (6 :: LL)) fa_391 op_392 ro_382 := SI_pr sk_387 p_407.pr
        refine lv_aload_n hx hb d_M_test_114 rfl (lv_at hl 1 rfl) ?_
        refine lv_iconst (v := 4) hx hb d_M_test_115 (by decide) ?_
        have sl_410 := SI_op sk_409
        try simp only [List.length_cons, List.length_nil] at sl_410
        have hFc := va_free (wc := (ME h g ss sa_388 so_389 pl_390 si_393 fa_391 li co st rq bl (te + 1) op_392 wo wz sr le_394 tx_395 ro_382)) hD hS hA [0, 1, 2, 3, 4, 5, 6] rfl
        refine va_callv (va_runV (As := [.int 4]) (rest := []) ⟨hx, hb, hml, hown, ht⟩ (c_M_push l dC dI k h g ss sa_388 so_389 pl_390 si_393 fa_391 li co st rq bl (te + 1) op_392 wo le_394 wz sr tx_395 ro_382 4 _ (by omega) (by omega) (by omega) (by omega)) (cwV 1 ht (g_V k_795 k_797 k_58 k_80 k_798) rfl rfl rfl (by decide +kernel) ⟨(Nat.le_of_ble_eq_true rfl), (Nat.le_of_ble_eq_true rfl)⟩) ⟨fb_X, va_recv hK hP (ci := 4) (q0 := 0) rfl rfl, pre_X hE hS hFc hP hK hD⟩ rfl rfl hl.1 rfl (lv_room (Nat.le_of_ble_eq_true rfl)) d_M_test_116 ⟨(Nat.le_of_ble_eq_true rfl), (Nat.le_of_ble_eq_true rfl)⟩) hS (fun q _ h9 => hFc q h9) hFc (fun u_413 t H locs het hvm hw hB hz1 hk1 hS => ?_)
        obtain ⟨op_411, ro_412⟩ := u_413
        try dsimp only at hw
        obtain ⟨p_415, p_416⟩ := hw
        obtain ⟨hP1, hK1, hD1⟩ := hB
        rw [het] at hP1
        have hP : va_P (dC, dI) cls (ME h g ss sa_388 so_389 pl_390 si_393 fa_391 li co st rq bl (te + 1) op_411 wo wz sr le_394 tx_395 ro_412) H := hP1
        have hD : va_D A (ME h g ss sa_388 so_389 pl_390 si_393 fa_391 li co st rq bl (te + 1) op_411 wo wz sr le_394 tx_395 ro_412) := hD1.weaken (fun _ _ _ h9 => hFc _ h9)
        have sk_417 : SI (4 :: (5 :: (6 :: LL))) fa_391 op_411 ro_412 := SI_push (x := 4) sk_409 (fun hl9 => ⟨rfl, (sk_409 hl9).1⟩) p_416
        exact fin  (sa_388, so_389, pl_390, fa_391, op_411, si_393, le_394, tx_395, st, rq, co, ro_412, (4 :: (5 :: (6 :: LL))), (te + 1)) _ _ _ ls d_M_test_119 ⟨(by (try dsimp only); omega), (by (try dsimp only); omega), (by (try dsimp only); omega), (by (try dsimp only); omega), (by (try dsimp only); omega), (by (try dsimp only); omega), (by (try dsimp only); omega), (by (try dsimp only); omega), (by (try dsimp only); omega), sk_417, (uTT v_0 p_407.pt), (by (try dsimp only); (try simp only [List.length_cons]); omega), (by first | rfl | (simp [List.count_cons]; done)), (by (try dsimp only); have h69 : List.count 6 (4 :: (5 :: (6 :: LL))) = List.count 6 LL + 1 := (by simp [List.count_cons]); omega)⟩ hP hD hS
set_option maxHeartbeats 4000000 in
set_option maxRecDepth 100000 in
theorem bd_M_test_0 {p : Program} {l : Launch} {e : Env} {s : State} {m : MethodId} {args : Array Value} {below : List Frame} {meth : Method} {c : Code} {Q : State → Prop} {A : Nat → Prop} {dC : Nat → ClassId} {dI : Nat → Nat → Nat} {k h : Nat → Nat} {g : Nat → ClassId} {ss : Int32} {li : Int32} {bl : Int32} {wo : Nat → Int64} {wz : Nat → Int32} {sr : Nat → Int32} {sa0 : Int32} {so0 : Int32} {fa0 : Int32} {LL0 : List Nat} (hx : p.tables.exec = Jvm.exec) (hb : c.code = b_M_test) (hml : c.maxLocals = 2) (hown : s.vm.findClass "SieveDeskModel" = some m.cls) (ht : ∀ w ∈ TT, w.before args s = true) (hE : KE k A s s.heap) (hA : ∀ q : Nat, s.heap.size ≤ q → A q) (hK : va_K (dC, dI) cls (TM g) s)  (h_0 : 0 ≤ Int32.toInt ss) (h_1 : Int32.toInt ss ≤ 400) (fin : ∀ (u : Int32 × Int32 × Int32 × Int32 × Int32 × Int32 × (Nat → Int64) × (Nat → Int32) × Int32 × Int32 × Int32 × (Nat → Int32) × List Nat × Int32) (H : Heap) (locs : List Loc) (pc : Nat) (ls : Array Slot), decode b_M_test pc = .ok (.return_, 1) → (0 ≤ Int32.toInt u.1 ∧ Int32.toInt u.1 ≤ Int32.toInt ss ∧ 0 ≤ Int32.toInt u.2.2.1 ∧ Int32.toInt u.2.2.1 ≤ 400 ∧ -1 ≤ Int32.toInt u.2.2.2.1 ∧ Int32.toInt u.2.2.2.1 ≤ 400 ∧ (Int32.toInt u.2.2.2.1 < 0 ∨ (Int32.toInt u.2.1 = 0 ∧ Int32.toInt u.2.2.2.2.1 = 0)) ∧ 0 ≤ Int32.toInt u.2.2.2.2.2.1 ∧ Int32.toInt u.2.2.2.2.2.1 ≤ 400 ∧ SI u.2.2.2.2.2.2.2.2.2.2.2.2.1 u.2.2.2.1 u.2.2.2.2.1 u.2.2.2.2.2.2.2.2.2.2.2.1 ∧ PT ss sa0 so0 fa0 u.1 u.2.1 u.2.2.2.1 ∧ u.2.2.2.2.2.2.2.2.2.2.2.2.1.length ≤ LL0.length + 3 ∧ List.count 1 u.2.2.2.2.2.2.2.2.2.2.2.2.1 = List.count 1 LL0 ∧ (0 ≤ Int32.toInt u.2.2.2.1 ∨ (Int32.toInt u.2.2.2.2.2.2.2.2.2.2.2.2.2 = List.count 6 u.2.2.2.2.2.2.2.2.2.2.2.2.1 ∧ List.count 6 u.2.2.2.2.2.2.2.2.2.2.2.2.1 ≤ 8))) → va_P (dC, dI) cls (ME h g ss u.1 u.2.1 u.2.2.1 u.2.2.2.2.2.1 u.2.2.2.1 li u.2.2.2.2.2.2.2.2.2.2.1 u.2.2.2.2.2.2.2.2.1 u.2.2.2.2.2.2.2.2.2.1 bl u.2.2.2.2.2.2.2.2.2.2.2.2.2 u.2.2.2.2.1 wo wz sr u.2.2.2.2.2.2.1 u.2.2.2.2.2.2.2.1 u.2.2.2.2.2.2.2.2.2.2.2.1) H → va_D A (ME h g ss u.1 u.2.1 u.2.2.1 u.2.2.2.2.2.1 u.2.2.2.1 li u.2.2.2.2.2.2.2.2.2.2.1 u.2.2.2.2.2.2.2.2.1 u.2.2.2.2.2.2.2.2.2.1 bl u.2.2.2.2.2.2.2.2.2.2.2.2.2 u.2.2.2.2.1 wo wz sr u.2.2.2.2.2.2.1 u.2.2.2.2.2.2.2.1 u.2.2.2.2.2.2.2.2.2.2.2.1) → va_S A s.heap H locs → W p l e ({ frames := 7, cells := 0, slots := 0, locals := 153 } : Room) s m args below meth c H locs 0 0 Q (F0 m pc ls [])) : ∀ (sa : Int32) (so : Int32) (pl : Int32) (fa : Int32) (op : Int32) (si : Int32) (le : Nat → Int64) (tx : Nat → Int32) (st : Int32) (rq : Int32) (co : Int32) (ro : Nat → Int32) (LL : List Nat) (te : Int32), sa = sa0 → so = so0 → fa = fa0 → LL = LL0 → 0 ≤ Int32.toInt sa → Int32.toInt sa ≤ Int32.toInt ss → 0 ≤ Int32.toInt pl → Int32.toInt pl ≤ 400 → -1 ≤ Int32.toInt fa → Int32.toInt fa ≤ 400 → (Int32.toInt fa < 0 ∨ (Int32.toInt so = 0 ∧ Int32.toInt op = 0)) → 0 ≤ Int32.toInt si → Int32.toInt si ≤ 400 → SI LL fa op ro → Int32.toInt fa < 0 → Int32.toInt te = List.count 6 LL → List.count 6 LL ≤ 8 → LL.length ≤ 40 → wfp (6 :: LL) → ∀ (H : Heap) (locs : List Loc) (ls : Array Slot), va_P (dC, dI) cls (ME h g ss sa so pl si fa li co st rq bl te op wo wz sr le tx ro) H → va_D A (ME h g ss sa so pl si fa li co st rq bl te op wo wz sr le tx ro) → va_S A s.heap H locs → lv_has ls 2 [(0, .ref (h 0))] → W p l e ({ frames := 7, cells := 0, slots := 0, locals := 153 } : Room) s m args below meth c H locs 0 0 Q (F0 m 0 ls []) := by
  intro sa so pl fa op si le tx st rq co ro LL te v_0 v_1 v_2 v_3 v_4 v_5 v_6 v_7 v_8 v_9 v_10 v_11 v_12 v_13 v_14 v_15 v_16 v_17 v_18 H locs ls hP hD hS hl
  subst v_0
  subst v_1
  subst v_2
  subst v_3
  refine lv_aload_n hx hb d_M_test_0 rfl (lv_at hl 0 rfl) ?_
  refine lv_iconst (v := 1) hx hb d_M_test_1 (by decide) ?_
  have hc_1 : Int32.toInt 1 = 1 := by decide
  have hFc := va_free (wc := (ME h g ss sa so pl si fa li co st rq bl te op wo wz sr le tx ro)) hD hS hA [0, 1, 2, 3, 4, 5, 6] rfl
  refine va_calli (va_runV (As := [.int 1]) (rest := []) ⟨hx, hb, hml, hown, ht⟩ (c_M_is l dC dI k h g ss sa so pl si fa li co st rq bl te op wo le wz sr tx ro 1 _ (by omega) (by omega) ) (cwV 1 ht (g_V k_771 k_773 k_52 k_80 k_774) rfl rfl rfl (by decide +kernel) ⟨(Nat.le_of_ble_eq_true rfl), (Nat.le_of_ble_eq_true rfl)⟩) ⟨fb_X, va_recv hK hP (ci := 4) (q0 := 0) rfl rfl, pre_X hE hS hFc hP hK hD⟩ rfl rfl hl.1 rfl (lv_room (Nat.le_of_ble_eq_true rfl)) d_M_test_2 ⟨(Nat.le_of_ble_eq_true rfl), (Nat.le_of_ble_eq_true rfl)⟩) hS (fun q _ h9 => hFc q h9) hFc (fun r_419 u_418 t H locs het hvm hw hB hz1 hk1 hS => ?_)
  obtain ⟨p_420, p_421⟩ := hw
  obtain ⟨hP1, hK1, hD1⟩ := hB
  rw [het] at hP1
  have hP : va_P (dC, dI) cls (ME h g ss sa so pl si fa li co st rq bl te op wo wz sr le tx ro) H := hP1
  have hD : va_D A (ME h g ss sa so pl si fa li co st rq bl te op wo wz sr le tx ro) := hD1.weaken (fun _ _ _ h9 => hFc _ h9)
  refine lv_if_eq (tgt := 19) hx hb d_M_test_5 (by decide) (fun c_422 => ?_) (fun c_422 => ?_)
  · have dc_422 := i_eq c_422 rfl (show Int32.toInt 0 = 0 by decide)
    refine lv_iconst (v := (-1)) hx hb d_M_test_19 (by decide) ?_
    refine lv_istore_n (lv' := [(1, .int (-1)), (0, .ref (h 0))]) hx hb d_M_test_20 rfl hl (by decide) rfl (fun ls hl => ?_)
    refine lv_iload_n hx hb d_M_test_21 rfl (lv_at hl 0 rfl) ?_
    refine lv_if_lt (tgt := 34) hx hb d_M_test_22 (by decide) (fun _ => ?_) (fun cn => absurd (by decide) cn)
    refine lv_aload_n hx hb d_M_test_34 rfl (lv_at hl 1 rfl) ?_
    have hFc := va_free (wc := (ME h g ss sa so pl si fa li co st rq bl te op wo wz sr le tx ro)) hD hS hA [0, 1, 2, 3, 4, 5, 6] rfl
    refine va_callv (va_runV (As := []) (rest := []) ⟨hx, hb, hml, hown, ht⟩ (c_M_fail l dC dI k h g ss sa so pl si fa li co st rq bl te op wo le wz sr tx ro  _ (by omega) (by omega) (by omega) (by omega)) (cwV 0 ht (g_V k_763 k_765 k_50 k_80 k_766) rfl rfl rfl (by decide +kernel) ⟨(Nat.le_of_ble_eq_true rfl), (Nat.le_of_ble_eq_true rfl)⟩) ⟨fb_X, va_recv hK hP (ci := 4) (q0 := 0) rfl rfl, pre_X hE hS hFc hP hK hD⟩ rfl rfl hl.1 rfl (lv_room (Nat.le_of_ble_eq_true rfl)) d_M_test_35 ⟨(Nat.le_of_ble_eq_true rfl), (Nat.le_of_ble_eq_true rfl)⟩) hS (fun q _ h9 => hFc q h9) hFc (fun u_426 t H locs het hvm hw hB hz1 hk1 hS => ?_)
    obtain ⟨so_423, fa_424, op_425⟩ := u_426
    try dsimp only at hw
    obtain ⟨p_428, p_429, p_430, p_431, p_432, p_433⟩ := hw
    obtain ⟨hP1, hK1, hD1⟩ := hB
    rw [het] at hP1
    have hP : va_P (dC, dI) cls (ME h g ss sa so_423 pl si fa_424 li co st rq bl te op_425 wo wz sr le tx ro) H := hP1
    have hD : va_D A (ME h g ss sa so_423 pl si fa_424 li co st rq bl te op_425 wo wz sr le tx ro) := hD1.weaken (fun _ _ _ h9 => hFc _ h9)
    have sk_434 : SI LL fa_424 op_425 ro := SI_fault (by omega)
    have rl_435 : PS ss sa so fa op sa so_423 fa_424 op_425 := pr_out (by omega) (by omega) (by omega) _ _ _ _ (by omega)
    exact fin  (sa, so_423, pl, fa_424, op_425, si, le, tx, st, rq, co, ro, LL, te) _ _ _ ls d_M_test_38 ⟨(by (try dsimp only); omega), (by (try dsimp only); omega), (by (try dsimp only); omega), (by (try dsimp only); omega), (by (try dsimp only); omega), (by (try dsimp only); omega), (by (try dsimp only); omega), (by (try dsimp only); omega), (by (try dsimp only); omega), sk_434, rl_435.pt, (by (try dsimp only); (try simp only [List.length_cons]); omega), (by first | rfl | (simp [List.count_cons]; done)), (by (try dsimp only); have h69 : List.count 6 LL = List.count 6 LL + 0 := (by simp [List.count_cons]); omega)⟩ hP hD hS
  · have dc_422 := i_ne c_422 rfl (show Int32.toInt 0 = 0 by decide)
    refine lv_aload_n hx hb d_M_test_8 rfl (lv_at hl 0 rfl) ?_
    refine lv_bipush (v := 14) hx hb d_M_test_9 (by decide) ?_
    refine lv_bipush (v := 11) hx hb d_M_test_11 (by decide) ?_
    have hc_14 : Int32.toInt 14 = 14 := by decide
    have hc_11 : Int32.toInt 11 = 11 := by decide
    have hFc := va_free (wc := (ME h g ss sa so pl si fa li co st rq bl te op wo wz sr le tx ro)) hD hS hA [0, 1, 2, 3, 4, 5, 6] rfl
    refine va_calli (va_runV (As := [.int 14, .int 11]) (rest := []) ⟨hx, hb, hml, hown, ht⟩ (c_M_which l dC dI k h g ss sa so pl si fa li co st rq bl te op wo le wz sr tx ro 14 11 _ (by omega) (by omega) (by omega) ) (cwV 2 ht (g_V k_738 k_740 k_45 k_80 k_741) rfl rfl rfl (by decide +kernel) ⟨(Nat.le_of_ble_eq_true rfl), (Nat.le_of_ble_eq_true rfl)⟩) ⟨fb_X, va_recv hK hP (ci := 4) (q0 := 0) rfl rfl, pre_X hE hS hFc hP hK hD⟩ rfl rfl hl.1 rfl (lv_room (Nat.le_of_ble_eq_true rfl)) d_M_test_13 ⟨(Nat.le_of_ble_eq_true rfl), (Nat.le_of_ble_eq_true rfl)⟩) hS (fun q _ h9 => hFc q h9) hFc (fun r_437 u_436 t H locs het hvm hw hB hz1 hk1 hS => ?_)
    have p_438 := hw
    obtain ⟨hP1, hK1, hD1⟩ := hB
    rw [het] at hP1
    have hP : va_P (dC, dI) cls (ME h g ss sa so pl si fa li co st rq bl te op wo wz sr le tx ro) H := hP1
    have hD : va_D A (ME h g ss sa so pl si fa li co st rq bl te op wo wz sr le tx ro) := hD1.weaken (fun _ _ _ h9 => hFc _ h9)
    refine lv_goto (tgt := 20) hx hb d_M_test_16 (by decide) ?_
    refine lv_istore_n (lv' := [(1, .int r_437), (0, .ref (h 0))]) hx hb d_M_test_20 rfl hl (by decide) rfl (fun ls hl => ?_)
    refine lv_iload_n hx hb d_M_test_21 rfl (lv_at hl 0 rfl) ?_
    refine lv_if_lt (tgt := 34) hx hb d_M_test_22 (by decide) (fun c_439 => ?_) (fun c_439 => ?_)
    · have dc_439 := i_lt c_439 rfl (show Int32.toInt 0 = 0 by decide)
      refine lv_aload_n hx hb d_M_test_34 rfl (lv_at hl 1 rfl) ?_
      have hFc := va_free (wc := (ME h g ss sa so pl si fa li co st rq bl te op wo wz sr le tx ro)) hD hS hA [0, 1, 2, 3, 4, 5, 6] rfl
      refine va_callv (va_runV (As := []) (rest := []) ⟨hx, hb, hml, hown, ht⟩ (c_M_fail l dC dI k h g ss sa so pl si fa li co st rq bl te op wo le wz sr tx ro  _ (by omega) (by omega) (by omega) (by omega)) (cwV 0 ht (g_V k_763 k_765 k_50 k_80 k_766) rfl rfl rfl (by decide +kernel) ⟨(Nat.le_of_ble_eq_true rfl), (Nat.le_of_ble_eq_true rfl)⟩) ⟨fb_X, va_recv hK hP (ci := 4) (q0 := 0) rfl rfl, pre_X hE hS hFc hP hK hD⟩ rfl rfl hl.1 rfl (lv_room (Nat.le_of_ble_eq_true rfl)) d_M_test_35 ⟨(Nat.le_of_ble_eq_true rfl), (Nat.le_of_ble_eq_true rfl)⟩) hS (fun q _ h9 => hFc q h9) hFc (fun u_443 t H locs het hvm hw hB hz1 hk1 hS => ?_)
      obtain ⟨so_440, fa_441, op_442⟩ := u_443
      try dsimp only at hw
      obtain ⟨p_445, p_446, p_447, p_448, p_449, p_450⟩ := hw
      obtain ⟨hP1, hK1, hD1⟩ := hB
      rw [het] at hP1
      have hP : va_P (dC, dI) cls (ME h g ss sa so_440 pl si fa_441 li co st rq bl te op_442 wo wz sr le tx ro) H := hP1
      have hD : va_D A (ME h g ss sa so_440 pl si fa_441 li co st rq bl te op_442 wo wz sr le tx ro) := hD1.weaken (fun _ _ _ h9 => hFc _ h9)
      have sk_451 : SI LL fa_441 op_442 ro := SI_fault (by omega)
      have rl_452 : PS ss sa so fa op sa so_440 fa_441 op_442 := pr_out (by omega) (by omega) (by omega) _ _ _ _ (by omega)
      exact fin  (sa, so_440, pl, fa_441, op_442, si, le, tx, st, rq, co, ro, LL, te) _ _ _ ls d_M_test_38 ⟨(by (try dsimp only); omega), (by (try dsimp only); omega), (by (try dsimp only); omega), (by (try dsimp only); omega), (by (try dsimp only); omega), (by (try dsimp only); omega), (by (try dsimp only); omega), (by (try dsimp only); omega), (by (try dsimp only); omega), sk_451, rl_452.pt, (by (try dsimp only); (try simp only [List.length_cons]); omega), (by first | rfl | (simp [List.count_cons]; done)), (by (try dsimp only); have h69 : List.count 6 LL = List.count 6 LL + 0 := (by simp [List.count_cons]); omega)⟩ hP hD hS
    · have dc_439 := i_nlt c_439 rfl (show Int32.toInt 0 = 0 by decide)
      refine lv_aload_n hx hb d_M_test_25 rfl (lv_at hl 1 rfl) ?_
      refine va_get (D := (dC, dI)) (ci := 4) (v := .int te) (C := "SieveDeskModel") (T := F_M) (N := 19) hx hb ht i_M hown hK hP 0 rfl rfl 16 (by decide) (ht _ k_643) (fun _ h9 => h9) rfl d_M_test_26 ?_
      refine lv_bipush (v := 8) hx hb d_M_test_29 (by decide) ?_
      refine lv_icmp_ne (tgt := 39) hx hb d_M_test_31 (by decide) (fun c_453 => ?_) (fun c_453 => ?_)
      · have dc_453 := i_ne c_453 rfl (show Int32.toInt 8 = 8 by decide)
        refine lv_aload_n hx hb d_M_test_39 rfl (lv_at hl 1 rfl) ?_
        refine lv_iload_n hx hb d_M_test_40 rfl (lv_at hl 0 rfl) ?_
        refine lv_bipush (v := 16) hx hb d_M_test_41 (by decide) ?_
        refine lv_icmp_ne (tgt := 50) hx hb d_M_test_43 (by decide) (fun c_454 => ?_) (fun c_454 => ?_)
        · have dc_454 := i_ne c_454 rfl (show Int32.toInt 16 = 16 by decide)
          refine lv_iload_n hx hb d_M_test_50 rfl (lv_at hl 0 rfl) ?_
          refine lv_bipush (v := 17) hx hb d_M_test_51 (by decide) ?_
          refine lv_icmp_ne (tgt := 61) hx hb d_M_test_53 (by decide) (fun c_455 => ?_) (fun c_455 => ?_)
          · have dc_455 := i_ne c_455 rfl (show Int32.toInt 17 = 17 by decide)
            refine lv_iconst (v := 0) hx hb d_M_test_61 (by decide) ?_
            have hc_0 : Int32.toInt 0 = 0 := by decide
            have hFc := va_free (wc := (ME h g ss sa so pl si fa li co st rq bl te op wo wz sr le tx ro)) hD hS hA [0, 1, 2, 3, 4, 5, 6] rfl
            refine va_callv (va_runV (As := [.int 0]) (rest := []) ⟨hx, hb, hml, hown, ht⟩ (c_M_counting l dC dI k h g ss sa so pl si fa li co st rq bl te op wo le wz sr tx ro 0 _ (by omega) (by omega) (by omega) (by omega) (by omega)) (cwV 1 ht (g_V k_807 k_809 k_61 k_80 k_810) rfl rfl rfl (by decide +kernel) ⟨(Nat.le_of_ble_eq_true rfl), (Nat.le_of_ble_eq_true rfl)⟩) ⟨fb_X, va_recv hK hP (ci := 4) (q0 := 0) rfl rfl, pre_X hE hS hFc hP hK hD⟩ rfl rfl hl.1 rfl (lv_room (Nat.le_of_ble_eq_true rfl)) d_M_test_62 ⟨(Nat.le_of_ble_eq_true rfl), (Nat.le_of_ble_eq_true rfl)⟩) hS (fun q _ h9 => hFc q h9) hFc (fun u_460 t H locs het hvm hw hB hz1 hk1 hS => ?_)
            obtain ⟨so_456, fa_457, op_458, co_459⟩ := u_460
            try dsimp only at hw
            obtain ⟨p_462, p_463, p_464, p_465, p_466⟩ := hw
            obtain ⟨hP1, hK1, hD1⟩ := hB
            rw [het] at hP1
            have hP : va_P (dC, dI) cls (ME h g ss sa so_456 pl si fa_457 li co_459 st rq bl te op_458 wo wz sr le tx ro) H := hP1
            have hD : va_D A (ME h g ss sa so_456 pl si fa_457 li co_459 st rq bl te op_458 wo wz sr le tx ro) := hD1.weaken (fun _ _ _ h9 => hFc _ h9)
            have sk_467 : SI LL fa_457 op_458 ro := SI_pr v_13 p_465
            refine lv_aload_n hx hb d_M_test_65 rfl (lv_at hl 1 rfl) ?_
            have hFc := va_free (wc := (ME h g ss sa so_456 pl si fa_457 li co_459 st rq bl te op_458 wo wz sr le tx ro)) hD hS hA [0, 1, 2, 3, 4, 5, 6] rfl
            refine va_callv (va_runV (As := []) (rest := []) ⟨hx, hb, hml, hown, ht⟩ (c_M_next l dC dI k h g ss sa so_456 pl si fa_457 li co_459 st rq bl te op_458 wo le wz sr tx ro  _ (by omega) (by omega) (by omega) (by omega) (by omega) (by omega) (by omega) (by omega) (by omega) (by omega) (by omega)) (cwV 0 ht (g_V k_694 k_696 k_37 k_80 k_697) rfl rfl rfl (by decide +kernel) ⟨(Nat.le_of_ble_eq_true rfl), (Nat.le_of_ble_eq_true rfl)⟩) ⟨fb_X, va_recv hK hP (ci := 4) (q0 := 0) rfl rfl, pre_X hE hS hFc hP hK hD⟩ rfl rfl hl.1 rfl (lv_room (Nat.le_of_ble_eq_true rfl)) d_M_test_66 ⟨(Nat.le_of_ble_eq_true rfl), (Nat.le_of_ble_eq_true rfl)⟩) hS (fun q _ h9 => hFc q h9) hFc (fun u_476 t H locs het hvm hw hB hz1 hk1 hS => ?_)
            obtain ⟨sa_468, so_469, pl_470, fa_471, op_472, si_473, le_474, tx_475⟩ := u_476
            try dsimp only at hw
            obtain ⟨p_478, p_479, p_480, p_481, p_482, p_483, p_484, p_485, p_486, p_487, p_488⟩ := hw
            obtain ⟨hP1, hK1, hD1⟩ := hB
            rw [het] at hP1
            have hP : va_P (dC, dI) cls (ME h g ss sa_468 so_469 pl_470 si_473 fa_471 li co_459 st rq bl te op_472 wo wz sr le_474 tx_475 ro) H := hP1
            have hD : va_D A (ME h g ss sa_468 so_469 pl_470 si_473 fa_471 li co_459 st rq bl te op_472 wo wz sr le_474 tx_475 ro) := hD1.weaken (fun _ _ _ h9 => hFc _ h9)
            have sk_489 : SI LL fa_471 op_472 ro := SI_pr sk_467 p_487
            have rl_490 := p_488.resolve_right (by omega)
            have rl_491 := uUT p_465.pu rl_490.pt
            exact lp_M_test_69  (LL0 := LL) hx hb hml hown ht hE hA hK h_0 h_1 fin r_437 sa_468 so_469 pl_470 fa_471 op_472 si_473 le_474 tx_475 st rq co_459 ro LL te rl_491 rfl (by omega) (by omega) (by omega) (by omega) v_18 (by omega) (by omega) (by omega) (by omega) (by omega) (by omega) (by omega) (by omega) (by omega) sk_489 _ _ ls hP hD hS (lv_sub hl [0, 1] rfl)
          · have dc_455 := i_eq c_455 rfl (show Int32.toInt 17 = 17 by decide)
            refine lv_bipush (v := 16) hx hb d_M_test_56 (by decide) ?_
            refine lv_goto (tgt := 62) hx hb d_M_test_58 (by decide) ?_
            have hc_16 : Int32.toInt 16 = 16 := by decide
            have hFc := va_free (wc := (ME h g ss sa so pl si fa li co st rq bl te op wo wz sr le tx ro)) hD hS hA [0, 1, 2, 3, 4, 5, 6] rfl
            refine va_callv (va_runV (As := [.int 16]) (rest := []) ⟨hx, hb, hml, hown, ht⟩ (c_M_counting l dC dI k h g ss sa so pl si fa li co st rq bl te op wo le wz sr tx ro 16 _ (by omega) (by omega) (by omega) (by omega) (by omega)) (cwV 1 ht (g_V k_807 k_809 k_61 k_80 k_810) rfl rfl rfl (by decide +kernel) ⟨(Nat.le_of_ble_eq_true rfl), (Nat.le_of_ble_eq_true rfl)⟩) ⟨fb_X, va_recv hK hP (ci := 4) (q0 := 0) rfl rfl, pre_X hE hS hFc hP hK hD⟩ rfl rfl hl.1 rfl (lv_room (Nat.le_of_ble_eq_true rfl)) d_M_test_62 ⟨(Nat.le_of_ble_eq_true rfl), (Nat.le_of_ble_eq_true rfl)⟩) hS (fun q _ h9 => hFc q h9) hFc (fun u_496 t H locs het hvm hw hB hz1 hk1 hS => ?_)
            obtain ⟨so_492, fa_493, op_494, co_495⟩ := u_496
            try dsimp only at hw
            obtain ⟨p_498, p_499, p_500, p_501, p_502⟩ := hw
            obtain ⟨hP1, hK1, hD1⟩ := hB
            rw [het] at hP1
            have hP : va_P (dC, dI) cls (ME h g ss sa so_492 pl si fa_493 li co_495 st rq bl te op_494 wo wz sr le tx ro) H := hP1
            have hD : va_D A (ME h g ss sa so_492 pl si fa_493 li co_495 st rq bl te op_494 wo wz sr le tx ro) := hD1.weaken (fun _ _ _ h9 => hFc _ h9)
            have sk_503 : SI LL fa_493 op_494 ro := SI_pr v_13 p_501
            refine lv_aload_n hx hb d_M_test_65 rfl (lv_at hl 1 rfl) ?_
            have hFc := va_free (wc := (ME h g ss sa so_492 pl si fa_493 li co_495 st rq bl te op_494 wo wz sr le tx ro)) hD hS hA [0, 1, 2, 3, 4, 5, 6] rfl
            refine va_callv (va_runV (As := []) (rest := []) ⟨hx, hb, hml, hown, ht⟩ (c_M_next l dC dI k h g ss sa so_492 pl si fa_493 li co_495 st rq bl te op_494 wo le wz sr tx ro  _ (by omega) (by omega) (by omega) (by omega) (by omega) (by omega) (by omega) (by omega) (by omega) (by omega) (by omega)) (cwV 0 ht (g_V k_694 k_696 k_37 k_80 k_697) rfl rfl rfl (by decide +kernel) ⟨(Nat.le_of_ble_eq_true rfl), (Nat.le_of_ble_eq_true rfl)⟩) ⟨fb_X, va_recv hK hP (ci := 4) (q0 := 0) rfl rfl, pre_X hE hS hFc hP hK hD⟩ rfl rfl hl.1 rfl (lv_room (Nat.le_of_ble_eq_true rfl)) d_M_test_66 ⟨(Nat.le_of_ble_eq_true rfl), (Nat.le_of_ble_eq_true rfl)⟩) hS (fun q _ h9 => hFc q h9) hFc (fun u_512 t H locs het hvm hw hB hz1 hk1 hS => ?_)
            obtain ⟨sa_504, so_505, pl_506, fa_507, op_508, si_509, le_510, tx_511⟩ := u_512
            try dsimp only at hw
            obtain ⟨p_514, p_515, p_516, p_517, p_518, p_519, p_520, p_521, p_522, p_523, p_524⟩ := hw
            obtain ⟨hP1, hK1, hD1⟩ := hB
            rw [het] at hP1
            have hP : va_P (dC, dI) cls (ME h g ss sa_504 so_505 pl_506 si_509 fa_507 li co_495 st rq bl te op_508 wo wz sr le_510 tx_511 ro) H := hP1
            have hD : va_D A (ME h g ss sa_504 so_505 pl_506 si_509 fa_507 li co_495 st rq bl te op_508 wo wz sr le_510 tx_511 ro) := hD1.weaken (fun _ _ _ h9 => hFc _ h9)
            have sk_525 : SI LL fa_507 op_508 ro := SI_pr sk_503 p_523
            have rl_526 := p_524.resolve_right (by omega)
            have rl_527 := uUT p_501.pu rl_526.pt
            exact lp_M_test_69  (LL0 := LL) hx hb hml hown ht hE hA hK h_0 h_1 fin r_437 sa_504 so_505 pl_506 fa_507 op_508 si_509 le_510 tx_511 st rq co_495 ro LL te rl_527 rfl (by omega) (by omega) (by omega) (by omega) v_18 (by omega) (by omega) (by omega) (by omega) (by omega) (by omega) (by omega) (by omega) (by omega) sk_525 _ _ ls hP hD hS (lv_sub hl [0, 1] rfl)
        · have dc_454 := i_eq c_454 rfl (show Int32.toInt 16 = 16 by decide)
          refine lv_iconst (v := 4) hx hb d_M_test_46 (by decide) ?_
          refine lv_goto (tgt := 62) hx hb d_M_test_47 (by decide) ?_
          have hc_4 : Int32.toInt 4 = 4 := by decide
          have hFc := va_free (wc := (ME h g ss sa so pl si fa li co st rq bl te op wo wz sr le tx ro)) hD hS hA [0, 1, 2, 3, 4, 5, 6] rfl
          refine va_callv (va_runV (As := [.int 4]) (rest := []) ⟨hx, hb, hml, hown, ht⟩ (c_M_counting l dC dI k h g ss sa so pl si fa li co st rq bl te op wo le wz sr tx ro 4 _ (by omega) (by omega) (by omega) (by omega) (by omega)) (cwV 1 ht (g_V k_807 k_809 k_61 k_80 k_810) rfl rfl rfl (by decide +kernel) ⟨(Nat.le_of_ble_eq_true rfl), (Nat.le_of_ble_eq_true rfl)⟩) ⟨fb_X, va_recv hK hP (ci := 4) (q0 := 0) rfl rfl, pre_X hE hS hFc hP hK hD⟩ rfl rfl hl.1 rfl (lv_room (Nat.le_of_ble_eq_true rfl)) d_M_test_62 ⟨(Nat.le_of_ble_eq_true rfl), (Nat.le_of_ble_eq_true rfl)⟩) hS (fun q _ h9 => hFc q h9) hFc (fun u_532 t H locs het hvm hw hB hz1 hk1 hS => ?_)
          obtain ⟨so_528, fa_529, op_530, co_531⟩ := u_532
          try dsimp only at hw
          obtain ⟨p_534, p_535, p_536, p_537, p_538⟩ := hw
          obtain ⟨hP1, hK1, hD1⟩ := hB
          rw [het] at hP1
          have hP : va_P (dC, dI) cls (ME h g ss sa so_528 pl si fa_529 li co_531 st rq bl te op_530 wo wz sr le tx ro) H := hP1
          have hD : va_D A (ME h g ss sa so_528 pl si fa_529 li co_531 st rq bl te op_530 wo wz sr le tx ro) := hD1.weaken (fun _ _ _ h9 => hFc _ h9)
          have sk_539 : SI LL fa_529 op_530 ro := SI_pr v_13 p_537
          refine lv_aload_n hx hb d_M_test_65 rfl (lv_at hl 1 rfl) ?_
          have hFc := va_free (wc := (ME h g ss sa so_528 pl si fa_529 li co_531 st rq bl te op_530 wo wz sr le tx ro)) hD hS hA [0, 1, 2, 3, 4, 5, 6] rfl
          refine va_callv (va_runV (As := []) (rest := []) ⟨hx, hb, hml, hown, ht⟩ (c_M_next l dC dI k h g ss sa so_528 pl si fa_529 li co_531 st rq bl te op_530 wo le wz sr tx ro  _ (by omega) (by omega) (by omega) (by omega) (by omega) (by omega) (by omega) (by omega) (by omega) (by omega) (by omega)) (cwV 0 ht (g_V k_694 k_696 k_37 k_80 k_697) rfl rfl rfl (by decide +kernel) ⟨(Nat.le_of_ble_eq_true rfl), (Nat.le_of_ble_eq_true rfl)⟩) ⟨fb_X, va_recv hK hP (ci := 4) (q0 := 0) rfl rfl, pre_X hE hS hFc hP hK hD⟩ rfl rfl hl.1 rfl (lv_room (Nat.le_of_ble_eq_true rfl)) d_M_test_66 ⟨(Nat.le_of_ble_eq_true rfl), (Nat.le_of_ble_eq_true rfl)⟩) hS (fun q _ h9 => hFc q h9) hFc (fun u_548 t H locs het hvm hw hB hz1 hk1 hS => ?_)
          obtain ⟨sa_540, so_541, pl_542, fa_543, op_544, si_545, le_546, tx_547⟩ := u_548
          try dsimp only at hw
          obtain ⟨p_550, p_551, p_552, p_553, p_554, p_555, p_556, p_557, p_558, p_559, p_560⟩ := hw
          obtain ⟨hP1, hK1, hD1⟩ := hB
          rw [het] at hP1
          have hP : va_P (dC, dI) cls (ME h g ss sa_540 so_541 pl_542 si_545 fa_543 li co_531 st rq bl te op_544 wo wz sr le_546 tx_547 ro) H := hP1
          have hD : va_D A (ME h g ss sa_540 so_541 pl_542 si_545 fa_543 li co_531 st rq bl te op_544 wo wz sr le_546 tx_547 ro) := hD1.weaken (fun _ _ _ h9 => hFc _ h9)
          have sk_561 : SI LL fa_543 op_544 ro := SI_pr sk_539 p_559
          have rl_562 := p_560.resolve_right (by omega)
          have rl_563 := uUT p_537.pu rl_562.pt
          exact lp_M_test_69  (LL0 := LL) hx hb hml hown ht hE hA hK h_0 h_1 fin r_437 sa_540 so_541 pl_542 fa_543 op_544 si_545 le_546 tx_547 st rq co_531 ro LL te rl_563 rfl (by omega) (by omega) (by omega) (by omega) v_18 (by omega) (by omega) (by omega) (by omega) (by omega) (by omega) (by omega) (by omega) (by omega) sk_561 _ _ ls hP hD hS (lv_sub hl [0, 1] rfl)
      · have dc_453 := i_eq c_453 rfl (show Int32.toInt 8 = 8 by decide)
        refine lv_aload_n hx hb d_M_test_34 rfl (lv_at hl 1 rfl) ?_
        have hFc := va_free (wc := (ME h g ss sa so pl si fa li co st rq bl te op wo wz sr le tx ro)) hD hS hA [0, 1, 2, 3, 4, 5, 6] rfl
        refine va_callv (va_runV (As := []) (rest := []) ⟨hx, hb, hml, hown, ht⟩ (c_M_fail l dC dI k h g ss sa so pl si fa li co st rq bl te op wo le wz sr tx ro  _ (by omega) (by omega) (by omega) (by omega)) (cwV 0 ht (g_V k_763 k_765 k_50 k_80 k_766) rfl rfl rfl (by decide +kernel) ⟨(Nat.le_of_ble_eq_true rfl), (Nat.le_of_ble_eq_true rfl)⟩) ⟨fb_X, va_recv hK hP (ci := 4) (q0 := 0) rfl rfl, pre_X hE hS hFc hP hK hD⟩ rfl rfl hl.1 rfl (lv_room (Nat.le_of_ble_eq_true rfl)) d_M_test_35 ⟨(Nat.le_of_ble_eq_true rfl), (Nat.le_of_ble_eq_true rfl)⟩) hS (fun q _ h9 => hFc q h9) hFc (fun u_567 t H locs het hvm hw hB hz1 hk1 hS => ?_)
        obtain ⟨so_564, fa_565, op_566⟩ := u_567
        try dsimp only at hw
        obtain ⟨p_569, p_570, p_571, p_572, p_573, p_574⟩ := hw
        obtain ⟨hP1, hK1, hD1⟩ := hB
        rw [het] at hP1
        have hP : va_P (dC, dI) cls (ME h g ss sa so_564 pl si fa_565 li co st rq bl te op_566 wo wz sr le tx ro) H := hP1
        have hD : va_D A (ME h g ss sa so_564 pl si fa_565 li co st rq bl te op_566 wo wz sr le tx ro) := hD1.weaken (fun _ _ _ h9 => hFc _ h9)
        have sk_575 : SI LL fa_565 op_566 ro := SI_fault (by omega)
        have rl_576 : PS ss sa so fa op sa so_564 fa_565 op_566 := pr_out (by omega) (by omega) (by omega) _ _ _ _ (by omega)
        exact fin  (sa, so_564, pl, fa_565, op_566, si, le, tx, st, rq, co, ro, LL, te) _ _ _ ls d_M_test_38 ⟨(by (try dsimp only); omega), (by (try dsimp only); omega), (by (try dsimp only); omega), (by (try dsimp only); omega), (by (try dsimp only); omega), (by (try dsimp only); omega), (by (try dsimp only); omega), (by (try dsimp only); omega), (by (try dsimp only); omega), sk_575, rl_576.pt, (by (try dsimp only); (try simp only [List.length_cons]); omega), (by first | rfl | (simp [List.count_cons]; done)), (by (try dsimp only); have h69 : List.count 6 LL = List.count 6 LL + 0 := (by simp [List.count_cons]); omega)⟩ hP hD hS
set_option maxHeartbeats 4000000 in
set_option maxRecDepth 100000 in
theorem c_M_test (l : Launch) (dC : Nat → ClassId) (dI : Nat → Nat → Nat) (k : Nat → Nat) (h : Nat → Nat) (g : Nat → ClassId) (ss : Int32) (sa : Int32) (so : Int32) (pl : Int32) (si : Int32) (fa : Int32) (li : Int32) (co : Int32) (st : Int32) (rq : Int32) (bl : Int32) (te : Int32) (op : Int32) (wo : Nat → Int64) (le : Nat → Int64) (wz : Nat → Int32) (sr : Nat → Int32) (tx : Nat → Int32) (ro : Nat → Int32) (LL : List Nat)  (sz : Nat) (h_0 : 0 ≤ Int32.toInt ss) (h_1 : Int32.toInt ss ≤ 400) (v_0 : 0 ≤ Int32.toInt sa) (v_1 : Int32.toInt sa ≤ Int32.toInt ss) (v_2 : 0 ≤ Int32.toInt pl) (v_3 : Int32.toInt pl ≤ 400) (v_4 : -1 ≤ Int32.toInt fa) (v_5 : Int32.toInt fa ≤ 400) (v_6 : Int32.toInt fa < 0 ∨ (Int32.toInt so = 0 ∧ Int32.toInt op = 0)) (v_7 : 0 ≤ Int32.toInt si) (v_8 : Int32.toInt si ≤ 400) (v_9 : SI LL fa op ro) (v_10 : Int32.toInt fa < 0) (v_11 : Int32.toInt te = List.count 6 LL) (v_12 : List.count 6 LL ≤ 8) (v_13 : LL.length ≤ 40) (v_14 : wfp (6 :: LL)) : Met l y_M_test (.code y_M_test b_M_test 2 none :: TT) ({ frames := 7, cells := 0, slots := 0, locals := 153 }) (va_Pc [.ref (h 0)] (PX dC dI k (TM g) (ME h g ss sa so pl si fa li co st rq bl te op wo wz sr le tx ro) sz)) (va_Qv (fun u : Int32 × Int32 × Int32 × Int32 × Int32 × Int32 × (Nat → Int64) × (Nat → Int32) × Int32 × Int32 × Int32 × (Nat → Int32) × List Nat × Int32 => 0 ≤ Int32.toInt u.1 ∧ Int32.toInt u.1 ≤ Int32.toInt ss ∧ 0 ≤ Int32.toInt u.2.2.1 ∧ Int32.toInt u.2.2.1 ≤ 400 ∧ -1 ≤ Int32.toInt u.2.2.2.1 ∧ Int32.toInt u.2.2.2.1 ≤ 400 ∧ (Int32.toInt u.2.2.2.1 < 0 ∨ (Int32.toInt u.2.1 = 0 ∧ Int32.toInt u.2.2.2.2.1 = 0)) ∧ 0 ≤ Int32.toInt u.2.2.2.2.2.1 ∧ Int32.toInt u.2.2.2.2.2.1 ≤ 400 ∧ SI u.2.2.2.2.2.2.2.2.2.2.2.2.1 u.2.2.2.1 u.2.2.2.2.1 u.2.2.2.2.2.2.2.2.2.2.2.1 ∧ PT ss sa so fa u.1 u.2.1 u.2.2.2.1 ∧ u.2.2.2.2.2.2.2.2.2.2.2.2.1.length ≤ LL.length + 3 ∧ List.count 1 u.2.2.2.2.2.2.2.2.2.2.2.2.1 = List.count 1 LL ∧ (0 ≤ Int32.toInt u.2.2.2.1 ∨ (Int32.toInt u.2.2.2.2.2.2.2.2.2.2.2.2.2 = List.count 6 u.2.2.2.2.2.2.2.2.2.2.2.2.1 ∧ List.count 6 u.2.2.2.2.2.2.2.2.2.2.2.2.1 ≤ 8))) (fun u t => BX dC dI (TM g) (va_A (ME h g ss sa so pl si fa li co st rq bl te op wo wz sr le tx ro) sz) (ME h g ss u.1 u.2.1 u.2.2.1 u.2.2.2.2.2.1 u.2.2.2.1 li u.2.2.2.2.2.2.2.2.2.2.1 u.2.2.2.2.2.2.2.2.1 u.2.2.2.2.2.2.2.2.2.1 bl u.2.2.2.2.2.2.2.2.2.2.2.2.2 u.2.2.2.2.1 wo wz sr u.2.2.2.2.2.2.1 u.2.2.2.2.2.2.2.1 u.2.2.2.2.2.2.2.2.2.2.2.1) t) (va_A (ME h g ss sa so pl si fa li co st rq bl te op wo wz sr le tx ro) sz)) 0 0 (va_A (ME h g ss sa so pl si fa li co st rq bl te op wo wz sr le tx ro) sz) := by
  refine Met.ofW (cc := b_M_test) (maxL := 2) (ret := none) (by decide) rfl ?_
  intro p e s m args below meth c s₁ B hml hv
  obtain ⟨rfl, hsz, hE, hP, hK, hD0⟩ := hv
  have hx := B.exec
  have hb := B.bytes
  have hr := B.returns
  have ht : ∀ w ∈ TT, w.before _ s = true := fun w hw => atoms_spec (ws := .code y_M_test b_M_test 2 none :: TT) B.pre w (List.mem_cons_of_mem _ hw)
  have hown : s.vm.findClass "SieveDeskModel" = some m.cls := findClass_of_methodNamed B.named
  have hlocks := B.notSynchronized
  subst hsz
  have hD := hD0.self (sz := s.heap.size)
  generalize hAe : va_A (ME h g ss sa so pl si fa li co st rq bl te op wo wz sr le tx ro) s.heap.size = A at hE hD ⊢
  have hA : ∀ q : Nat, s.heap.size ≤ q → A q := fun q h9 => by rw [← hAe]; exact Or.inr h9
  have hS : va_S A s.heap s.heap [] := va_S.rf
  have hl := lv_entry ([.ref (h 0)]) (n := 2) (Nat.le_of_ble_eq_true rfl)
  rw [lg_entry_eq]
  generalize (lg_sl ([.ref (h 0)]) ++ List.replicate (2 - (lg_sl ([.ref (h 0)])).length) Slot.unset).toArray = ls at hl ⊢
  have hl : lv_has ls 2 [(0, .ref (h 0))] := hl
  exact bd_M_test_0  hx hb hml hown ht hE hA hK h_0 h_1 (fun u H locs pc ls hd hp hP hD hS => W.vret hx hb hr (fun t het hW => ⟨⟨u, rfl, hp, by rw [het]; exact hP, va_K.moved hW.alike hK, hD⟩, hS.F het⟩) hS.2.2 hd) sa so pl fa op si le tx st rq co ro LL te rfl rfl rfl rfl v_0 v_1 v_2 v_3 v_4 v_5 v_6 v_7 v_8 v_9 v_10 v_11 v_12 v_13 v_14 _ _ ls hP hD hS hl

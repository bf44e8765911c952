set_option maxHeartbeats 4000000 in
set_option maxRecDepth 100000 in
theorem lp_M_file_28 {p : Program} {l : Launch} {e : Env} {s : State} {m : MethodId} {args : Array Value} {below : List Frame} {meth : Method} {c : Code} {Q : State → Prop} {A : Nat → Prop} {dC : Nat → ClassId} {dI : Nat → Nat → Nat} {k h : Nat → Nat} {g : Nat → ClassId} {ss : Int32} {li : Int32} {co : Int32} {rq : Int32} {bl : Int32} {te : Int32} {wo : Nat → Int64} {wz : Nat → Int32} {sr : Nat → Int32} {ro : Nat → Int32} {sa0 : Int32} {so0 : Int32} {fa0 : Int32} {op0 : Int32} (hx : p.tables.exec = Jvm.exec) (hb : c.code = b_M_file) (hml : c.maxLocals = 3) (hown : s.vm.findClass "SieveDeskModel" = some m.cls) (ht : ∀ w ∈ TT, w.before args s = true) (hE : KE k A s s.heap) (hA : ∀ q : Nat, s.heap.size ≤ q → A q) (hK : va_K (dC, dI) cls (TM g) s)  (h_0 : 0 ≤ Int32.toInt ss) (h_1 : Int32.toInt ss ≤ 400) (fin : ∀ (u : Int32 × Int32 × Int32 × Int32 × Int32 × Int32 × (Nat → Int64) × (Nat → Int32) × Int32) (H : Heap) (locs : List Loc) (pc : Nat) (ls : Array Slot), decode b_M_file pc = .ok (.return_, 1) → (0 ≤ Int32.toInt u.1 ∧ Int32.toInt u.1 ≤ Int32.toInt ss ∧ 0 ≤ Int32.toInt u.2.2.1 ∧ Int32.toInt u.2.2.1 ≤ 400 ∧ -1 ≤ Int32.toInt u.2.2.2.1 ∧ Int32.toInt u.2.2.2.1 ≤ 400 ∧ (Int32.toInt u.2.2.2.1 < 0 ∨ (Int32.toInt u.2.1 = 0 ∧ Int32.toInt u.2.2.2.2.1 = 0)) ∧ 0 ≤ Int32.toInt u.2.2.2.2.2.1 ∧ Int32.toInt u.2.2.2.2.2.1 ≤ 400 ∧ PS ss sa0 so0 fa0 op0 u.1 u.2.1 u.2.2.2.1 u.2.2.2.2.1) → va_P (dC, dI) cls (ME h g ss u.1 u.2.1 u.2.2.1 u.2.2.2.2.2.1 u.2.2.2.1 li co u.2.2.2.2.2.2.2.2 rq bl te u.2.2.2.2.1 wo wz sr u.2.2.2.2.2.2.1 u.2.2.2.2.2.2.2.1 ro) H → va_D A (ME h g ss u.1 u.2.1 u.2.2.1 u.2.2.2.2.2.1 u.2.2.2.1 li co u.2.2.2.2.2.2.2.2 rq bl te u.2.2.2.2.1 wo wz sr u.2.2.2.2.2.2.1 u.2.2.2.2.2.2.2.1 ro) → va_S A s.heap H locs → W p l e ({ frames := 5, cells := 0, slots := 0, locals := 106 } : Room) s m args below meth c H locs 0 0 Q (F0 m pc ls [])) : ∀ (nn : Nat), ∀ (fn : Int32) (kk : Int32) (sa : Int32) (so : Int32) (pl : Int32) (fa : Int32) (op : Int32) (si : Int32) (le : Nat → Int64) (tx : Nat → Int32) (st : Int32), PR ss sa0 so0 fa0 op0 sa so fa op → (0 ≤ Int32.toInt fa ∨ Int32.toInt so = 4) → 0 ≤ Int32.toInt kk → Int32.toInt kk ≤ 400 → 0 ≤ Int32.toInt sa → Int32.toInt sa ≤ Int32.toInt ss → 0 ≤ Int32.toInt pl → Int32.toInt pl ≤ 400 → -1 ≤ Int32.toInt fa → Int32.toInt fa ≤ 400 → (Int32.toInt fa < 0 ∨ (Int32.toInt so = 0 ∧ Int32.toInt op = 0)) → 0 ≤ Int32.toInt si → Int32.toInt si ≤ 400 → (400 - Int32.toInt kk).toNat < nn → ∀ (H : Heap) (locs : List Loc) (ls : Array Slot), va_P (dC, dI) cls (ME h g ss sa so pl si fa li co st rq bl te op wo wz sr le tx ro) H → va_D A (ME h g ss sa so pl si fa li co st rq bl te op wo wz sr le tx ro) → va_S A s.heap H locs → lv_has ls 3 [(1, .int fn), (2, .int kk), (0, .ref (h 0))] → W p l e ({ frames := 5, cells := 0, slots := 0, locals := 106 } : Room) s m args below meth c H locs 0 0 Q (F0 m 28 ls []) := by
  intro nn
  induction nn with
  | zero =>
    intro _ _ _ _ _ _ _ _ _ _ _ _ _ _ _ _ _ _ _ _ _ _ _ _ hm
    exact absurd hm (Nat.not_lt_zero _)
  | succ nn ih =>
    intro fn kk sa so pl fa op si le tx st v_0 v_1 v_2 v_3 v_4 v_5 v_6 v_7 v_8 v_9 v_10 v_11 v_12 hm H locs ls hP hD hS hl
    refine lv_iload_n hx hb d_M_file_28 rfl (lv_at hl 1 rfl) ?_
    refine lv_aload_n hx hb d_M_file_29 rfl (lv_at hl 2 rfl) ?_
    refine va_get (D := (dC, dI)) (ci := 4) (v := .int si) (C := "SieveDeskModel") (T := F_M) (N := 19) hx hb ht i_M hown hK hP 0 rfl rfl 7 (by decide) (ht _ k_634) (fun _ h9 => h9) rfl d_M_file_30 ?_
    refine lv_icmp_ge (tgt := 85) hx hb d_M_file_33 (by decide) (fun c_1 => ?_) (fun c_1 => ?_)
    · have dc_1 := i_le c_1 rfl rfl
      refine lv_iload_n hx hb d_M_file_85 rfl (lv_at hl 0 rfl) ?_
      refine lv_if_ne (tgt := 93) hx hb d_M_file_86 (by decide) (fun c_2 => ?_) (fun c_2 => ?_)
      · refine lv_aload_n hx hb d_M_file_93 rfl (lv_at hl 2 rfl) ?_
        have hFc := va_free (wc := (ME h g ss sa so pl si fa li co st rq bl te op wo wz sr le tx ro)) hD hS hA [0, 1, 2, 3, 4, 5, 6] rfl
        refine va_callv (va_runV (As := []) (rest := []) ⟨hx, hb, hml, hown, ht⟩ (c_M_next l dC dI k h g ss sa so pl si fa li co st rq bl te op wo le wz sr tx ro  _ (by omega) (by omega) (by omega) (by omega) (by omega) (by omega) (by omega) (by omega) (by omega) (by omega) (by omega)) (cwV 0 ht (g_V k_694 k_696 k_37 k_80 k_697) rfl rfl rfl (by decide +kernel) ⟨(Nat.le_of_ble_eq_true rfl), (Nat.le_of_ble_eq_true rfl)⟩) ⟨fb_X, va_recv hK hP (ci := 4) (q0 := 0) rfl rfl, pre_X hE hS hFc hP hK hD⟩ rfl rfl hl.1 rfl (lv_room (Nat.le_of_ble_eq_true rfl)) d_M_file_94 ⟨(Nat.le_of_ble_eq_true rfl), (Nat.le_of_ble_eq_true rfl)⟩) hS (fun q _ h9 => hFc q h9) hFc (fun u_11 t H locs het hvm hw hB hz1 hk1 hS => ?_)
        obtain ⟨sa_3, so_4, pl_5, fa_6, op_7, si_8, le_9, tx_10⟩ := u_11
        try dsimp only at hw
        obtain ⟨p_13, p_14, p_15, p_16, p_17, p_18, p_19, p_20, p_21, p_22, p_23⟩ := hw
        obtain ⟨hP1, hK1, hD1⟩ := hB
        rw [het] at hP1
        have hP : va_P (dC, dI) cls (ME h g ss sa_3 so_4 pl_5 si_8 fa_6 li co st rq bl te op_7 wo wz sr le_9 tx_10 ro) H := hP1
        have hD : va_D A (ME h g ss sa_3 so_4 pl_5 si_8 fa_6 li co st rq bl te op_7 wo wz sr le_9 tx_10 ro) := hD1.weaken (fun _ _ _ h9 => hFc _ h9)
        have rl_24 := p_23.resolve_right (by omega)
        exact fin  (sa_3, so_4, pl_5, fa_6, op_7, si_8, le_9, tx_10, st) _ _ _ ls d_M_file_97 ⟨(by (try dsimp only); omega), (by (try dsimp only); omega), (by (try dsimp only); omega), (by (try dsimp only); omega), (by (try dsimp only); omega), (by (try dsimp only); omega), (by (try dsimp only); omega), (by (try dsimp only); omega), (by (try dsimp only); omega), (rRS v_0 rl_24)⟩ hP hD hS
      · refine lv_aload_n hx hb d_M_file_89 rfl (lv_at hl 2 rfl) ?_
        have hFc := va_free (wc := (ME h g ss sa so pl si fa li co st rq bl te op wo wz sr le tx ro)) hD hS hA [0, 1, 2, 3, 4, 5, 6] rfl
        refine va_callv (va_runV (As := []) (rest := []) ⟨hx, hb, hml, hown, ht⟩ (c_M_fail l dC dI k h g ss sa so pl si fa li co st rq bl te op wo le wz sr tx ro  _ (by omega) (by omega) (by omega) (by omega)) (cwV 0 ht (g_V k_763 k_765 k_50 k_80 k_766) rfl rfl rfl (by decide +kernel) ⟨(Nat.le_of_ble_eq_true rfl), (Nat.le_of_ble_eq_true rfl)⟩) ⟨fb_X, va_recv hK hP (ci := 4) (q0 := 0) rfl rfl, pre_X hE hS hFc hP hK hD⟩ rfl rfl hl.1 rfl (lv_room (Nat.le_of_ble_eq_true rfl)) d_M_file_90 ⟨(Nat.le_of_ble_eq_true rfl), (Nat.le_of_ble_eq_true rfl)⟩) hS (fun q _ h9 => hFc q h9) hFc (fun u_28 t H locs het hvm hw hB hz1 hk1 hS => ?_)
        obtain ⟨so_25, fa_26, op_27⟩ := u_28
        try dsimp only at hw
        obtain ⟨p_30, p_31, p_32, p_33, p_34, p_35⟩ := hw
        obtain ⟨hP1, hK1, hD1⟩ := hB
        rw [het] at hP1
        have hP : va_P (dC, dI) cls (ME h g ss sa so_25 pl si fa_26 li co st rq bl te op_27 wo wz sr le tx ro) H := hP1
        have hD : va_D A (ME h g ss sa so_25 pl si fa_26 li co st rq bl te op_27 wo wz sr le tx ro) := hD1.weaken (fun _ _ _ h9 => hFc _ h9)
        have rl_36 : PS ss sa so fa op sa so_25 fa_26 op_27 := pr_out (by omega) (by omega) (by omega) _ _ _ _ (by omega)
        refine lv_aload_n hx hb d_M_file_93 rfl (lv_at hl 2 rfl) ?_
        have hFc := va_free (wc := (ME h g ss sa so_25 pl si fa_26 li co st rq bl te op_27 wo wz sr le tx ro)) hD hS hA [0, 1, 2, 3, 4, 5, 6] rfl
        refine va_callv (va_runV (As := []) (rest := []) ⟨hx, hb, hml, hown, ht⟩ (c_M_next l dC dI k h g ss sa so_25 pl si fa_26 li co st rq bl te op_27 wo le wz sr tx ro  _ (by omega) (by omega) (by omega) (by omega) (by omega) (by omega) (by omega) (by omega) (by omega) (by omega) (by omega)) (cwV 0 ht (g_V k_694 k_696 k_37 k_80 k_697) rfl rfl rfl (by decide +kernel) ⟨(Nat.le_of_ble_eq_true rfl), (Nat.le_of_ble_eq_true rfl)⟩) ⟨fb_X, va_recv hK hP (ci := 4) (q0 := 0) rfl rfl, pre_X hE hS hFc hP hK hD⟩ rfl rfl hl.1 rfl (lv_room (Nat.le_of_ble_eq_true rfl)) d_M_file_94 ⟨(Nat.le_of_ble_eq_true rfl), (Nat.le_of_ble_eq_true rfl)⟩) hS (fun q _ h9 => hFc q h9) hFc (fun u_45 t H locs het hvm hw hB hz1 hk1 hS => ?_)
        obtain ⟨sa_37, so_38, pl_39, fa_40, op_41, si_42, le_43, tx_44⟩ := u_45
        try dsimp only at hw
        obtain ⟨p_47, p_48, p_49, p_50, p_51, p_52, p_53, p_54, p_55, p_56, p_57⟩ := hw
        obtain ⟨hP1, hK1, hD1⟩ := hB
        rw [het] at hP1
        have hP : va_P (dC, dI) cls (ME h g ss sa_37 so_38 pl_39 si_42 fa_40 li co st rq bl te op_41 wo wz sr le_43 tx_44 ro) H := hP1
        have hD : va_D A (ME h g ss sa_37 so_38 pl_39 si_42 fa_40 li co st rq bl te op_41 wo wz sr le_43 tx_44 ro) := hD1.weaken (fun _ _ _ h9 => hFc _ h9)
        have rl_58 := p_57.resolve_right (by omega)
        have rl_59 := rSS rl_36 rl_58
        exact fin  (sa_37, so_38, pl_39, fa_40, op_41, si_42, le_43, tx_44, st) _ _ _ ls d_M_file_97 ⟨(by (try dsimp only); omega), (by (try dsimp only); omega), (by (try dsimp only); omega), (by (try dsimp only); omega), (by (try dsimp only); omega), (by (try dsimp only); omega), (by (try dsimp only); omega), (by (try dsimp only); omega), (by (try dsimp only); omega), (rRS v_0 rl_59)⟩ hP hD hS
    · have dc_1 := i_nle c_1 rfl rfl
      refine lv_iload_n hx hb d_M_file_36 rfl (lv_at hl 0 rfl) ?_
      refine lv_if_eq (tgt := 85) hx hb d_M_file_37 (by decide) (fun c_60 => ?_) (fun c_60 => ?_)
      · refine lv_iload_n hx hb d_M_file_85 rfl (lv_at hl 0 rfl) ?_
        refine lv_if_ne (tgt := 93) hx hb d_M_file_86 (by decide) (fun c_61 => ?_) (fun c_61 => ?_)
        · refine lv_aload_n hx hb d_M_file_93 rfl (lv_at hl 2 rfl) ?_
          have hFc := va_free (wc := (ME h g ss sa so pl si fa li co st rq bl te op wo wz sr le tx ro)) hD hS hA [0, 1, 2, 3, 4, 5, 6] rfl
          refine va_callv (va_runV (As := []) (rest := []) ⟨hx, hb, hml, hown, ht⟩ (c_M_next l dC dI k h g ss sa so pl si fa li co st rq bl te op wo le wz sr tx ro  _ (by omega) (by omega) (by omega) (by omega) (by omega) (by omega) (by omega) (by omega) (by omega) (by omega) (by omega)) (cwV 0 ht (g_V k_694 k_696 k_37 k_80 k_697) rfl rfl rfl (by decide +kernel) ⟨(Nat.le_of_ble_eq_true rfl), (Nat.le_of_ble_eq_true rfl)⟩) ⟨fb_X, va_recv hK hP (ci := 4) (q0 := 0) rfl rfl, pre_X hE hS hFc hP hK hD⟩ rfl rfl hl.1 rfl (lv_room (Nat.le_of_ble_eq_true rfl)) d_M_file_94 ⟨(Nat.le_of_ble_eq_true rfl), (Nat.le_of_ble_eq_true rfl)⟩) hS (fun q _ h9 => hFc q h9) hFc (fun u_70 t H locs het hvm hw hB hz1 hk1 hS => ?_)
          obtain ⟨sa_62, so_63, pl_64, fa_65, op_66, si_67, le_68, tx_69⟩ := u_70
          try dsimp only at hw
          obtain ⟨p_72, p_73, p_74, p_75, p_76, p_77, p_78, p_79, p_80, p_81, p_82⟩ := hw
          obtain ⟨hP1, hK1, hD1⟩ := hB
          rw [het] at hP1
          have hP : va_P (dC, dI) cls (ME h g ss sa_62 so_63 pl_64 si_67 fa_65 li co st rq bl te op_66 wo wz sr le_68 tx_69 ro) H := hP1
          have hD : va_D A (ME h g ss sa_62 so_63 pl_64 si_67 fa_65 li co st rq bl te op_66 wo wz sr le_68 tx_69 ro) := hD1.weaken (fun _ _ _ h9 => hFc _ h9)
          have rl_83 := p_82.resolve_right (by omega)
          exact fin  (sa_62, so_63, pl_64, fa_65, op_66, si_67, le_68, tx_69, st) _ _ _ ls d_M_file_97 ⟨(by (try dsimp only); omega), (by (try dsimp only); omega), (by (try dsimp only); omega), (by (try dsimp only); omega), (by (try dsimp only); omega), (by (try dsimp only); omega), (by (try dsimp only); omega), (by (try dsimp only); omega), (by (try dsimp only); omega), (rRS v_0 rl_83)⟩ hP hD hS
        · refine lv_aload_n hx hb d_M_file_89 rfl (lv_at hl 2 rfl) ?_
          have hFc := va_free (wc := (ME h g ss sa so pl si fa li co st rq bl te op wo wz sr le tx ro)) hD hS hA [0, 1, 2, 3, 4, 5, 6] rfl
          refine va_callv (va_runV (As := []) (rest := []) ⟨hx, hb, hml, hown, ht⟩ (c_M_fail l dC dI k h g ss sa so pl si fa li co st rq bl te op wo le wz sr tx ro  _ (by omega) (by omega) (by omega) (by omega)) (cwV 0 ht (g_V k_763 k_765 k_50 k_80 k_766) rfl rfl rfl (by decide +kernel) ⟨(Nat.le_of_ble_eq_true rfl), (Nat.le_of_ble_eq_true rfl)⟩) ⟨fb_X, va_recv hK hP (ci := 4) (q0 := 0) rfl rfl, pre_X hE hS hFc hP hK hD⟩ rfl rfl hl.1 rfl (lv_room (Nat.le_of_ble_eq_true rfl)) d_M_file_90 ⟨(Nat.le_of_ble_eq_true rfl), (Nat.le_of_ble_eq_true rfl)⟩) hS (fun q _ h9 => hFc q h9) hFc (fun u_87 t H locs het hvm hw hB hz1 hk1 hS => ?_)
          obtain ⟨so_84, fa_85, op_86⟩ := u_87
          try dsimp only at hw
          obtain ⟨p_89, p_90, p_91, p_92, p_93, p_94⟩ := hw
          obtain ⟨hP1, hK1, hD1⟩ := hB
          rw [het] at hP1
          have hP : va_P (dC, dI) cls (ME h g ss sa so_84 pl si fa_85 li co st rq bl te op_86 wo wz sr le tx ro) H := hP1
          have hD : va_D A (ME h g ss sa so_84 pl si fa_85 li co st rq bl te op_86 wo wz sr le tx ro) := hD1.weaken (fun _ _ _ h9 => hFc _ h9)
          have rl_95 : PS ss sa so fa op sa so_84 fa_85 op_86 := pr_out (by omega) (by omega) (by omega) _ _ _ _ (by omega)
          refine lv_aload_n hx hb d_M_file_93 rfl (lv_at hl 2 rfl) ?_
          have hFc := va_free (wc := (ME h g ss sa so_84 pl si fa_85 li co st rq bl te op_86 wo wz sr le tx ro)) hD hS hA [0, 1, 2, 3, 4, 5, 6] rfl
          refine va_callv (va_runV (As := []) (rest := []) ⟨hx, hb, hml, hown, ht⟩ (c_M_next l dC dI k h g ss sa so_84 pl si fa_85 li co st rq bl te op_86 wo le wz sr tx ro  _ (by omega) (by omega) (by omega) (by omega) (by omega) (by omega) (by omega) (by omega) (by omega) (by omega) (by omega)) (cwV 0 ht (g_V k_694 k_696 k_37 k_80 k_697) rfl rfl rfl (by decide +kernel) ⟨(Nat.le_of_ble_eq_true rfl), (Nat.le_of_ble_eq_true rfl)⟩) ⟨fb_X, va_recv hK hP (ci := 4) (q0 := 0) rfl rfl, pre_X hE hS hFc hP hK hD⟩ rfl rfl hl.1 rfl (lv_room (Nat.le_of_ble_eq_true rfl)) d_M_file_94 ⟨(Nat.le_of_ble_eq_true rfl), (Nat.le_of_ble_eq_true rfl)⟩) hS (fun q _ h9 => hFc q h9) hFc (fun u_104 t H locs het hvm hw hB hz1 hk1 hS => ?_)
          obtain ⟨sa_96, so_97, pl_98, fa_99, op_100, si_101, le_102, tx_103⟩ := u_104
          try dsimp only at hw
          obtain ⟨p_106, p_107, p_108, p_109, p_110, p_111, p_112, p_113, p_114, p_115, p_116⟩ := hw
          obtain ⟨hP1, hK1, hD1⟩ := hB
          rw [het] at hP1
          have hP : va_P (dC, dI) cls (ME h g ss sa_96 so_97 pl_98 si_101 fa_99 li co st rq bl te op_100 wo wz sr le_102 tx_103 ro) H := hP1
          have hD : va_D A (ME h g ss sa_96 so_97 pl_98 si_101 fa_99 li co st rq bl te op_100 wo wz sr le_102 tx_103 ro) := hD1.weaken (fun _ _ _ h9 => hFc _ h9)
          have rl_117 := p_116.resolve_right (by omega)
          have rl_118 := rSS rl_95 rl_117
          exact fin  (sa_96, so_97, pl_98, fa_99, op_100, si_101, le_102, tx_103, st) _ _ _ ls d_M_file_97 ⟨(by (try dsimp only); omega), (by (try dsimp only); omega), (by (try dsimp only); omega), (by (try dsimp only); omega), (by (try dsimp only); omega), (by (try dsimp only); omega), (by (try dsimp only); omega), (by (try dsimp only); omega), (by (try dsimp only); omega), (rRS v_0 rl_118)⟩ hP hD hS
      · refine lv_aload_n hx hb d_M_file_40 rfl (lv_at hl 2 rfl) ?_
        refine va_get (D := (dC, dI)) (ci := 4) (v := .ref (h 5)) (C := "SieveDeskModel") (T := F_M) (N := 19) hx hb ht i_M hown hK hP 0 rfl rfl 9 (by decide) (ht _ k_636) (fun _ h9 => h9) rfl d_M_file_41 ?_
        refine lv_iload_n hx hb d_M_file_44 rfl (lv_at hl 1 rfl) ?_
        refine va_iald hx hb hK hP 5 4 rfl rfl (i_in rfl (by omega) (by omega)) d_M_file_45 ?_
        refine lv_bipush (v := 32) hx hb d_M_file_46 (by decide) ?_
        refine lv_icmp_lt (tgt := 77) hx hb d_M_file_48 (by decide) (fun c_119 => ?_) (fun c_119 => ?_)
        · refine lv_iconst (v := 0) hx hb d_M_file_77 (by decide) ?_
          refine lv_istore_n (lv' := [(1, .int 0), (2, .int kk), (0, .ref (h 0))]) hx hb d_M_file_78 rfl hl (by decide) rfl (fun ls hl => ?_)
          refine lv_iinc (v := (kk + 1)) (lv' := [(2, .int (kk + 1)), (1, .int 0), (0, .ref (h 0))]) hx hb d_M_file_79 hl (k := 1) rfl rfl (by decide) rfl (fun ls hl => ?_)
          have e_120 : Int32.toInt (kk + 1) = (Int32.toInt kk) + 1 := i_add rfl (show Int32.toInt 1 = 1 by decide) (by omega) (by omega)
          refine lv_goto (tgt := 28) hx hb d_M_file_82 (by decide) ?_
          have hc_0 : Int32.toInt 0 = 0 := by decide
          exact ih 0 (kk + 1) sa so pl fa op si le tx st v_0 (by omega) (by omega) (by omega) (by omega) (by omega) (by omega) (by omega) (by omega) (by omega) (by omega) (by omega) (by omega) (by omega) _ _ ls hP hD hS (lv_sub hl [1, 0, 2] rfl)
        · refine lv_aload_n hx hb d_M_file_51 rfl (lv_at hl 2 rfl) ?_
          refine va_get (D := (dC, dI)) (ci := 4) (v := .ref (h 5)) (C := "SieveDeskModel") (T := F_M) (N := 19) hx hb ht i_M hown hK hP 0 rfl rfl 9 (by decide) (ht _ k_636) (fun _ h9 => h9) rfl d_M_file_52 ?_
          refine lv_iload_n hx hb d_M_file_55 rfl (lv_at hl 1 rfl) ?_
          refine va_iald hx hb hK hP 5 4 rfl rfl (i_in rfl (by omega) (by omega)) d_M_file_56 ?_
          refine lv_bipush (v := 127) hx hb d_M_file_57 (by decide) ?_
          refine lv_icmp_ge (tgt := 77) hx hb d_M_file_59 (by decide) (fun c_121 => ?_) (fun c_121 => ?_)
          · refine lv_iconst (v := 0) hx hb d_M_file_77 (by decide) ?_
            refine lv_istore_n (lv' := [(1, .int 0), (2, .int kk), (0, .ref (h 0))]) hx hb d_M_file_78 rfl hl (by decide) rfl (fun ls hl => ?_)
            refine lv_iinc (v := (kk + 1)) (lv' := [(2, .int (kk + 1)), (1, .int 0), (0, .ref (h 0))]) hx hb d_M_file_79 hl (k := 1) rfl rfl (by decide) rfl (fun ls hl => ?_)
            have e_122 : Int32.toInt (kk + 1) = (Int32.toInt kk) + 1 := i_add rfl (show Int32.toInt 1 = 1 by decide) (by omega) (by omega)
            refine lv_goto (tgt := 28) hx hb d_M_file_82 (by decide) ?_
            have hc_0 : Int32.toInt 0 = 0 := by decide
            exact ih 0 (kk + 1) sa so pl fa op si le tx st v_0 (by omega) (by omega) (by omega) (by omega) (by omega) (by omega) (by omega) (by omega) (by omega) (by omega) (by omega) (by omega) (by omega) _ _ ls hP hD hS (lv_sub hl [1, 0, 2] rfl)
          · refine lv_aload_n hx hb d_M_file_62 rfl (lv_at hl 2 rfl) ?_
            refine va_get (D := (dC, dI)) (ci := 4) (v := .ref (h 5)) (C := "SieveDeskModel") (T := F_M) (N := 19) hx hb ht i_M hown hK hP 0 rfl rfl 9 (by decide) (ht _ k_636) (fun _ h9 => h9) rfl d_M_file_63 ?_
            refine lv_iload_n hx hb d_M_file_66 rfl (lv_at hl 1 rfl) ?_
            refine va_iald hx hb hK hP 5 4 rfl rfl (i_in rfl (by omega) (by omega)) d_M_file_67 ?_
            refine lv_bipush (v := 34) hx hb d_M_file_68 (by decide) ?_
            refine lv_icmp_eq (tgt := 77) hx hb d_M_file_70 (by decide) (fun c_123 => ?_) (fun c_123 => ?_)
            · refine lv_iconst (v := 0) hx hb d_M_file_77 (by decide) ?_
              refine lv_istore_n (lv' := [(1, .int 0), (2, .int kk), (0, .ref (h 0))]) hx hb d_M_file_78 rfl hl (by decide) rfl (fun ls hl => ?_)
              refine lv_iinc (v := (kk + 1)) (lv' := [(2, .int (kk + 1)), (1, .int 0), (0, .ref (h 0))]) hx hb d_M_file_79 hl (k := 1) rfl rfl (by decide) rfl (fun ls hl => ?_)
              have e_124 : Int32.toInt (kk + 1) = (Int32.toInt kk) + 1 := i_add rfl (show Int32.toInt 1 = 1 by decide) (by omega) (by omega)
              refine lv_goto (tgt := 28) hx hb d_M_file_82 (by decide) ?_
              have hc_0 : Int32.toInt 0 = 0 := by decide
              exact ih 0 (kk + 1) sa so pl fa op si le tx st v_0 (by omega) (by omega) (by omega) (by omega) (by omega) (by omega) (by omega) (by omega) (by omega) (by omega) (by omega) (by omega) (by omega) _ _ ls hP hD hS (lv_sub hl [1, 0, 2] rfl)
            · refine lv_iconst (v := 1) hx hb d_M_file_73 (by decide) ?_
              refine lv_goto (tgt := 78) hx hb d_M_file_74 (by decide) ?_
              refine lv_istore_n (lv' := [(1, .int 1), (2, .int kk), (0, .ref (h 0))]) hx hb d_M_file_78 rfl hl (by decide) rfl (fun ls hl => ?_)
              refine lv_iinc (v := (kk + 1)) (lv' := [(2, .int (kk + 1)), (1, .int 1), (0, .ref (h 0))]) hx hb d_M_file_79 hl (k := 1) rfl rfl (by decide) rfl (fun ls hl => ?_)
              have e_125 : Int32.toInt (kk + 1) = (Int32.toInt kk) + 1 := i_add rfl (show Int32.toInt 1 = 1 by decide) (by omega) (by omega)
              refine lv_goto (tgt := 28) hx hb d_M_file_82 (by decide) ?_
              have hc_1 : Int32.toInt 1 = 1 := by decide
              exact ih 1 (kk + 1) sa so pl fa op si le tx st v_0 (by omega) (by omega) (by omega) (by omega) (by omega) (by omega) (by omega) (by omega) (by omega) (by omega) (by omega) (by omega) (by omega) _ _ ls hP hD hS (lv_sub hl [1, 0, 2] rfl)
set_option maxHeartbeats 4000000 in
set_option maxRecDepth 100000 in
theorem bd_M_file_0 {p : Program} {l : Launch} {e : Env} {s : State} {m : MethodId} {args : Array Value} {below : List Frame} {meth : Method} {c : Code} {Q : State → Prop} {A : Nat → Prop} {dC : Nat → ClassId} {dI : Nat → Nat → Nat} {k h : Nat → Nat} {g : Nat → ClassId} {ss : Int32} {li : Int32} {co : Int32} {rq : Int32} {bl : Int32} {te : Int32} {wo : Nat → Int64} {wz : Nat → Int32} {sr : Nat → Int32} {ro : Nat → Int32} {sa0 : Int32} {so0 : Int32} {fa0 : Int32} {op0 : Int32} (hx : p.tables.exec = Jvm.exec) (hb : c.code = b_M_file) (hml : c.maxLocals = 3) (hown : s.vm.findClass "SieveDeskModel" = some m.cls) (ht : ∀ w ∈ TT, w.before args s = true) (hE : KE k A s s.heap) (hA : ∀ q : Nat, s.heap.size ≤ q → A q) (hK : va_K (dC, dI) cls (TM g) s)  (h_0 : 0 ≤ Int32.toInt ss) (h_1 : Int32.toInt ss ≤ 400) (fin : ∀ (u : Int32 × Int32 × Int32 × Int32 × Int32 × Int32 × (Nat → Int64) × (Nat → Int32) × Int32) (H : Heap) (locs : List Loc) (pc : Nat) (ls : Array Slot), decode b_M_file pc = .ok (.return_, 1) → (0 ≤ Int32.toInt u.1 ∧ Int32.toInt u.1 ≤ Int32.toInt ss ∧ 0 ≤ Int32.toInt u.2.2.1 ∧ Int32.toInt u.2.2.1 ≤ 400 ∧ -1 ≤ Int32.toInt u.2.2.2.1 ∧ Int32.toInt u.2.2.2.1 ≤ 400 ∧ (Int32.toInt u.2.2.2.1 < 0 ∨ (Int32.toInt u.2.1 = 0 ∧ Int32.toInt u.2.2.2.2.1 = 0)) ∧ 0 ≤ Int32.toInt u.2.2.2.2.2.1 ∧ Int32.toInt u.2.2.2.2.2.1 ≤ 400 ∧ PS ss sa0 so0 fa0 op0 u.1 u.2.1 u.2.2.2.1 u.2.2.2.2.1) → va_P (dC, dI) cls (ME h g ss u.1 u.2.1 u.2.2.1 u.2.2.2.2.2.1 u.2.2.2.1 li co u.2.2.2.2.2.2.2.2 rq bl te u.2.2.2.2.1 wo wz sr u.2.2.2.2.2.2.1 u.2.2.2.2.2.2.2.1 ro) H → va_D A (ME h g ss u.1 u.2.1 u.2.2.1 u.2.2.2.2.2.1 u.2.2.2.1 li co u.2.2.2.2.2.2.2.2 rq bl te u.2.2.2.2.1 wo wz sr u.2.2.2.2.2.2.1 u.2.2.2.2.2.2.2.1 ro) → va_S A s.heap H locs → W p l e ({ frames := 5, cells := 0, slots := 0, locals := 106 } : Room) s m args below meth c H locs 0 0 Q (F0 m pc ls [])) : ∀ (sa : Int32) (so : Int32) (pl : Int32) (fa : Int32) (op : Int32) (si : Int32) (le : Nat → Int64) (tx : Nat → Int32) (st : Int32), sa = sa0 → so = so0 → fa = fa0 → op = op0 → 0 ≤ Int32.toInt sa → Int32.toInt sa ≤ Int32.toInt ss → 0 ≤ Int32.toInt pl → Int32.toInt pl ≤ 400 → -1 ≤ Int32.toInt fa → Int32.toInt fa ≤ 400 → (Int32.toInt fa < 0 ∨ (Int32.toInt so = 0 ∧ Int32.toInt op = 0)) → 0 ≤ Int32.toInt si → Int32.toInt si ≤ 400 → ∀ (H : Heap) (locs : List Loc) (ls : Array Slot), va_P (dC, dI) cls (ME h g ss sa so pl si fa li co st rq bl te op wo wz sr le tx ro) H → va_D A (ME h g ss sa so pl si fa li co st rq bl te op wo wz sr le tx ro) → va_S A s.heap H locs → lv_has ls 3 [(0, .ref (h 0))] → W p l e ({ frames := 5, cells := 0, slots := 0, locals := 106 } : Room) s m args below meth c H locs 0 0 Q (F0 m 0 ls []) := by
  intro sa so pl fa op si le tx st v_0 v_1 v_2 v_3 v_4 v_5 v_6 v_7 v_8 v_9 v_10 v_11 v_12 H locs ls hP hD hS hl
  subst v_0
  subst v_1
  subst v_2
  subst v_3
  refine lv_aload_n hx hb d_M_file_0 rfl (lv_at hl 0 rfl) ?_
  have hFc := va_free (wc := (ME h g ss sa so pl si fa li co st rq bl te op wo wz sr le tx ro)) hD hS hA [0, 1, 2, 3, 4, 5, 6] rfl
  refine va_callv (va_runV (As := []) (rest := []) ⟨hx, hb, hml, hown, ht⟩ (c_M_string l dC dI k h g ss sa so pl si fa li co st rq bl te op wo le wz sr tx ro  _ (by omega) (by omega) (by omega) (by omega) (by omega)) (cwV 0 ht (g_V k_783 k_785 k_55 k_80 k_786) rfl rfl rfl (by decide +kernel) ⟨(Nat.le_of_ble_eq_true rfl), (Nat.le_of_ble_eq_true rfl)⟩) ⟨fb_X, va_recv hK hP (ci := 4) (q0 := 0) rfl rfl, pre_X hE hS hFc hP hK hD⟩ rfl rfl hl.1 rfl (lv_room (Nat.le_of_ble_eq_true rfl)) d_M_file_1 ⟨(Nat.le_of_ble_eq_true rfl), (Nat.le_of_ble_eq_true rfl)⟩) hS (fun q _ h9 => hFc q h9) hFc (fun u_130 t H locs het hvm hw hB hz1 hk1 hS => ?_)
  obtain ⟨so_126, fa_127, op_128, st_129⟩ := u_130
  try dsimp only at hw
  obtain ⟨p_132, p_133, p_134, p_135, p_136, p_137⟩ := hw
  obtain ⟨hP1, hK1, hD1⟩ := hB
  rw [het] at hP1
  have hP : va_P (dC, dI) cls (ME h g ss sa so_126 pl si fa_127 li co st_129 rq bl te op_128 wo wz sr le tx ro) H := hP1
  have hD : va_D A (ME h g ss sa so_126 pl si fa_127 li co st_129 rq bl te op_128 wo wz sr le tx ro) := hD1.weaken (fun _ _ _ h9 => hFc _ h9)
  refine lv_aload_n hx hb d_M_file_4 rfl (lv_at hl 0 rfl) ?_
  refine va_get (D := (dC, dI)) (ci := 4) (v := .int si) (C := "SieveDeskModel") (T := F_M) (N := 19) hx hb ht i_M hown hK hP 0 rfl rfl 7 (by decide) (ht _ k_634) (fun _ h9 => h9) rfl d_M_file_5 ?_
  refine lv_if_le (tgt := 24) hx hb d_M_file_8 (by decide) (fun c_138 => ?_) (fun c_138 => ?_)
  · have dc_138 := i_le c_138 rfl (show Int32.toInt 0 = 0 by decide)
    refine lv_iconst (v := 0) hx hb d_M_file_24 (by decide) ?_
    refine lv_istore_n (lv' := [(1, .int 0), (0, .ref (h 0))]) hx hb d_M_file_25 rfl hl (by decide) rfl (fun ls hl => ?_)
    refine lv_iconst (v := 0) hx hb d_M_file_26 (by decide) ?_
    refine lv_istore_n (lv' := [(2, .int 0), (1, .int 0), (0, .ref (h 0))]) hx hb d_M_file_27 rfl hl (by decide) rfl (fun ls hl => ?_)
    have hc_0 : Int32.toInt 0 = 0 := by decide
    exact (lp_M_file_28  hx hb hml hown ht hE hA hK h_0 h_1 fin _) 0 0 sa so_126 pl fa_127 op_128 si le tx st_129 p_135 (by omega) (by omega) (by omega) (by omega) (by omega) (by omega) (by omega) (by omega) (by omega) (by omega) (by omega) (by omega) (Nat.lt_succ_self _) _ _ ls hP hD hS (lv_sub hl [1, 0, 2] rfl)
  · have dc_138 := i_nle c_138 rfl (show Int32.toInt 0 = 0 by decide)
    refine lv_aload_n hx hb d_M_file_11 rfl (lv_at hl 0 rfl) ?_
    refine va_get (D := (dC, dI)) (ci := 4) (v := .int si) (C := "SieveDeskModel") (T := F_M) (N := 19) hx hb ht i_M hown hK hP 0 rfl rfl 7 (by decide) (ht _ k_634) (fun _ h9 => h9) rfl d_M_file_12 ?_
    refine lv_bipush (v := 20) hx hb d_M_file_15 (by decide) ?_
    refine lv_icmp_gt (tgt := 24) hx hb d_M_file_17 (by decide) (fun c_139 => ?_) (fun c_139 => ?_)
    · have dc_139 := i_lt c_139 (show Int32.toInt 20 = 20 by decide) rfl
      refine lv_iconst (v := 0) hx hb d_M_file_24 (by decide) ?_
      refine lv_istore_n (lv' := [(1, .int 0), (0, .ref (h 0))]) hx hb d_M_file_25 rfl hl (by decide) rfl (fun ls hl => ?_)
      refine lv_iconst (v := 0) hx hb d_M_file_26 (by decide) ?_
      refine lv_istore_n (lv' := [(2, .int 0), (1, .int 0), (0, .ref (h 0))]) hx hb d_M_file_27 rfl hl (by decide) rfl (fun ls hl => ?_)
      have hc_0 : Int32.toInt 0 = 0 := by decide
      exact (lp_M_file_28  hx hb hml hown ht hE hA hK h_0 h_1 fin _) 0 0 sa so_126 pl fa_127 op_128 si le tx st_129 p_135 (by omega) (by omega) (by omega) (by omega) (by omega) (by omega) (by omega) (by omega) (by omega) (by omega) (by omega) (by omega) (Nat.lt_succ_self _) _ _ ls hP hD hS (lv_sub hl [1, 0, 2] rfl)
    · have dc_139 := i_nlt c_139 (show Int32.toInt 20 = 20 by decide) rfl
      refine lv_iconst (v := 1) hx hb d_M_file_20 (by decide) ?_
      refine lv_goto (tgt := 25) hx hb d_M_file_21 (by decide) ?_
      refine lv_istore_n (lv' := [(1, .int 1), (0, .ref (h 0))]) hx hb d_M_file_25 rfl hl (by decide) rfl (fun ls hl => ?_)
      refine lv_iconst (v := 0) hx hb d_M_file_26 (by decide) ?_
      refine lv_istore_n (lv' := [(2, .int 0), (1, .int 1), (0, .ref (h 0))]) hx hb d_M_file_27 rfl hl (by decide) rfl (fun ls hl => ?_)
      have hc_1 : Int32.toInt 1 = 1 := by decide
      have hc_0 : Int32.toInt 0 = 0 := by decide
      exact (lp_M_file_28  hx hb hml hown ht hE hA hK h_0 h_1 fin _) 1 0 sa so_126 pl fa_127 op_128 si le tx st_129 p_135 (by omega) (by omega) (by omega) (by omega) (by omega) (by omega) (by omega) (by omega) (by omega) (by omega) (by omega) (by omega) (Nat.lt_succ_self _) _ _ ls hP hD hS (lv_sub hl [1, 0, 2] rfl)
set_option maxHeartbeats 4000000 in
set_option maxRecDepth 100000 in
theorem c_M_file (l : Launch) (dC : Nat → ClassId) (dI : Nat → Nat → Nat) (k : Nat → Nat) (h : Nat → Nat) (g : Nat → ClassId) (ss : Int32) (sa : Int32) (so : Int32) (pl : Int32) (si : Int32) (fa : Int32) (li : Int32) (co : Int32) (st : Int32) (rq : Int32) (bl : Int32) (te : Int32) (op : Int32) (wo : Nat → Int64) (le : Nat → Int64) (wz : Nat → Int32) (sr : Nat → Int32) (tx : Nat → Int32) (ro : Nat → Int32)  (sz : Nat) (h_0 : 0 ≤ Int32.toInt ss) (h_1 : Int32.toInt ss ≤ 400) (v_0 : 0 ≤ Int32.toInt sa) (v_1 : Int32.toInt sa ≤ Int32.toInt ss) (v_2 : 0 ≤ Int32.toInt pl) (v_3 : Int32.toInt pl ≤ 400) (v_4 : -1 ≤ Int32.toInt fa) (v_5 : Int32.toInt fa ≤ 400) (v_6 : Int32.toInt fa < 0 ∨ (Int32.toInt so = 0 ∧ Int32.toInt op = 0)) (v_7 : 0 ≤ Int32.toInt si) (v_8 : Int32.toInt si ≤ 400) : Met l y_M_file (.code y_M_file b_M_file 3 none :: TT) ({ frames := 5, cells := 0, slots := 0, locals := 106 }) (va_Pc [.ref (h 0)] (PX dC dI k (TM g) (ME h g ss sa so pl si fa li co st rq bl te op wo wz sr le tx ro) sz)) (va_Qv (fun u : Int32 × Int32 × Int32 × Int32 × Int32 × Int32 × (Nat → Int64) × (Nat → Int32) × Int32 => 0 ≤ Int32.toInt u.1 ∧ Int32.toInt u.1 ≤ Int32.toInt ss ∧ 0 ≤ Int32.toInt u.2.2.1 ∧ Int32.toInt u.2.2.1 ≤ 400 ∧ -1 ≤ Int32.toInt u.2.2.2.1 ∧ Int32.toInt u.2.2.2.1 ≤ 400 ∧ (Int32.toInt u.2.2.2.1 < 0 ∨ (Int32.toInt u.2.1 = 0 ∧ Int32.toInt u.2.2.2.2.1 = 0)) ∧ 0 ≤ Int32.toInt u.2.2.2.2.2.1 ∧ Int32.toInt u.2.2.2.2.2.1 ≤ 400 ∧ PS ss sa so fa op u.1 u.2.1 u.2.2.2.1 u.2.2.2.2.1) (fun u t => BX dC dI (TM g) (va_A (ME h g ss sa so pl si fa li co st rq bl te op wo wz sr le tx ro) sz) (ME h g ss u.1 u.2.1 u.2.2.1 u.2.2.2.2.2.1 u.2.2.2.1 li co u.2.2.2.2.2.2.2.2 rq bl te u.2.2.2.2.1 wo wz sr u.2.2.2.2.2.2.1 u.2.2.2.2.2.2.2.1 ro) t) (va_A (ME h g ss sa so pl si fa li co st rq bl te op wo wz sr le tx ro) sz)) 0 0 (va_A (ME h g ss sa so pl si fa li co st rq bl te op wo wz sr le tx ro) sz) := by
  refine Met.ofW (cc := b_M_file) (maxL := 3) (ret := none) (by decide) rfl ?_
  intro p e s m args below meth c s₁ B hml hv
  obtain ⟨rfl, hsz, hE, hP, hK, hD0⟩ := hv
  have hx := B.exec
  have hb := B.bytes
  have hr := B.returns
  have ht : ∀ w ∈ TT, w.before _ s = true := fun w hw => atoms_spec (ws := .code y_M_file b_M_file 3 none :: TT) B.pre w (List.mem_cons_of_mem _ hw)
  have hown : s.vm.findClass "SieveDeskModel" = some m.cls := findClass_of_methodNamed B.named
  have hlocks := B.notSynchronized
  subst hsz
  have hD := hD0.self (sz := s.heap.size)
  generalize hAe : va_A (ME h g ss sa so pl si fa li co st rq bl te op wo wz sr le tx ro) s.heap.size = A at hE hD ⊢
  have hA : ∀ q : Nat, s.heap.size ≤ q → A q := fun q h9 => by rw [← hAe]; exact Or.inr h9
  have hS : va_S A s.heap s.heap [] := va_S.rf
  have hl := lv_entry ([.ref (h 0)]) (n := 3) (Nat.le_of_ble_eq_true rfl)
  rw [lg_entry_eq]
  generalize (lg_sl ([.ref (h 0)]) ++ List.replicate (3 - (lg_sl ([.ref (h 0)])).length) Slot.unset).toArray = ls at hl ⊢
  have hl : lv_has ls 3 [(0, .ref (h 0))] := hl
  exact bd_M_file_0  hx hb hml hown ht hE hA hK h_0 h_1 (fun u H locs pc ls hd hp hP hD hS => W.vret hx hb hr (fun t het hW => ⟨⟨u, rfl, hp, by rw [het]; exact hP, va_K.moved hW.alike hK, hD⟩, hS.F het⟩) hS.2.2 hd) sa so pl fa op si le tx st rfl rfl rfl rfl v_0 v_1 v_2 v_3 v_4 v_5 v_6 v_7 v_8 _ _ ls hP hD hS hl
set_option maxHeartbeats 4000000 in
set_option maxRecDepth 100000 in
theorem lp_M_isDotted_22 {p : Program} {l : Launch} {e : Env} {s : State} {m : MethodId} {args : Array Value} {below : List Frame} {meth : Method} {c : Code} {Q : State → Prop} {A : Nat → Prop} {dC : Nat → ClassId} {dI : Nat → Nat → Nat} {k h : Nat → Nat} {g : Nat → ClassId} {ss : Int32} {sa : Int32} {so : Int32} {pl : Int32} {si : Int32} {fa : Int32} {li : Int32} {co : Int32} {st : Int32} {rq : Int32} {bl : Int32} {te : Int32} {op : Int32} {wo : Nat → Int64} {le : Nat → Int64} {wz : Nat → Int32} {sr : Nat → Int32} {tx : Nat → Int32} {ro : Nat → Int32} (hx : p.tables.exec = Jvm.exec) (hb : c.code = b_M_isDotted) (hml : c.maxLocals = 8) (hown : s.vm.findClass "SieveDeskModel" = some m.cls) (ht : ∀ w ∈ TT, w.before args s = true) (hE : KE k A s s.heap) (hA : ∀ q : Nat, s.heap.size ≤ q → A q) (hK : va_K (dC, dI) cls (TM g) s) {fr to mo lc : Int32} (h_0 : 0 ≤ Int32.toInt fr) (h_1 : Int32.toInt fr ≤ 1000) (h_2 : -1000 ≤ Int32.toInt to) (h_3 : Int32.toInt to ≤ 400) (fin : ∀ (r : Int32) (u : Unit) (H : Heap) (locs : List Loc) (pc : Nat) (ls : Array Slot), decode b_M_isDotted pc = .ok (.ireturn, 1) → narrow .boolean (.int r) = .int r → (narrow .boolean (.int r) = .int r) → va_P (dC, dI) cls (ME h g ss sa so pl si fa li co st rq bl te op wo wz sr le tx ro) H → va_D A (ME h g ss sa so pl si fa li co st rq bl te op wo wz sr le tx ro) → va_S A s.heap H locs → W p l e ({ frames := 2, cells := 0, slots := 0, locals := 41 } : Room) s m args below meth c H locs 0 0 Q (F0 m pc ls [.int r])) : ∀ (nn : Nat), ∀ (iz : Int32) (kk : Int32), Int32.toInt fr ≤ Int32.toInt kk → Int32.toInt kk ≤ 1000 → narrow .boolean (.int iz) = .int iz → (1001 - Int32.toInt kk).toNat < nn → ∀ (H : Heap) (locs : List Loc) (ls : Array Slot), va_P (dC, dI) cls (ME h g ss sa so pl si fa li co st rq bl te op wo wz sr le tx ro) H → va_D A (ME h g ss sa so pl si fa li co st rq bl te op wo wz sr le tx ro) → va_S A s.heap H locs → lv_has ls 8 [(5, .int iz), (6, .int kk), (0, .ref (h 0)), (1, .int fr), (2, .int to), (4, .int lc)] → W p l e ({ frames := 2, cells := 0, slots := 0, locals := 41 } : Room) s m args below meth c H locs 0 0 Q (F0 m 22 ls []) := by
  intro nn
  induction nn with
  | zero =>
    intro _ _ _ _ _ hm
    exact absurd hm (Nat.not_lt_zero _)
  | succ nn ih =>
    intro iz kk v_0 v_1 v_2 hm H locs ls hP hD hS hl
    refine lv_iload hx hb d_M_isDotted_22 (lv_at hl 1 rfl) ?_
    refine lv_iload_n hx hb d_M_isDotted_24 rfl (lv_at hl 4 rfl) ?_
    refine lv_icmp_ge (tgt := 162) hx hb d_M_isDotted_25 (by decide) (fun c_1 => ?_) (fun c_1 => ?_)
    · have dc_1 := i_le c_1 rfl rfl
      refine lv_iload hx hb d_M_isDotted_162 (lv_at hl 0 rfl) ?_
      exact fin iz () _ _ _ ls d_M_isDotted_164 v_2 v_2 hP hD hS
    · have dc_1 := i_nle c_1 rfl rfl
      refine lv_iload hx hb d_M_isDotted_28 (lv_at hl 0 rfl) ?_
      refine lv_if_eq (tgt := 162) hx hb d_M_isDotted_30 (by decide) (fun c_2 => ?_) (fun c_2 => ?_)
      · refine lv_iload hx hb d_M_isDotted_162 (lv_at hl 0 rfl) ?_
        exact fin iz () _ _ _ ls d_M_isDotted_164 v_2 v_2 hP hD hS
      · refine lv_aload_n hx hb d_M_isDotted_33 rfl (lv_at hl 2 rfl) ?_
        refine va_get (D := (dC, dI)) (ci := 4) (v := .ref (h 5)) (C := "SieveDeskModel") (T := F_M) (N := 19) hx hb ht i_M hown hK hP 0 rfl rfl 9 (by decide) (ht _ k_636) (fun _ h9 => h9) rfl d_M_isDotted_34 ?_
        refine lv_iload hx hb d_M_isDotted_37 (lv_at hl 1 rfl) ?_
        refine va_iald hx hb hK hP 5 4 rfl rfl (i_in rfl (by omega) (by omega)) d_M_isDotted_39 ?_
        refine lv_bipush (v := 46) hx hb d_M_isDotted_40 (by decide) ?_
        refine lv_icmp_ne (tgt := 49) hx hb d_M_isDotted_42 (by decide) (fun c_3 => ?_) (fun c_3 => ?_)
        · refine lv_iconst (v := 0) hx hb d_M_isDotted_49 (by decide) ?_
          refine lv_istore (lv' := [(7, .int 0), (5, .int iz), (6, .int kk), (0, .ref (h 0)), (1, .int fr), (2, .int to), (4, .int lc)]) hx hb d_M_isDotted_50 hl (by decide) rfl (fun ls hl => ?_)
          refine lv_iload hx hb d_M_isDotted_52 (lv_at hl 0 rfl) ?_
          refine lv_if_eq (tgt := 93) hx hb d_M_isDotted_54 (by decide) (fun _ => ?_) (fun cn => absurd (by decide) cn)
          refine lv_iload hx hb d_M_isDotted_93 (lv_at hl 6 rfl) ?_
          refine lv_if_eq (tgt := 111) hx hb d_M_isDotted_95 (by decide) (fun c_4 => ?_) (fun c_4 => ?_)
          · refine lv_aload_n hx hb d_M_isDotted_111 rfl (lv_at hl 3 rfl) ?_
            refine va_get (D := (dC, dI)) (ci := 4) (v := .ref (h 5)) (C := "SieveDeskModel") (T := F_M) (N := 19) hx hb ht i_M hown hK hP 0 rfl rfl 9 (by decide) (ht _ k_636) (fun _ h9 => h9) rfl d_M_isDotted_112 ?_
            refine lv_iload hx hb d_M_isDotted_115 (lv_at hl 2 rfl) ?_
            refine va_iald hx hb hK hP 5 4 rfl rfl (i_in rfl (by omega) (by omega)) d_M_isDotted_117 ?_
            refine vp_callSi (W.runS (As := [.int (tx (Int32.toNatClampNeg kk))]) (rest := []) ⟨hx, hb, hml, hown, ht⟩ (c_M_isLetter l k (tx (Int32.toNatClampNeg kk)) ) (va_cwS 1 ht (g_S k_714 k_715 k_80 k_716) rfl rfl rfl (by decide +kernel) ⟨(Nat.le_of_ble_eq_true rfl), (Nat.le_of_ble_eq_true rfl)⟩) ⟨fb_J, pre_J hE hS⟩ rfl rfl hl.1 rfl (lv_room (Nat.le_of_ble_eq_true rfl)) d_M_isDotted_118 ⟨(Nat.le_of_ble_eq_true rfl), (Nat.le_of_ble_eq_true rfl)⟩) (fun r_5 hw => ?_)
            obtain ⟨p_6, p_7⟩ := hw
            refine lv_if_ne (tgt := 149) hx hb d_M_isDotted_121 (by decide) (fun c_8 => ?_) (fun c_8 => ?_)
            · have dc_8 := i_ne c_8 rfl (show Int32.toInt 0 = 0 by decide)
              refine lv_iconst (v := 1) hx hb d_M_isDotted_149 (by decide) ?_
              refine lv_goto (tgt := 154) hx hb d_M_isDotted_150 (by decide) ?_
              refine lv_istore (lv' := [(5, .int 1), (7, .int 0), (6, .int kk), (0, .ref (h 0)), (1, .int fr), (2, .int to), (4, .int lc)]) hx hb d_M_isDotted_154 hl (by decide) rfl (fun ls hl => ?_)
              refine lv_iinc (v := (kk + 1)) (lv' := [(6, .int (kk + 1)), (5, .int 1), (7, .int 0), (0, .ref (h 0)), (1, .int fr), (2, .int to), (4, .int lc)]) hx hb d_M_isDotted_156 hl (k := 2) rfl rfl (by decide) rfl (fun ls hl => ?_)
              have e_9 : Int32.toInt (kk + 1) = (Int32.toInt kk) + 1 := i_add rfl (show Int32.toInt 1 = 1 by decide) (by omega) (by omega)
              refine lv_goto (tgt := 22) hx hb d_M_isDotted_159 (by decide) ?_
              have hc_1 : Int32.toInt 1 = 1 := by decide
              exact ih 1 (kk + 1) (by omega) (by omega) rfl (by omega) _ _ ls hP hD hS (lv_sub hl [1, 0, 3, 4, 5, 6] rfl)
            · have dc_8 := i_eq c_8 rfl (show Int32.toInt 0 = 0 by decide)
              refine lv_aload_n hx hb d_M_isDotted_124 rfl (lv_at hl 3 rfl) ?_
              refine va_get (D := (dC, dI)) (ci := 4) (v := .ref (h 5)) (C := "SieveDeskModel") (T := F_M) (N := 19) hx hb ht i_M hown hK hP 0 rfl rfl 9 (by decide) (ht _ k_636) (fun _ h9 => h9) rfl d_M_isDotted_125 ?_
              refine lv_iload hx hb d_M_isDotted_128 (lv_at hl 2 rfl) ?_
              refine va_iald hx hb hK hP 5 4 rfl rfl (i_in rfl (by omega) (by omega)) d_M_isDotted_130 ?_
              refine vp_callSi (W.runS (As := [.int (tx (Int32.toNatClampNeg kk))]) (rest := []) ⟨hx, hb, hml, hown, ht⟩ (c_M_isDigit l k (tx (Int32.toNatClampNeg kk)) ) (va_cwS 1 ht (g_S k_724 k_725 k_80 k_726) rfl rfl rfl (by decide +kernel) ⟨(Nat.le_of_ble_eq_true rfl), (Nat.le_of_ble_eq_true rfl)⟩) ⟨fb_J, pre_J hE hS⟩ rfl rfl hl.1 rfl (lv_room (Nat.le_of_ble_eq_true rfl)) d_M_isDotted_131 ⟨(Nat.le_of_ble_eq_true rfl), (Nat.le_of_ble_eq_true rfl)⟩) (fun r_10 hw => ?_)
              obtain ⟨p_11, p_12⟩ := hw
              refine lv_if_ne (tgt := 149) hx hb d_M_isDotted_134 (by decide) (fun c_13 => ?_) (fun c_13 => ?_)
              · have dc_13 := i_ne c_13 rfl (show Int32.toInt 0 = 0 by decide)
                refine lv_iconst (v := 1) hx hb d_M_isDotted_149 (by decide) ?_
                refine lv_goto (tgt := 154) hx hb d_M_isDotted_150 (by decide) ?_
                refine lv_istore (lv' := [(5, .int 1), (7, .int 0), (6, .int kk), (0, .ref (h 0)), (1, .int fr), (2, .int to), (4, .int lc)]) hx hb d_M_isDotted_154 hl (by decide) rfl (fun ls hl => ?_)
                refine lv_iinc (v := (kk + 1)) (lv' := [(6, .int (kk + 1)), (5, .int 1), (7, .int 0), (0, .ref (h 0)), (1, .int fr), (2, .int to), (4, .int lc)]) hx hb d_M_isDotted_156 hl (k := 2) rfl rfl (by decide) rfl (fun ls hl => ?_)
                have e_14 : Int32.toInt (kk + 1) = (Int32.toInt kk) + 1 := i_add rfl (show Int32.toInt 1 = 1 by decide) (by omega) (by omega)
                refine lv_goto (tgt := 22) hx hb d_M_isDotted_159 (by decide) ?_
                have hc_1 : Int32.toInt 1 = 1 := by decide
                exact ih 1 (kk + 1) (by omega) (by omega) rfl (by omega) _ _ ls hP hD hS (lv_sub hl [1, 0, 3, 4, 5, 6] rfl)
              · have dc_13 := i_eq c_13 rfl (show Int32.toInt 0 = 0 by decide)
                refine lv_aload_n hx hb d_M_isDotted_137 rfl (lv_at hl 3 rfl) ?_
                refine va_get (D := (dC, dI)) (ci := 4) (v := .ref (h 5)) (C := "SieveDeskModel") (T := F_M) (N := 19) hx hb ht i_M hown hK hP 0 rfl rfl 9 (by decide) (ht _ k_636) (fun _ h9 => h9) rfl d_M_isDotted_138 ?_
                refine lv_iload hx hb d_M_isDotted_141 (lv_at hl 2 rfl) ?_
                refine va_iald hx hb hK hP 5 4 rfl rfl (i_in rfl (by omega) (by omega)) d_M_isDotted_143 ?_
                refine lv_bipush (v := 45) hx hb d_M_isDotted_144 (by decide) ?_
                refine lv_icmp_ne (tgt := 153) hx hb d_M_isDotted_146 (by decide) (fun c_15 => ?_) (fun c_15 => ?_)
                · refine lv_iconst (v := 0) hx hb d_M_isDotted_153 (by decide) ?_
                  refine lv_istore (lv' := [(5, .int 0), (7, .int 0), (6, .int kk), (0, .ref (h 0)), (1, .int fr), (2, .int to), (4, .int lc)]) hx hb d_M_isDotted_154 hl (by decide) rfl (fun ls hl => ?_)
                  refine lv_iinc (v := (kk + 1)) (lv' := [(6, .int (kk + 1)), (5, .int 0), (7, .int 0), (0, .ref (h 0)), (1, .int fr), (2, .int to), (4, .int lc)]) hx hb d_M_isDotted_156 hl (k := 2) rfl rfl (by decide) rfl (fun ls hl => ?_)
                  have e_16 : Int32.toInt (kk + 1) = (Int32.toInt kk) + 1 := i_add rfl (show Int32.toInt 1 = 1 by decide) (by omega) (by omega)
                  refine lv_goto (tgt := 22) hx hb d_M_isDotted_159 (by decide) ?_
                  have hc_0 : Int32.toInt 0 = 0 := by decide
                  exact ih 0 (kk + 1) (by omega) (by omega) rfl (by omega) _ _ ls hP hD hS (lv_sub hl [1, 0, 3, 4, 5, 6] rfl)
                · refine lv_iconst (v := 1) hx hb d_M_isDotted_149 (by decide) ?_
                  refine lv_goto (tgt := 154) hx hb d_M_isDotted_150 (by decide) ?_
                  refine lv_istore (lv' := [(5, .int 1), (7, .int 0), (6, .int kk), (0, .ref (h 0)), (1, .int fr), (2, .int to), (4, .int lc)]) hx hb d_M_isDotted_154 hl (by decide) rfl (fun ls hl => ?_)
                  refine lv_iinc (v := (kk + 1)) (lv' := [(6, .int (kk + 1)), (5, .int 1), (7, .int 0), (0, .ref (h 0)), (1, .int fr), (2, .int to), (4, .int lc)]) hx hb d_M_isDotted_156 hl (k := 2) rfl rfl (by decide) rfl (fun ls hl => ?_)
                  have e_17 : Int32.toInt (kk + 1) = (Int32.toInt kk) + 1 := i_add rfl (show Int32.toInt 1 = 1 by decide) (by omega) (by omega)
                  refine lv_goto (tgt := 22) hx hb d_M_isDotted_159 (by decide) ?_
                  have hc_1 : Int32.toInt 1 = 1 := by decide
                  exact ih 1 (kk + 1) (by omega) (by omega) rfl (by omega) _ _ ls hP hD hS (lv_sub hl [1, 0, 3, 4, 5, 6] rfl)
          · refine lv_aload_n hx hb d_M_isDotted_98 rfl (lv_at hl 3 rfl) ?_
            refine va_get (D := (dC, dI)) (ci := 4) (v := .ref (h 5)) (C := "SieveDeskModel") (T := F_M) (N := 19) hx hb ht i_M hown hK hP 0 rfl rfl 9 (by decide) (ht _ k_636) (fun _ h9 => h9) rfl d_M_isDotted_99 ?_
            refine lv_iload hx hb d_M_isDotted_102 (lv_at hl 2 rfl) ?_
            refine va_iald hx hb hK hP 5 4 rfl rfl (i_in rfl (by omega) (by omega)) d_M_isDotted_104 ?_
            refine vp_callSi (W.runS (As := [.int (tx (Int32.toNatClampNeg kk))]) (rest := []) ⟨hx, hb, hml, hown, ht⟩ (c_M_isLocal l k (tx (Int32.toNatClampNeg kk)) ) (va_cwS 1 ht (g_S k_831 k_832 k_80 k_833) rfl rfl rfl (by decide +kernel) ⟨(Nat.le_of_ble_eq_true rfl), (Nat.le_of_ble_eq_true rfl)⟩) ⟨fb_J, pre_J hE hS⟩ rfl rfl hl.1 rfl (lv_room (Nat.le_of_ble_eq_true rfl)) d_M_isDotted_105 ⟨(Nat.le_of_ble_eq_true rfl), (Nat.le_of_ble_eq_true rfl)⟩) (fun r_18 hw => ?_)
            have p_19 := hw
            refine lv_goto (tgt := 154) hx hb d_M_isDotted_108 (by decide) ?_
            refine lv_istore (lv' := [(5, .int r_18), (7, .int 0), (6, .int kk), (0, .ref (h 0)), (1, .int fr), (2, .int to), (4, .int lc)]) hx hb d_M_isDotted_154 hl (by decide) rfl (fun ls hl => ?_)
            refine lv_iinc (v := (kk + 1)) (lv' := [(6, .int (kk + 1)), (5, .int r_18), (7, .int 0), (0, .ref (h 0)), (1, .int fr), (2, .int to), (4, .int lc)]) hx hb d_M_isDotted_156 hl (k := 2) rfl rfl (by decide) rfl (fun ls hl => ?_)
            have e_20 : Int32.toInt (kk + 1) = (Int32.toInt kk) + 1 := i_add rfl (show Int32.toInt 1 = 1 by decide) (by omega) (by omega)
            refine lv_goto (tgt := 22) hx hb d_M_isDotted_159 (by decide) ?_
            exact ih r_18 (kk + 1) (by omega) (by omega) p_19 (by omega) _ _ ls hP hD hS (lv_sub hl [1, 0, 3, 4, 5, 6] rfl)
        · refine lv_iconst (v := 1) hx hb d_M_isDotted_45 (by decide) ?_
          refine lv_goto (tgt := 50) hx hb d_M_isDotted_46 (by decide) ?_
          refine lv_istore (lv' := [(7, .int 1), (5, .int iz), (6, .int kk), (0, .ref (h 0)), (1, .int fr), (2, .int to), (4, .int lc)]) hx hb d_M_isDotted_50 hl (by decide) rfl (fun ls hl => ?_)
          refine lv_iload hx hb d_M_isDotted_52 (lv_at hl 0 rfl) ?_
          refine lv_if_eq (tgt := 93) hx hb d_M_isDotted_54 (by decide) (fun cn => absurd cn (by decide)) (fun _ => ?_)
          refine lv_iload hx hb d_M_isDotted_57 (lv_at hl 2 rfl) ?_
          refine lv_iload_n hx hb d_M_isDotted_59 rfl (lv_at hl 4 rfl) ?_
          refine lv_icmp_le (tgt := 89) hx hb d_M_isDotted_60 (by decide) (fun c_21 => ?_) (fun c_21 => ?_)
          · have dc_21 := i_le c_21 rfl rfl
            refine lv_iconst (v := 0) hx hb d_M_isDotted_89 (by decide) ?_
            refine lv_goto (tgt := 154) hx hb d_M_isDotted_90 (by decide) ?_
            refine lv_istore (lv' := [(5, .int 0), (7, .int 1), (6, .int kk), (0, .ref (h 0)), (1, .int fr), (2, .int to), (4, .int lc)]) hx hb d_M_isDotted_154 hl (by decide) rfl (fun ls hl => ?_)
            refine lv_iinc (v := (kk + 1)) (lv' := [(6, .int (kk + 1)), (5, .int 0), (7, .int 1), (0, .ref (h 0)), (1, .int fr), (2, .int to), (4, .int lc)]) hx hb d_M_isDotted_156 hl (k := 2) rfl rfl (by decide) rfl (fun ls hl => ?_)
            have e_22 : Int32.toInt (kk + 1) = (Int32.toInt kk) + 1 := i_add rfl (show Int32.toInt 1 = 1 by decide) (by omega) (by omega)
            refine lv_goto (tgt := 22) hx hb d_M_isDotted_159 (by decide) ?_
            have hc_0 : Int32.toInt 0 = 0 := by decide
            exact ih 0 (kk + 1) (by omega) (by omega) rfl (by omega) _ _ ls hP hD hS (lv_sub hl [1, 0, 3, 4, 5, 6] rfl)
          · have dc_21 := i_nle c_21 rfl rfl
            refine lv_iload hx hb d_M_isDotted_63 (lv_at hl 2 rfl) ?_
            refine lv_iconst (v := 1) hx hb d_M_isDotted_65 (by decide) ?_
            refine lv_iadd hx hb d_M_isDotted_66 ?_
            have e_23 : Int32.toInt (kk + 1) = (Int32.toInt kk) + 1 := i_add rfl (show Int32.toInt 1 = 1 by decide) (by omega) (by omega)
            refine lv_iload_n hx hb d_M_isDotted_67 rfl (lv_at hl 5 rfl) ?_
            refine lv_icmp_ge (tgt := 89) hx hb d_M_isDotted_68 (by decide) (fun c_24 => ?_) (fun c_24 => ?_)
            · have dc_24 := i_le c_24 rfl e_23
              refine lv_iconst (v := 0) hx hb d_M_isDotted_89 (by decide) ?_
              refine lv_goto (tgt := 154) hx hb d_M_isDotted_90 (by decide) ?_
              refine lv_istore (lv' := [(5, .int 0), (7, .int 1), (6, .int kk), (0, .ref (h 0)), (1, .int fr), (2, .int to), (4, .int lc)]) hx hb d_M_isDotted_154 hl (by decide) rfl (fun ls hl => ?_)
              refine lv_iinc (v := (kk + 1)) (lv' := [(6, .int (kk + 1)), (5, .int 0), (7, .int 1), (0, .ref (h 0)), (1, .int fr), (2, .int to), (4, .int lc)]) hx hb d_M_isDotted_156 hl (k := 2) rfl rfl (by decide) rfl (fun ls hl => ?_)
              have e_25 : Int32.toInt (kk + 1) = (Int32.toInt kk) + 1 := i_add rfl (show Int32.toInt 1 = 1 by decide) (by omega) (by omega)
              refine lv_goto (tgt := 22) hx hb d_M_isDotted_159 (by decide) ?_
              have hc_0 : Int32.toInt 0 = 0 := by decide
              exact ih 0 (kk + 1) (by omega) (by omega) rfl (by omega) _ _ ls hP hD hS (lv_sub hl [1, 0, 3, 4, 5, 6] rfl)
            · have dc_24 := i_nle c_24 rfl e_23
              refine lv_aload_n hx hb d_M_isDotted_71 rfl (lv_at hl 3 rfl) ?_
              refine va_get (D := (dC, dI)) (ci := 4) (v := .ref (h 5)) (C := "SieveDeskModel") (T := F_M) (N := 19) hx hb ht i_M hown hK hP 0 rfl rfl 9 (by decide) (ht _ k_636) (fun _ h9 => h9) rfl d_M_isDotted_72 ?_
              refine lv_iload hx hb d_M_isDotted_75 (lv_at hl 2 rfl) ?_
              refine lv_iconst (v := 1) hx hb d_M_isDotted_77 (by decide) ?_
              refine lv_isub hx hb d_M_isDotted_78 ?_
              have e_26 : Int32.toInt (kk - 1) = (Int32.toInt kk) - 1 := i_sub rfl (show Int32.toInt 1 = 1 by decide) (by omega) (by omega)
              refine va_iald hx hb hK hP 5 4 rfl rfl (i_in e_26 (by omega) (by omega)) d_M_isDotted_79 ?_
              refine lv_bipush (v := 46) hx hb d_M_isDotted_80 (by decide) ?_
              refine lv_icmp_eq (tgt := 89) hx hb d_M_isDotted_82 (by decide) (fun c_27 => ?_) (fun c_27 => ?_)
              · refine lv_iconst (v := 0) hx hb d_M_isDotted_89 (by decide) ?_
                refine lv_goto (tgt := 154) hx hb d_M_isDotted_90 (by decide) ?_
                refine lv_istore (lv' := [(5, .int 0), (7, .int 1), (6, .int kk), (0, .ref (h 0)), (1, .int fr), (2, .int to), (4, .int lc)]) hx hb d_M_isDotted_154 hl (by decide) rfl (fun ls hl => ?_)
                refine lv_iinc (v := (kk + 1)) (lv' := [(6, .int (kk + 1)), (5, .int 0), (7, .int 1), (0, .ref (h 0)), (1, .int fr), (2, .int to), (4, .int lc)]) hx hb d_M_isDotted_156 hl (k := 2) rfl rfl (by decide) rfl (fun ls hl => ?_)
                have e_28 : Int32.toInt (kk + 1) = (Int32.toInt kk) + 1 := i_add rfl (show Int32.toInt 1 = 1 by decide) (by omega) (by omega)
                refine lv_goto (tgt := 22) hx hb d_M_isDotted_159 (by decide) ?_
                have hc_0 : Int32.toInt 0 = 0 := by decide
                exact ih 0 (kk + 1) (by omega) (by omega) rfl (by omega) _ _ ls hP hD hS (lv_sub hl [1, 0, 3, 4, 5, 6] rfl)
              · refine lv_iconst (v := 1) hx hb d_M_isDotted_85 (by decide) ?_
                refine lv_goto (tgt := 154) hx hb d_M_isDotted_86 (by decide) ?_
                refine lv_istore (lv' := [(5, .int 1), (7, .int 1), (6, .int kk), (0, .ref (h 0)), (1, .int fr), (2, .int to), (4, .int lc)]) hx hb d_M_isDotted_154 hl (by decide) rfl (fun ls hl => ?_)
                refine lv_iinc (v := (kk + 1)) (lv' := [(6, .int (kk + 1)), (5, .int 1), (7, .int 1), (0, .ref (h 0)), (1, .int fr), (2, .int to), (4, .int lc)]) hx hb d_M_isDotted_156 hl (k := 2) rfl rfl (by decide) rfl (fun ls hl => ?_)
                have e_29 : Int32.toInt (kk + 1) = (Int32.toInt kk) + 1 := i_add rfl (show Int32.toInt 1 = 1 by decide) (by omega) (by omega)
                refine lv_goto (tgt := 22) hx hb d_M_isDotted_159 (by decide) ?_
                have hc_1 : Int32.toInt 1 = 1 := by decide
                exact ih 1 (kk + 1) (by omega) (by omega) rfl (by omega) _ _ ls hP hD hS (lv_sub hl [1, 0, 3, 4, 5, 6] rfl)
set_option maxHeartbeats 4000000 in
set_option maxRecDepth 100000 in
theorem bd_M_isDotted_0 {p : Program} {l : Launch} {e : Env} {s : State} {m : MethodId} {args : Array Value} {below : List Frame} {meth : Method} {c : Code} {Q : State → Prop} {A : Nat → Prop} {dC : Nat → ClassId} {dI : Nat → Nat → Nat} {k h : Nat → Nat} {g : Nat → ClassId} {ss : Int32} {sa : Int32} {so : Int32} {pl : Int32} {si : Int32} {fa : Int32} {li : Int32} {co : Int32} {st : Int32} {rq : Int32} {bl : Int32} {te : Int32} {op : Int32} {wo : Nat → Int64} {le : Nat → Int64} {wz : Nat → Int32} {sr : Nat → Int32} {tx : Nat → Int32} {ro : Nat → Int32} (hx : p.tables.exec = Jvm.exec) (hb : c.code = b_M_isDotted) (hml : c.maxLocals = 8) (hown : s.vm.findClass "SieveDeskModel" = some m.cls) (ht : ∀ w ∈ TT, w.before args s = true) (hE : KE k A s s.heap) (hA : ∀ q : Nat, s.heap.size ≤ q → A q) (hK : va_K (dC, dI) cls (TM g) s) {fr to mo lc : Int32} (h_0 : 0 ≤ Int32.toInt fr) (h_1 : Int32.toInt fr ≤ 1000) (h_2 : -1000 ≤ Int32.toInt to) (h_3 : Int32.toInt to ≤ 400) (fin : ∀ (r : Int32) (u : Unit) (H : Heap) (locs : List Loc) (pc : Nat) (ls : Array Slot), decode b_M_isDotted pc = .ok (.ireturn, 1) → narrow .boolean (.int r) = .int r → (narrow .boolean (.int r) = .int r) → va_P (dC, dI) cls (ME h g ss sa so pl si fa li co st rq bl te op wo wz sr le tx ro) H → va_D A (ME h g ss sa so pl si fa li co st rq bl te op wo wz sr le tx ro) → va_S A s.heap H locs → W p l e ({ frames := 2, cells := 0, slots := 0, locals := 41 } : Room) s m args below meth c H locs 0 0 Q (F0 m pc ls [.int r])) : ∀ (H : Heap) (locs : List Loc) (ls : Array Slot), va_P (dC, dI) cls (ME h g ss sa so pl si fa li co st rq bl te op wo wz sr le tx ro) H → va_D A (ME h g ss sa so pl si fa li co st rq bl te op wo wz sr le tx ro) → va_S A s.heap H locs → lv_has ls 8 [(0, .ref (h 0)), (1, .int fr), (2, .int to), (3, .int mo), (4, .int lc)] → W p l e ({ frames := 2, cells := 0, slots := 0, locals := 41 } : Room) s m args below meth c H locs 0 0 Q (F0 m 0 ls []) := by
  intro H locs ls hP hD hS hl
  refine lv_iload_n hx hb d_M_isDotted_0 rfl (lv_at hl 2 rfl) ?_
  refine lv_iload_n hx hb d_M_isDotted_1 rfl (lv_at hl 1 rfl) ?_
  refine lv_icmp_le (tgt := 16) hx hb d_M_isDotted_2 (by decide) (fun c_30 => ?_) (fun c_30 => ?_)
  · have dc_30 := i_le c_30 rfl rfl
    refine lv_iconst (v := 0) hx hb d_M_isDotted_16 (by decide) ?_
    refine lv_istore (lv' := [(5, .int 0), (0, .ref (h 0)), (1, .int fr), (2, .int to), (3, .int mo), (4, .int lc)]) hx hb d_M_isDotted_17 hl (by decide) rfl (fun ls hl => ?_)
    refine lv_iload_n hx hb d_M_isDotted_19 rfl (lv_at hl 2 rfl) ?_
    refine lv_istore (lv' := [(6, .int fr), (5, .int 0), (0, .ref (h 0)), (1, .int fr), (2, .int to), (3, .int mo), (4, .int lc)]) hx hb d_M_isDotted_20 hl (by decide) rfl (fun ls hl => ?_)
    have hc_0 : Int32.toInt 0 = 0 := by decide
    exact (lp_M_isDotted_22 (fr := fr) (to := to) (mo := mo) (lc := lc) hx hb hml hown ht hE hA hK h_0 h_1 h_2 h_3 fin _) 0 fr (by omega) (by omega) rfl (Nat.lt_succ_self _) _ _ ls hP hD hS (lv_sub hl [1, 0, 2, 3, 4, 6] rfl)
  · have dc_30 := i_nle c_30 rfl rfl
    refine lv_iload_n hx hb d_M_isDotted_5 rfl (lv_at hl 2 rfl) ?_
    refine lv_iload_n hx hb d_M_isDotted_6 rfl (lv_at hl 1 rfl) ?_
    refine lv_isub hx hb d_M_isDotted_7 ?_
    have e_31 : Int32.toInt (to - fr) = (Int32.toInt to) - (Int32.toInt fr) := i_sub rfl rfl (by omega) (by omega)
    refine lv_iload_n hx hb d_M_isDotted_8 rfl (lv_at hl 3 rfl) ?_
    refine lv_icmp_gt (tgt := 16) hx hb d_M_isDotted_9 (by decide) (fun c_32 => ?_) (fun c_32 => ?_)
    · refine lv_iconst (v := 0) hx hb d_M_isDotted_16 (by decide) ?_
      refine lv_istore (lv' := [(5, .int 0), (0, .ref (h 0)), (1, .int fr), (2, .int to), (3, .int mo), (4, .int lc)]) hx hb d_M_isDotted_17 hl (by decide) rfl (fun ls hl => ?_)
      refine lv_iload_n hx hb d_M_isDotted_19 rfl (lv_at hl 2 rfl) ?_
      refine lv_istore (lv' := [(6, .int fr), (5, .int 0), (0, .ref (h 0)), (1, .int fr), (2, .int to), (3, .int mo), (4, .int lc)]) hx hb d_M_isDotted_20 hl (by decide) rfl (fun ls hl => ?_)
      have hc_0 : Int32.toInt 0 = 0 := by decide
      exact (lp_M_isDotted_22 (fr := fr) (to := to) (mo := mo) (lc := lc) hx hb hml hown ht hE hA hK h_0 h_1 h_2 h_3 fin _) 0 fr (by omega) (by omega) rfl (Nat.lt_succ_self _) _ _ ls hP hD hS (lv_sub hl [1, 0, 2, 3, 4, 6] rfl)
    · refine lv_iconst (v := 1) hx hb d_M_isDotted_12 (by decide) ?_
      refine lv_goto (tgt := 17) hx hb d_M_isDotted_13 (by decide) ?_
      refine lv_istore (lv' := [(5, .int 1), (0, .ref (h 0)), (1, .int fr), (2, .int to), (3, .int mo), (4, .int lc)]) hx hb d_M_isDotted_17 hl (by decide) rfl (fun ls hl => ?_)
      refine lv_iload_n hx hb d_M_isDotted_19 rfl (lv_at hl 2 rfl) ?_
      refine lv_istore (lv' := [(6, .int fr), (5, .int 1), (0, .ref (h 0)), (1, .int fr), (2, .int to), (3, .int mo), (4, .int lc)]) hx hb d_M_isDotted_20 hl (by decide) rfl (fun ls hl => ?_)
      have hc_1 : Int32.toInt 1 = 1 := by decide
      exact (lp_M_isDotted_22 (fr := fr) (to := to) (mo := mo) (lc := lc) hx hb hml hown ht hE hA hK h_0 h_1 h_2 h_3 fin _) 1 fr (by omega) (by omega) rfl (Nat.lt_succ_self _) _ _ ls hP hD hS (lv_sub hl [1, 0, 2, 3, 4, 6] rfl)
set_option maxHeartbeats 4000000 in
set_option maxRecDepth 100000 in
theorem c_M_isDotted (l : Launch) (dC : Nat → ClassId) (dI : Nat → Nat → Nat) (k : Nat → Nat) (h : Nat → Nat) (g : Nat → ClassId) (ss : Int32) (sa : Int32) (so : Int32) (pl : Int32) (si : Int32) (fa : Int32) (li : Int32) (co : Int32) (st : Int32) (rq : Int32) (bl : Int32) (te : Int32) (op : Int32) (wo : Nat → Int64) (le : Nat → Int64) (wz : Nat → Int32) (sr : Nat → Int32) (tx : Nat → Int32) (ro : Nat → Int32) (fr to mo lc : Int32) (sz : Nat) (h_0 : 0 ≤ Int32.toInt fr) (h_1 : Int32.toInt fr ≤ 1000) (h_2 : -1000 ≤ Int32.toInt to) (h_3 : Int32.toInt to ≤ 400)  : Met l y_M_isDotted (.code y_M_isDotted b_M_isDotted 8 (some .boolean) :: TT) ({ frames := 2, cells := 0, slots := 0, locals := 41 }) (va_Pc [.ref (h 0), .int fr, .int to, .int mo, .int lc] (PX dC dI k (TM g) (ME h g ss sa so pl si fa li co st rq bl te op wo wz sr le tx ro) sz)) (va_Qi (fun (r : Int32) (u : Unit) => narrow .boolean (.int r) = .int r) (fun u t => BX dC dI (TM g) (va_A (ME h g ss sa so pl si fa li co st rq bl te op wo wz sr le tx ro) sz) (ME h g ss sa so pl si fa li co st rq bl te op wo wz sr le tx ro) t) (va_A (ME h g ss sa so pl si fa li co st rq bl te op wo wz sr le tx ro) sz)) 0 0 (va_A (ME h g ss sa so pl si fa li co st rq bl te op wo wz sr le tx ro) sz) := by
  refine Met.ofW (cc := b_M_isDotted) (maxL := 8) (ret := (some .boolean)) (by decide) rfl ?_
  intro p e s m args below meth c s₁ B hml hv
  obtain ⟨rfl, hsz, hE, hP, hK, hD0⟩ := hv
  have hx := B.exec
  have hb := B.bytes
  have hr := B.returns
  have ht : ∀ w ∈ TT, w.before _ s = true := fun w hw => atoms_spec (ws := .code y_M_isDotted b_M_isDotted 8 (some .boolean) :: TT) B.pre w (List.mem_cons_of_mem _ hw)
  have hown : s.vm.findClass "SieveDeskModel" = some m.cls := findClass_of_methodNamed B.named
  have hlocks := B.notSynchronized
  subst hsz
  have hD := hD0.self (sz := s.heap.size)
  generalize hAe : va_A (ME h g ss sa so pl si fa li co st rq bl te op wo wz sr le tx ro) s.heap.size = A at hE hD ⊢
  have hA : ∀ q : Nat, s.heap.size ≤ q → A q := fun q h9 => by rw [← hAe]; exact Or.inr h9
  have hS : va_S A s.heap s.heap [] := va_S.rf
  have hl := lv_entry ([.ref (h 0), .int fr, .int to, .int mo, .int lc]) (n := 8) (Nat.le_of_ble_eq_true rfl)
  rw [lg_entry_eq]
  generalize (lg_sl ([.ref (h 0), .int fr, .int to, .int mo, .int lc]) ++ List.replicate (8 - (lg_sl ([.ref (h 0), .int fr, .int to, .int mo, .int lc])).length) Slot.unset).toArray = ls at hl ⊢
  have hl : lv_has ls 8 [(0, .ref (h 0)), (1, .int fr), (2, .int to), (3, .int mo), (4, .int lc)] := hl
  exact bd_M_isDotted_0 (fr := fr) (to := to) (mo := mo) (lc := lc) hx hb hml hown ht hE hA hK h_0 h_1 h_2 h_3 (fun r u H locs pc ls hd hn hp hP hD hS => W.zret hx hb hr hn (fun t het hW => ⟨⟨r, u, rfl, hp, by rw [het]; exact hP, va_K.moved hW.alike hK, hD⟩, hS.F het⟩) hS.2.2 hd)   _ _ ls hP hD hS hl
set_option maxHeartbeats 4000000 in
set_option maxRecDepth 100000 in
theorem lp_M_redirect_6 {p : Program} {l : Launch} {e : Env} {s : State} {m : MethodId} {args : Array Value} {below : List Frame} {meth : Method} {c : Code} {Q : State → Prop} {A : Nat → Prop} {dC : Nat → ClassId} {dI : Nat → Nat → Nat} {k h : Nat → Nat} {g : Nat → ClassId} {ss : Int32} {li : Int32} {co : Int32} {rq : Int32} {bl : Int32} {te : Int32} {wo : Nat → Int64} {wz : Nat → Int32} {sr : Nat → Int32} {ro : Nat → Int32} {sa0 : Int32} {so0 : Int32} {fa0 : Int32} {op0 : Int32} (hx : p.tables.exec = Jvm.exec) (hb : c.code = b_M_redirect) (hml : c.maxLocals = 2) (hown : s.vm.findClass "SieveDeskModel" = some m.cls) (ht : ∀ w ∈ TT, w.before args s = true) (hE : KE k A s s.heap) (hA : ∀ q : Nat, s.heap.size ≤ q → A q) (hK : va_K (dC, dI) cls (TM g) s)  (h_0 : 0 ≤ Int32.toInt ss) (h_1 : Int32.toInt ss ≤ 400) (fin : ∀ (u : Int32 × Int32 × Int32 × Int32 × Int32 × Int32 × (Nat → Int64) × (Nat → Int32) × Int32) (H : Heap) (locs : List Loc) (pc : Nat) (ls : Array Slot), decode b_M_redirect pc = .ok (.return_, 1) → (0 ≤ Int32.toInt u.1 ∧ Int32.toInt u.1 ≤ Int32.toInt ss ∧ 0 ≤ Int32.toInt u.2.2.1 ∧ Int32.toInt u.2.2.1 ≤ 400 ∧ -1 ≤ Int32.toInt u.2.2.2.1 ∧ Int32.toInt u.2.2.2.1 ≤ 400 ∧ (Int32.toInt u.2.2.2.1 < 0 ∨ (Int32.toInt u.2.1 = 0 ∧ Int32.toInt u.2.2.2.2.1 = 0)) ∧ 0 ≤ Int32.toInt u.2.2.2.2.2.1 ∧ Int32.toInt u.2.2.2.2.2.1 ≤ 400 ∧ PS ss sa0 so0 fa0 op0 u.1 u.2.1 u.2.2.2.1 u.2.2.2.2.1) → va_P (dC, dI) cls (ME h g ss u.1 u.2.1 u.2.2.1 u.2.2.2.2.2.1 u.2.2.2.1 li co u.2.2.2.2.2.2.2.2 rq bl te u.2.2.2.2.1 wo wz sr u.2.2.2.2.2.2.1 u.2.2.2.2.2.2.2.1 ro) H → va_D A (ME h g ss u.1 u.2.1 u.2.2.1 u.2.2.2.2.2.1 u.2.2.2.1 li co u.2.2.2.2.2.2.2.2 rq bl te u.2.2.2.2.1 wo wz sr u.2.2.2.2.2.2.1 u.2.2.2.2.2.2.2.1 ro) → va_S A s.heap H locs → W p l e ({ frames := 5, cells := 0, slots := 0, locals := 106 } : Room) s m args below meth c H locs 0 0 Q (F0 m pc ls [])) : ∀ (nn : Nat), ∀ (aq : Int32) (sa : Int32) (so : Int32) (pl : Int32) (fa : Int32) (op : Int32) (si : Int32) (le : Nat → Int64) (tx : Nat → Int32) (st : Int32), PR ss sa0 so0 fa0 op0 sa so fa op → (0 ≤ Int32.toInt fa ∨ Int32.toInt so = 4) → 0 ≤ Int32.toInt aq → Int32.toInt aq ≤ Int32.toInt si → 0 ≤ Int32.toInt sa → Int32.toInt sa ≤ Int32.toInt ss → 0 ≤ Int32.toInt pl → Int32.toInt pl ≤ 400 → -1 ≤ Int32.toInt fa → Int32.toInt fa ≤ 400 → (Int32.toInt fa < 0 ∨ (Int32.toInt so = 0 ∧ Int32.toInt op = 0)) → 0 ≤ Int32.toInt si → Int32.toInt si ≤ 400 → (400 - Int32.toInt aq).toNat < nn → ∀ (H : Heap) (locs : List Loc) (ls : Array Slot), va_P (dC, dI) cls (ME h g ss sa so pl si fa li co st rq bl te op wo wz sr le tx ro) H → va_D A (ME h g ss sa so pl si fa li co st rq bl te op wo wz sr le tx ro) → va_S A s.heap H locs → lv_has ls 2 [(1, .int aq), (0, .ref (h 0))] → W p l e ({ frames := 5, cells := 0, slots := 0, locals := 106 } : Room) s m args below meth c H locs 0 0 Q (F0 m 6 ls []) := by
  intro nn
  induction nn with
  | zero =>
    intro _ _ _ _ _ _ _ _ _ _ _ _ _ _ _ _ _ _ _ _ _ _ _ hm
    exact absurd hm (Nat.not_lt_zero _)
  | succ nn ih =>
    intro aq sa so pl fa op si le tx st v_0 v_1 v_2 v_3 v_4 v_5 v_6 v_7 v_8 v_9 v_10 v_11 v_12 hm H locs ls hP hD hS hl
    refine lv_iload_n hx hb d_M_redirect_6 rfl (lv_at hl 0 rfl) ?_
    refine lv_aload_n hx hb d_M_redirect_7 rfl (lv_at hl 1 rfl) ?_
    refine va_get (D := (dC, dI)) (ci := 4) (v := .int si) (C := "SieveDeskModel") (T := F_M) (N := 19) hx hb ht i_M hown hK hP 0 rfl rfl 7 (by decide) (ht _ k_634) (fun _ h9 => h9) rfl d_M_redirect_8 ?_
    refine lv_icmp_ge (tgt := 32) hx hb d_M_redirect_11 (by decide) (fun c_1 => ?_) (fun c_1 => ?_)
    · have dc_1 := i_le c_1 rfl rfl
      refine lv_iload_n hx hb d_M_redirect_32 rfl (lv_at hl 0 rfl) ?_
      refine lv_aload_n hx hb d_M_redirect_33 rfl (lv_at hl 1 rfl) ?_
      refine va_get (D := (dC, dI)) (ci := 4) (v := .int si) (C := "SieveDeskModel") (T := F_M) (N := 19) hx hb ht i_M hown hK hP 0 rfl rfl 7 (by decide) (ht _ k_634) (fun _ h9 => h9) rfl d_M_redirect_34 ?_
      refine lv_icmp_eq (tgt := 69) hx hb d_M_redirect_37 (by decide) (fun c_2 => ?_) (fun c_2 => ?_)
      · have dc_2 := i_eq c_2 rfl rfl
        refine lv_aload_n hx hb d_M_redirect_69 rfl (lv_at hl 1 rfl) ?_
        have hFc := va_free (wc := (ME h g ss sa so pl si fa li co st rq bl te op wo wz sr le tx ro)) hD hS hA [0, 1, 2, 3, 4, 5, 6] rfl
        refine va_callv (va_runV (As := []) (rest := []) ⟨hx, hb, hml, hown, ht⟩ (c_M_fail l dC dI k h g ss sa so pl si fa li co st rq bl te op wo le wz sr tx ro  _ (by omega) (by omega) (by omega) (by omega)) (cwV 0 ht (g_V k_763 k_765 k_50 k_80 k_766) rfl rfl rfl (by decide +kernel) ⟨(Nat.le_of_ble_eq_true rfl), (Nat.le_of_ble_eq_true rfl)⟩) ⟨fb_X, va_recv hK hP (ci := 4) (q0 := 0) rfl rfl, pre_X hE hS hFc hP hK hD⟩ rfl rfl hl.1 rfl (lv_room (Nat.le_of_ble_eq_true rfl)) d_M_redirect_70 ⟨(Nat.le_of_ble_eq_true rfl), (Nat.le_of_ble_eq_true rfl)⟩) hS (fun q _ h9 => hFc q h9) hFc (fun u_6 t H locs het hvm hw hB hz1 hk1 hS => ?_)
        obtain ⟨so_3, fa_4, op_5⟩ := u_6
        try dsimp only at hw
        obtain ⟨p_8, p_9, p_10, p_11, p_12, p_13⟩ := hw
        obtain ⟨hP1, hK1, hD1⟩ := hB
        rw [het] at hP1
        have hP : va_P (dC, dI) cls (ME h g ss sa so_3 pl si fa_4 li co st rq bl te op_5 wo wz sr le tx ro) H := hP1
        have hD : va_D A (ME h g ss sa so_3 pl si fa_4 li co st rq bl te op_5 wo wz sr le tx ro) := hD1.weaken (fun _ _ _ h9 => hFc _ h9)
        have rl_14 : PS ss sa so fa op sa so_3 fa_4 op_5 := pr_out (by omega) (by omega) (by omega) _ _ _ _ (by omega)
        refine lv_aload_n hx hb d_M_redirect_73 rfl (lv_at hl 1 rfl) ?_
        have hFc := va_free (wc := (ME h g ss sa so_3 pl si fa_4 li co st rq bl te op_5 wo wz sr le tx ro)) hD hS hA [0, 1, 2, 3, 4, 5, 6] rfl
        refine va_callv (va_runV (As := []) (rest := []) ⟨hx, hb, hml, hown, ht⟩ (c_M_next l dC dI k h g ss sa so_3 pl si fa_4 li co st rq bl te op_5 wo le wz sr tx ro  _ (by omega) (by omega) (by omega) (by omega) (by omega) (by omega) (by omega) (by omega) (by omega) (by omega) (by omega)) (cwV 0 ht (g_V k_694 k_696 k_37 k_80 k_697) rfl rfl rfl (by decide +kernel) ⟨(Nat.le_of_ble_eq_true rfl), (Nat.le_of_ble_eq_true rfl)⟩) ⟨fb_X, va_recv hK hP (ci := 4) (q0 := 0) rfl rfl, pre_X hE hS hFc hP hK hD⟩ rfl rfl hl.1 rfl (lv_room (Nat.le_of_ble_eq_true rfl)) d_M_redirect_74 ⟨(Nat.le_of_ble_eq_true rfl), (Nat.le_of_ble_eq_true rfl)⟩) hS (fun q _ h9 => hFc q h9) hFc (fun u_23 t H locs het hvm hw hB hz1 hk1 hS => ?_)
        obtain ⟨sa_15, so_16, pl_17, fa_18, op_19, si_20, le_21, tx_22⟩ := u_23
        try dsimp only at hw
        obtain ⟨p_25, p_26, p_27, p_28, p_29, p_30, p_31, p_32, p_33, p_34, p_35⟩ := hw
        obtain ⟨hP1, hK1, hD1⟩ := hB
        rw [het] at hP1
        have hP : va_P (dC, dI) cls (ME h g ss sa_15 so_16 pl_17 si_20 fa_18 li co st rq bl te op_19 wo wz sr le_21 tx_22 ro) H := hP1
        have hD : va_D A (ME h g ss sa_15 so_16 pl_17 si_20 fa_18 li co st rq bl te op_19 wo wz sr le_21 tx_22 ro) := hD1.weaken (fun _ _ _ h9 => hFc _ h9)
        have rl_36 := p_35.resolve_right (by omega)
        have rl_37 := rSS rl_14 rl_36
        exact fin  (sa_15, so_16, pl_17, fa_18, op_19, si_20, le_21, tx_22, st) _ _ _ ls d_M_redirect_77 ⟨(by (try dsimp only); omega), (by (try dsimp only); omega), (by (try dsimp only); omega), (by (try dsimp only); omega), (by (try dsimp only); omega), (by (try dsimp only); omega), (by (try dsimp only); omega), (by (try dsimp only); omega), (by (try dsimp only); omega), (rRS v_0 rl_37)⟩ hP hD hS
      · have dc_2 := i_ne c_2 rfl rfl
        refine lv_aload_n hx hb d_M_redirect_40 rfl (lv_at hl 1 rfl) ?_
        refine lv_iconst (v := 0) hx hb d_M_redirect_41 (by decide) ?_
        refine lv_iload_n hx hb d_M_redirect_42 rfl (lv_at hl 0 rfl) ?_
        refine lv_bipush (v := 40) hx hb d_M_redirect_43 (by decide) ?_
        refine lv_iconst (v := 1) hx hb d_M_redirect_45 (by decide) ?_
        have hc_0 : Int32.toInt 0 = 0 := by decide
        have hc_40 : Int32.toInt 40 = 40 := by decide
        have hc_1 : Int32.toInt 1 = 1 := by decide
        have hFc := va_free (wc := (ME h g ss sa so pl si fa li co st rq bl te op wo wz sr le tx ro)) hD hS hA [0, 1, 2, 3, 4, 5, 6] rfl
        refine va_calli (va_runV (As := [.int 0, .int aq, .int 40, .int 1]) (rest := []) ⟨hx, hb, hml, hown, ht⟩ (c_M_isDotted l dC dI k h g ss sa so pl si fa li co st rq bl te op wo le wz sr tx ro 0 aq 40 1 _ (by omega) (by omega) (by omega) (by omega) ) (cwV 4 ht (g_V k_827 k_829 k_66 k_80 k_830) rfl rfl rfl (by decide +kernel) ⟨(Nat.le_of_ble_eq_true rfl), (Nat.le_of_ble_eq_true rfl)⟩) ⟨fb_X, va_recv hK hP (ci := 4) (q0 := 0) rfl rfl, pre_X hE hS hFc hP hK hD⟩ rfl rfl hl.1 rfl (lv_room (Nat.le_of_ble_eq_true rfl)) d_M_redirect_46 ⟨(Nat.le_of_ble_eq_true rfl), (Nat.le_of_ble_eq_true rfl)⟩) hS (fun q _ h9 => hFc q h9) hFc (fun r_39 u_38 t H locs het hvm hw hB hz1 hk1 hS => ?_)
        have p_40 := hw
        obtain ⟨hP1, hK1, hD1⟩ := hB
        rw [het] at hP1
        have hP : va_P (dC, dI) cls (ME h g ss sa so pl si fa li co st rq bl te op wo wz sr le tx ro) H := hP1
        have hD : va_D A (ME h g ss sa so pl si fa li co st rq bl te op wo wz sr le tx ro) := hD1.weaken (fun _ _ _ h9 => hFc _ h9)
        refine lv_if_eq (tgt := 69) hx hb d_M_redirect_49 (by decide) (fun c_41 => ?_) (fun c_41 => ?_)
        · refine lv_aload_n hx hb d_M_redirect_69 rfl (lv_at hl 1 rfl) ?_
          have hFc := va_free (wc := (ME h g ss sa so pl si fa li co st rq bl te op wo wz sr le tx ro)) hD hS hA [0, 1, 2, 3, 4, 5, 6] rfl
          refine va_callv (va_runV (As := []) (rest := []) ⟨hx, hb, hml, hown, ht⟩ (c_M_fail l dC dI k h g ss sa so pl si fa li co st rq bl te op wo le wz sr tx ro  _ (by omega) (by omega) (by omega) (by omega)) (cwV 0 ht (g_V k_763 k_765 k_50 k_80 k_766) rfl rfl rfl (by decide +kernel) ⟨(Nat.le_of_ble_eq_true rfl), (Nat.le_of_ble_eq_true rfl)⟩) ⟨fb_X, va_recv hK hP (ci := 4) (q0 := 0) rfl rfl, pre_X hE hS hFc hP hK hD⟩ rfl rfl hl.1 rfl (lv_room (Nat.le_of_ble_eq_true rfl)) d_M_redirect_70 ⟨(Nat.le_of_ble_eq_true rfl), (Nat.le_of_ble_eq_true rfl)⟩) hS (fun q _ h9 => hFc q h9) hFc (fun u_45 t H locs het hvm hw hB hz1 hk1 hS => ?_)
          obtain ⟨so_42, fa_43, op_44⟩ := u_45
          try dsimp only at hw
          obtain ⟨p_47, p_48, p_49, p_50, p_51, p_52⟩ := hw
          obtain ⟨hP1, hK1, hD1⟩ := hB
          rw [het] at hP1
          have hP : va_P (dC, dI) cls (ME h g ss sa so_42 pl si fa_43 li co st rq bl te op_44 wo wz sr le tx ro) H := hP1
          have hD : va_D A (ME h g ss sa so_42 pl si fa_43 li co st rq bl te op_44 wo wz sr le tx ro) := hD1.weaken (fun _ _ _ h9 => hFc _ h9)
          have rl_53 : PS ss sa so fa op sa so_42 fa_43 op_44 := pr_out (by omega) (by omega) (by omega) _ _ _ _ (by omega)
          refine lv_aload_n hx hb d_M_redirect_73 rfl (lv_at hl 1 rfl) ?_
          have hFc := va_free (wc := (ME h g ss sa so_42 pl si fa_43 li co st rq bl te op_44 wo wz sr le tx ro)) hD hS hA [0, 1, 2, 3, 4, 5, 6] rfl
          refine va_callv (va_runV (As := []) (rest := []) ⟨hx, hb, hml, hown, ht⟩ (c_M_next l dC dI k h g ss sa so_42 pl si fa_43 li co st rq bl te op_44 wo le wz sr tx ro  _ (by omega) (by omega) (by omega) (by omega) (by omega) (by omega) (by omega) (by omega) (by omega) (by omega) (by omega)) (cwV 0 ht (g_V k_694 k_696 k_37 k_80 k_697) rfl rfl rfl (by decide +kernel) ⟨(Nat.le_of_ble_eq_true rfl), (Nat.le_of_ble_eq_true rfl)⟩) ⟨fb_X, va_recv hK hP (ci := 4) (q0 := 0) rfl rfl, pre_X hE hS hFc hP hK hD⟩ rfl rfl hl.1 rfl (lv_room (Nat.le_of_ble_eq_true rfl)) d_M_redirect_74 ⟨(Nat.le_of_ble_eq_true rfl), (Nat.le_of_ble_eq_true rfl)⟩) hS (fun q _ h9 => hFc q h9) hFc (fun u_62 t H locs het hvm hw hB hz1 hk1 hS => ?_)
          obtain ⟨sa_54, so_55, pl_56, fa_57, op_58, si_59, le_60, tx_61⟩ := u_62
          try dsimp only at hw
          obtain ⟨p_64, p_65, p_66, p_67, p_68, p_69, p_70, p_71, p_72, p_73, p_74⟩ := hw
          obtain ⟨hP1, hK1, hD1⟩ := hB
          rw [het] at hP1
          have hP : va_P (dC, dI) cls (ME h g ss sa_54 so_55 pl_56 si_59 fa_57 li co st rq bl te op_58 wo wz sr le_60 tx_61 ro) H := hP1
          have hD : va_D A (ME h g ss sa_54 so_55 pl_56 si_59 fa_57 li co st rq bl te op_58 wo wz sr le_60 tx_61 ro) := hD1.weaken (fun _ _ _ h9 => hFc _ h9)
          have rl_75 := p_74.resolve_right (by omega)
          have rl_76 := rSS rl_53 rl_75
          exact fin  (sa_54, so_55, pl_56, fa_57, op_58, si_59, le_60, tx_61, st) _ _ _ ls d_M_redirect_77 ⟨(by (try dsimp only); omega), (by (try dsimp only); omega), (by (try dsimp only); omega), (by (try dsimp only); omega), (by (try dsimp only); omega), (by (try dsimp only); omega), (by (try dsimp only); omega), (by (try dsimp only); omega), (by (try dsimp only); omega), (rRS v_0 rl_76)⟩ hP hD hS
        · refine lv_aload_n hx hb d_M_redirect_52 rfl (lv_at hl 1 rfl) ?_
          refine lv_iload_n hx hb d_M_redirect_53 rfl (lv_at hl 0 rfl) ?_
          refine lv_iconst (v := 1) hx hb d_M_redirect_54 (by decide) ?_
          refine lv_iadd hx hb d_M_redirect_55 ?_
          have e_77 : Int32.toInt (aq + 1) = (Int32.toInt aq) + 1 := i_add rfl (show Int32.toInt 1 = 1 by decide) (by omega) (by omega)
          refine lv_aload_n hx hb d_M_redirect_56 rfl (lv_at hl 1 rfl) ?_
          refine va_get (D := (dC, dI)) (ci := 4) (v := .int si) (C := "SieveDeskModel") (T := F_M) (N := 19) hx hb ht i_M hown hK hP 0 rfl rfl 7 (by decide) (ht _ k_634) (fun _ h9 => h9) rfl d_M_redirect_57 ?_
          refine lv_bipush (v := 60) hx hb d_M_redirect_60 (by decide) ?_
          refine lv_iconst (v := 0) hx hb d_M_redirect_62 (by decide) ?_
          have hc_60 : Int32.toInt 60 = 60 := by decide
          have hFc := va_free (wc := (ME h g ss sa so pl si fa li co st rq bl te op wo wz sr le tx ro)) hD hS hA [0, 1, 2, 3, 4, 5, 6] rfl
          refine va_calli (va_runV (As := [.int (aq + 1), .int si, .int 60, .int 0]) (rest := []) ⟨hx, hb, hml, hown, ht⟩ (c_M_isDotted l dC dI k h g ss sa so pl si fa li co st rq bl te op wo le wz sr tx ro (aq + 1) si 60 0 _ (by omega) (by omega) (by omega) (by omega) ) (cwV 4 ht (g_V k_827 k_829 k_66 k_80 k_830) rfl rfl rfl (by decide +kernel) ⟨(Nat.le_of_ble_eq_true rfl), (Nat.le_of_ble_eq_true rfl)⟩) ⟨fb_X, va_recv hK hP (ci := 4) (q0 := 0) rfl rfl, pre_X hE hS hFc hP hK hD⟩ rfl rfl hl.1 rfl (lv_room (Nat.le_of_ble_eq_true rfl)) d_M_redirect_63 ⟨(Nat.le_of_ble_eq_true rfl), (Nat.le_of_ble_eq_true rfl)⟩) hS (fun q _ h9 => hFc q h9) hFc (fun r_79 u_78 t H locs het hvm hw hB hz1 hk1 hS => ?_)
          have p_80 := hw
          obtain ⟨hP1, hK1, hD1⟩ := hB
          rw [het] at hP1
          have hP : va_P (dC, dI) cls (ME h g ss sa so pl si fa li co st rq bl te op wo wz sr le tx ro) H := hP1
          have hD : va_D A (ME h g ss sa so pl si fa li co st rq bl te op wo wz sr le tx ro) := hD1.weaken (fun _ _ _ h9 => hFc _ h9)
          refine lv_if_ne (tgt := 73) hx hb d_M_redirect_66 (by decide) (fun c_81 => ?_) (fun c_81 => ?_)
          · refine lv_aload_n hx hb d_M_redirect_73 rfl (lv_at hl 1 rfl) ?_
            have hFc := va_free (wc := (ME h g ss sa so pl si fa li co st rq bl te op wo wz sr le tx ro)) hD hS hA [0, 1, 2, 3, 4, 5, 6] rfl
            refine va_callv (va_runV (As := []) (rest := []) ⟨hx, hb, hml, hown, ht⟩ (c_M_next l dC dI k h g ss sa so pl si fa li co st rq bl te op wo le wz sr tx ro  _ (by omega) (by omega) (by omega) (by omega) (by omega) (by omega) (by omega) (by omega) (by omega) (by omega) (by omega)) (cwV 0 ht (g_V k_694 k_696 k_37 k_80 k_697) rfl rfl rfl (by decide +kernel) ⟨(Nat.le_of_ble_eq_true rfl), (Nat.le_of_ble_eq_true rfl)⟩) ⟨fb_X, va_recv hK hP (ci := 4) (q0 := 0) rfl rfl, pre_X hE hS hFc hP hK hD⟩ rfl rfl hl.1 rfl (lv_room (Nat.le_of_ble_eq_true rfl)) d_M_redirect_74 ⟨(Nat.le_of_ble_eq_true rfl), (Nat.le_of_ble_eq_true rfl)⟩) hS (fun q _ h9 => hFc q h9) hFc (fun u_90 t H locs het hvm hw hB hz1 hk1 hS => ?_)
            obtain ⟨sa_82, so_83, pl_84, fa_85, op_86, si_87, le_88, tx_89⟩ := u_90
            try dsimp only at hw
            obtain ⟨p_92, p_93, p_94, p_95, p_96, p_97, p_98, p_99, p_100, p_101, p_102⟩ := hw
            obtain ⟨hP1, hK1, hD1⟩ := hB
            rw [het] at hP1
            have hP : va_P (dC, dI) cls (ME h g ss sa_82 so_83 pl_84 si_87 fa_85 li co st rq bl te op_86 wo wz sr le_88 tx_89 ro) H := hP1
            have hD : va_D A (ME h g ss sa_82 so_83 pl_84 si_87 fa_85 li co st rq bl te op_86 wo wz sr le_88 tx_89 ro) := hD1.weaken (fun _ _ _ h9 => hFc _ h9)
            have rl_103 := p_102.resolve_right (by omega)
            exact fin  (sa_82, so_83, pl_84, fa_85, op_86, si_87, le_88, tx_89, st) _ _ _ ls d_M_redirect_77 ⟨(by (try dsimp only); omega), (by (try dsimp only); omega), (by (try dsimp only); omega), (by (try dsimp only); omega), (by (try dsimp only); omega), (by (try dsimp only); omega), (by (try dsimp only); omega), (by (try dsimp only); omega), (by (try dsimp only); omega), (rRS v_0 rl_103)⟩ hP hD hS
          · refine lv_aload_n hx hb d_M_redirect_69 rfl (lv_at hl 1 rfl) ?_
            have hFc := va_free (wc := (ME h g ss sa so pl si fa li co st rq bl te op wo wz sr le tx ro)) hD hS hA [0, 1, 2, 3, 4, 5, 6] rfl
            refine va_callv (va_runV (As := []) (rest := []) ⟨hx, hb, hml, hown, ht⟩ (c_M_fail l dC dI k h g ss sa so pl si fa li co st rq bl te op wo le wz sr tx ro  _ (by omega) (by omega) (by omega) (by omega)) (cwV 0 ht (g_V k_763 k_765 k_50 k_80 k_766) rfl rfl rfl (by decide +kernel) ⟨(Nat.le_of_ble_eq_true rfl), (Nat.le_of_ble_eq_true rfl)⟩) ⟨fb_X, va_recv hK hP (ci := 4) (q0 := 0) rfl rfl, pre_X hE hS hFc hP hK hD⟩ rfl rfl hl.1 rfl (lv_room (Nat.le_of_ble_eq_true rfl)) d_M_redirect_70 ⟨(Nat.le_of_ble_eq_true rfl), (Nat.le_of_ble_eq_true rfl)⟩) hS (fun q _ h9 => hFc q h9) hFc (fun u_107 t H locs het hvm hw hB hz1 hk1 hS => ?_)
            obtain ⟨so_104, fa_105, op_106⟩ := u_107
            try dsimp only at hw
            obtain ⟨p_109, p_110, p_111, p_112, p_113, p_114⟩ := hw
            obtain ⟨hP1, hK1, hD1⟩ := hB
            rw [het] at hP1
            have hP : va_P (dC, dI) cls (ME h g ss sa so_104 pl si fa_105 li co st rq bl te op_106 wo wz sr le tx ro) H := hP1
            have hD : va_D A (ME h g ss sa so_104 pl si fa_105 li co st rq bl te op_106 wo wz sr le tx ro) := hD1.weaken (fun _ _ _ h9 => hFc _ h9)
            have rl_115 : PS ss sa so fa op sa so_104 fa_105 op_106 := pr_out (by omega) (by omega) (by omega) _ _ _ _ (by omega)
            refine lv_aload_n hx hb d_M_redirect_73 rfl (lv_at hl 1 rfl) ?_
            have hFc := va_free (wc := (ME h g ss sa so_104 pl si fa_105 li co st rq bl te op_106 wo wz sr le tx ro)) hD hS hA [0, 1, 2, 3, 4, 5, 6] rfl
            refine va_callv (va_runV (As := []) (rest := []) ⟨hx, hb, hml, hown, ht⟩ (c_M_next l dC dI k h g ss sa so_104 pl si fa_105 li co st rq bl te op_106 wo le wz sr tx ro  _ (by omega) (by omega) (by omega) (by omega) (by omega) (by omega) (by omega) (by omega) (by omega) (by omega) (by omega)) (cwV 0 ht (g_V k_694 k_696 k_37 k_80 k_697) rfl rfl rfl (by decide +kernel) ⟨(Nat.le_of_ble_eq_true rfl), (Nat.le_of_ble_eq_true rfl)⟩) ⟨fb_X, va_recv hK hP (ci := 4) (q0 := 0) rfl rfl, pre_X hE hS hFc hP hK hD⟩ rfl rfl hl.1 rfl (lv_room (Nat.le_of_ble_eq_true rfl)) d_M_redirect_74 ⟨(Nat.le_of_ble_eq_true rfl), (Nat.le_of_ble_eq_true rfl)⟩) hS (fun q _ h9 => hFc q h9) hFc (fun u_124 t H locs het hvm hw hB hz1 hk1 hS => ?_)
            obtain ⟨sa_116, so_117, pl_118, fa_119, op_120, si_121, le_122, tx_123⟩ := u_124
            try dsimp only at hw
            obtain ⟨p_126, p_127, p_128, p_129, p_130, p_131, p_132, p_133, p_134, p_135, p_136⟩ := hw
            obtain ⟨hP1, hK1, hD1⟩ := hB
            rw [het] at hP1
            have hP : va_P (dC, dI) cls (ME h g ss sa_116 so_117 pl_118 si_121 fa_119 li co st rq bl te op_120 wo wz sr le_122 tx_123 ro) H := hP1
            have hD : va_D A (ME h g ss sa_116 so_117 pl_118 si_121 fa_119 li co st rq bl te op_120 wo wz sr le_122 tx_123 ro) := hD1.weaken (fun _ _ _ h9 => hFc _ h9)
            have rl_137 := p_136.resolve_right (by omega)
            have rl_138 := rSS rl_115 rl_137
            exact fin  (sa_116, so_117, pl_118, fa_119, op_120, si_121, le_122, tx_123, st) _ _ _ ls d_M_redirect_77 ⟨(by (try dsimp only); omega), (by (try dsimp only); omega), (by (try dsimp only); omega), (by (try dsimp only); omega), (by (try dsimp only); omega), (by (try dsimp only); omega), (by (try dsimp only); omega), (by (try dsimp only); omega), (by (try dsimp only); omega), (rRS v_0 rl_138)⟩ hP hD hS
    · have dc_1 := i_nle c_1 rfl rfl
      refine lv_aload_n hx hb d_M_redirect_14 rfl (lv_at hl 1 rfl) ?_
      refine va_get (D := (dC, dI)) (ci := 4) (v := .ref (h 5)) (C := "SieveDeskModel") (T := F_M) (N := 19) hx hb ht i_M hown hK hP 0 rfl rfl 9 (by decide) (ht _ k_636) (fun _ h9 => h9) rfl d_M_redirect_15 ?_
      refine lv_iload_n hx hb d_M_redirect_18 rfl (lv_at hl 0 rfl) ?_
      refine va_iald hx hb hK hP 5 4 rfl rfl (i_in rfl (by omega) (by omega)) d_M_redirect_19 ?_
      refine lv_bipush (v := 64) hx hb d_M_redirect_20 (by decide) ?_
      refine lv_icmp_eq (tgt := 32) hx hb d_M_redirect_22 (by decide) (fun c_139 => ?_) (fun c_139 => ?_)
      · refine lv_iload_n hx hb d_M_redirect_32 rfl (lv_at hl 0 rfl) ?_
        refine lv_aload_n hx hb d_M_redirect_33 rfl (lv_at hl 1 rfl) ?_
        refine va_get (D := (dC, dI)) (ci := 4) (v := .int si) (C := "SieveDeskModel") (T := F_M) (N := 19) hx hb ht i_M hown hK hP 0 rfl rfl 7 (by decide) (ht _ k_634) (fun _ h9 => h9) rfl d_M_redirect_34 ?_
        refine lv_icmp_eq (tgt := 69) hx hb d_M_redirect_37 (by decide) (fun c_140 => ?_) (fun c_140 => ?_)
        · have dc_140 := i_eq c_140 rfl rfl
          refine lv_aload_n hx hb d_M_redirect_69 rfl (lv_at hl 1 rfl) ?_
          have hFc := va_free (wc := (ME h g ss sa so pl si fa li co st rq bl te op wo wz sr le tx ro)) hD hS hA [0, 1, 2, 3, 4, 5, 6] rfl
          refine va_callv (va_runV (As := []) (rest := []) ⟨hx, hb, hml, hown, ht⟩ (c_M_fail l dC dI k h g ss sa so pl si fa li co st rq bl te op wo le wz sr tx ro  _ (by omega) (by omega) (by omega) (by omega)) (cwV 0 ht (g_V k_763 k_765 k_50 k_80 k_766) rfl rfl rfl (by decide +kernel) ⟨(Nat.le_of_ble_eq_true rfl), (Nat.le_of_ble_eq_true rfl)⟩) ⟨fb_X, va_recv hK hP (ci := 4) (q0 := 0) rfl rfl, pre_X hE hS hFc hP hK hD⟩ rfl rfl hl.1 rfl (lv_room (Nat.le_of_ble_eq_true rfl)) d_M_redirect_70 ⟨(Nat.le_of_ble_eq_true rfl), (Nat.le_of_ble_eq_true rfl)⟩) hS (fun q _ h9 => hFc q h9) hFc (fun u_144 t H locs het hvm hw hB hz1 hk1 hS => ?_)
          obtain ⟨so_141, fa_142, op_143⟩ := u_144
          try dsimp only at hw
          obtain ⟨p_146, p_147, p_148, p_149, p_150, p_151⟩ := hw
          obtain ⟨hP1, hK1, hD1⟩ := hB
          rw [het] at hP1
          have hP : va_P (dC, dI) cls (ME h g ss sa so_141 pl si fa_142 li co st rq bl te op_143 wo wz sr le tx ro) H := hP1
          have hD : va_D A (ME h g ss sa so_141 pl si fa_142 li co st rq bl te op_143 wo wz sr le tx ro) := hD1.weaken (fun _ _ _ h9 => hFc _ h9)
          have rl_152 : PS ss sa so fa op sa so_141 fa_142 op_143 := pr_out (by omega) (by omega) (by omega) _ _ _ _ (by omega)
          refine lv_aload_n hx hb d_M_redirect_73 rfl (lv_at hl 1 rfl) ?_
          have hFc := va_free (wc := (ME h g ss sa so_141 pl si fa_142 li co st rq bl te op_143 wo wz sr le tx ro)) hD hS hA [0, 1, 2, 3, 4, 5, 6] rfl
          refine va_callv (va_runV (As := []) (rest := []) ⟨hx, hb, hml, hown, ht⟩ (c_M_next l dC dI k h g ss sa so_141 pl si fa_142 li co st rq bl te op_143 wo le wz sr tx ro  _ (by omega) (by omega) (by omega) (by omega) (by omega) (by omega) (by omega) (by omega) (by omega) (by omega) (by omega)) (cwV 0 ht (g_V k_694 k_696 k_37 k_80 k_697) rfl rfl rfl (by decide +kernel) ⟨(Nat.le_of_ble_eq_true rfl), (Nat.le_of_ble_eq_true rfl)⟩) ⟨fb_X, va_recv hK hP (ci := 4) (q0 := 0) rfl rfl, pre_X hE hS hFc hP hK hD⟩ rfl rfl hl.1 rfl (lv_room (Nat.le_of_ble_eq_true rfl)) d_M_redirect_74 ⟨(Nat.le_of_ble_eq_true rfl), (Nat.le_of_ble_eq_true rfl)⟩) hS (fun q _ h9 => hFc q h9) hFc (fun u_161 t H locs het hvm hw hB hz1 hk1 hS => ?_)
          obtain ⟨sa_153, so_154, pl_155, fa_156, op_157, si_158, le_159, tx_160⟩ := u_161
          try dsimp only at hw
          obtain ⟨p_163, p_164, p_165, p_166, p_167, p_168, p_169, p_170, p_171, p_172, p_173⟩ := hw
          obtain ⟨hP1, hK1, hD1⟩ := hB
          rw [het] at hP1
          have hP : va_P (dC, dI) cls (ME h g ss sa_153 so_154 pl_155 si_158 fa_156 li co st rq bl te op_157 wo wz sr le_159 tx_160 ro) H := hP1
          have hD : va_D A (ME h g ss sa_153 so_154 pl_155 si_158 fa_156 li co st rq bl te op_157 wo wz sr le_159 tx_160 ro) := hD1.weaken (fun _ _ _ h9 => hFc _ h9)
          have rl_174 := p_173.resolve_right (by omega)
          have rl_175 := rSS rl_152 rl_174
          exact fin  (sa_153, so_154, pl_155, fa_156, op_157, si_158, le_159, tx_160, st) _ _ _ ls d_M_redirect_77 ⟨(by (try dsimp only); omega), (by (try dsimp only); omega), (by (try dsimp only); omega), (by (try dsimp only); omega), (by (try dsimp only); omega), (by (try dsimp only); omega), (by (try dsimp only); omega), (by (try dsimp only); omega), (by (try dsimp only); omega), (rRS v_0 rl_175)⟩ hP hD hS
        · have dc_140 := i_ne c_140 rfl rfl
          refine lv_aload_n hx hb d_M_redirect_40 rfl (lv_at hl 1 rfl) ?_
          refine lv_iconst (v := 0) hx hb d_M_redirect_41 (by decide) ?_
          refine lv_iload_n hx hb d_M_redirect_42 rfl (lv_at hl 0 rfl) ?_
          refine lv_bipush (v := 40) hx hb d_M_redirect_43 (by decide) ?_
          refine lv_iconst (v := 1) hx hb d_M_redirect_45 (by decide) ?_
          have hc_0 : Int32.toInt 0 = 0 := by decide
          have hc_40 : Int32.toInt 40 = 40 := by decide
          have hc_1 : Int32.toInt 1 = 1 := by decide
          have hFc := va_free (wc := (ME h g ss sa so pl si fa li co st rq bl te op wo wz sr le tx ro)) hD hS hA [0, 1, 2, 3, 4, 5, 6] rfl
          refine va_calli (va_runV (As := [.int 0, .int aq, .int 40, .int 1]) (rest := []) ⟨hx, hb, hml, hown, ht⟩ (c_M_isDotted l dC dI k h g ss sa so pl si fa li co st rq bl te op wo le wz sr tx ro 0 aq 40 1 _ (by omega) (by omega) (by omega) (by omega) ) (cwV 4 ht (g_V k_827 k_829 k_66 k_80 k_830) rfl rfl rfl (by decide +kernel) ⟨(Nat.le_of_ble_eq_true rfl), (Nat.le_of_ble_eq_true rfl)⟩) ⟨fb_X, va_recv hK hP (ci := 4) (q0 := 0) rfl rfl, pre_X hE hS hFc hP hK hD⟩ rfl rfl hl.1 rfl (lv_room (Nat.le_of_ble_eq_true rfl)) d_M_redirect_46 ⟨(Nat.le_of_ble_eq_true rfl), (Nat.le_of_ble_eq_true rfl)⟩) hS (fun q _ h9 => hFc q h9) hFc (fun r_177 u_176 t H locs het hvm hw hB hz1 hk1 hS => ?_)
          have p_178 := hw
          obtain ⟨hP1, hK1, hD1⟩ := hB
          rw [het] at hP1
          have hP : va_P (dC, dI) cls (ME h g ss sa so pl si fa li co st rq bl te op wo wz sr le tx ro) H := hP1
          have hD : va_D A (ME h g ss sa so pl si fa li co st rq bl te op wo wz sr le tx ro) := hD1.weaken (fun _ _ _ h9 => hFc _ h9)
          refine lv_if_eq (tgt := 69) hx hb d_M_redirect_49 (by decide) (fun c_179 => ?_) (fun c_179 => ?_)
          · refine lv_aload_n hx hb d_M_redirect_69 rfl (lv_at hl 1 rfl) ?_
            have hFc := va_free (wc := (ME h g ss sa so pl si fa li co st rq bl te op wo wz sr le tx ro)) hD hS hA [0, 1, 2, 3, 4, 5, 6] rfl
            refine va_callv (va_runV (As := []) (rest := []) ⟨hx, hb, hml, hown, ht⟩ (c_M_fail l dC dI k h g ss sa so pl si fa li co st rq bl te op wo le wz sr tx ro  _ (by omega) (by omega) (by omega) (by omega)) (cwV 0 ht (g_V k_763 k_765 k_50 k_80 k_766) rfl rfl rfl (by decide +kernel) ⟨(Nat.le_of_ble_eq_true rfl), (Nat.le_of_ble_eq_true rfl)⟩) ⟨fb_X, va_recv hK hP (ci := 4) (q0 := 0) rfl rfl, pre_X hE hS hFc hP hK hD⟩ rfl rfl hl.1 rfl (lv_room (Nat.le_of_ble_eq_true rfl)) d_M_redirect_70 ⟨(Nat.le_of_ble_eq_true rfl), (Nat.le_of_ble_eq_true rfl)⟩) hS (fun q _ h9 => hFc q h9) hFc (fun u_183 t H locs het hvm hw hB hz1 hk1 hS => ?_)
            obtain ⟨so_180, fa_181, op_182⟩ := u_183
            try dsimp only at hw
            obtain ⟨p_185, p_186, p_187, p_188, p_189, p_190⟩ := hw
            obtain ⟨hP1, hK1, hD1⟩ := hB
            rw [het] at hP1
            have hP : va_P (dC, dI) cls (ME h g ss sa so_180 pl si fa_181 li co st rq bl te op_182 wo wz sr le tx ro) H := hP1
            have hD : va_D A (ME h g ss sa so_180 pl si fa_181 li co st rq bl te op_182 wo wz sr le tx ro) := hD1.weaken (fun _ _ _ h9 => hFc _ h9)
            have rl_191 : PS ss sa so fa op sa so_180 fa_181 op_182 := pr_out (by omega) (by omega) (by omega) _ _ _ _ (by omega)
            refine lv_aload_n hx hb d_M_redirect_73 rfl (lv_at hl 1 rfl) ?_
            have hFc := va_free (wc := (ME h g ss sa so_180 pl si fa_181 li co st rq bl te op_182 wo wz sr le tx ro)) hD hS hA [0, 1, 2, 3, 4, 5, 6] rfl
            refine va_callv (va_runV (As := []) (rest := []) ⟨hx, hb, hml, hown, ht⟩ (c_M_next l dC dI k h g ss sa so_180 pl si fa_181 li co st rq bl te op_182 wo le wz sr tx ro  _ (by omega) (by omega) (by omega) (by omega) (by omega) (by omega) (by omega) (by omega) (by omega) (by omega) (by omega)) (cwV 0 ht (g_V k_694 k_696 k_37 k_80 k_697) rfl rfl rfl (by decide +kernel) ⟨(Nat.le_of_ble_eq_true rfl), (Nat.le_of_ble_eq_true rfl)⟩) ⟨fb_X, va_recv hK hP (ci := 4) (q0 := 0) rfl rfl, pre_X hE hS hFc hP hK hD⟩ rfl rfl hl.1 rfl (lv_room (Nat.le_of_ble_eq_true rfl)) d_M_redirect_74 ⟨(Nat.le_of_ble_eq_true rfl), (Nat.le_of_ble_eq_true rfl)⟩) hS (fun q _ h9 => hFc q h9) hFc (fun u_200 t H locs het hvm hw hB hz1 hk1 hS => ?_)
            obtain ⟨sa_192, so_193, pl_194, fa_195, op_196, si_197, le_198, tx_199⟩ := u_200
            try dsimp only at hw
            obtain ⟨p_202, p_203, p_204, p_205, p_206, p_207, p_208, p_209, p_210, p_211, p_212⟩ := hw
            obtain ⟨hP1, hK1, hD1⟩ := hB
            rw [het] at hP1
            have hP : va_P (dC, dI) cls (ME h g ss sa_192 so_193 pl_194 si_197 fa_195 li co st rq bl te op_196 wo wz sr le_198 tx_199 ro) H := hP1
            have hD : va_D A (ME h g ss sa_192 so_193 pl_194 si_197 fa_195 li co st rq bl te op_196 wo wz sr le_198 tx_199 ro) := hD1.weaken (fun _ _ _ h9 => hFc _ h9)
            have rl_213 := p_212.resolve_right (by omega)
            have rl_214 := rSS rl_191 rl_213
            exact fin  (sa_192, so_193, pl_194, fa_195, op_196, si_197, le_198, tx_199, st) _ _ _ ls d_M_redirect_77 ⟨(by (try dsimp only); omega), (by (try dsimp only); omega), (by (try dsimp only); omega), (by (try dsimp only); omega), (by (try dsimp only); omega), (by (try dsimp only); omega), (by (try dsimp only); omega), (by (try dsimp only); omega), (by (try dsimp only); omega), (rRS v_0 rl_214)⟩ hP hD hS
          · refine lv_aload_n hx hb d_M_redirect_52 rfl (lv_at hl 1 rfl) ?_
            refine lv_iload_n hx hb d_M_redirect_53 rfl (lv_at hl 0 rfl) ?_
            refine lv_iconst (v := 1) hx hb d_M_redirect_54 (by decide) ?_
            refine lv_iadd hx hb d_M_redirect_55 ?_
            have e_215 : Int32.toInt (aq + 1) = (Int32.toInt aq) + 1 := i_add rfl (show Int32.toInt 1 = 1 by decide) (by omega) (by omega)
            refine lv_aload_n hx hb d_M_redirect_56 rfl (lv_at hl 1 rfl) ?_
            refine va_get (D := (dC, dI)) (ci := 4) (v := .int si) (C := "SieveDeskModel") (T := F_M) (N := 19) hx hb ht i_M hown hK hP 0 rfl rfl 7 (by decide) (ht _ k_634) (fun _ h9 => h9) rfl d_M_redirect_57 ?_
            refine lv_bipush (v := 60) hx hb d_M_redirect_60 (by decide) ?_
            refine lv_iconst (v := 0) hx hb d_M_redirect_62 (by decide) ?_
            have hc_60 : Int32.toInt 60 = 60 := by decide
            have hFc := va_free (wc := (ME h g ss sa so pl si fa li co st rq bl te op wo wz sr le tx ro)) hD hS hA [0, 1, 2, 3, 4, 5, 6] rfl
            refine va_calli (va_runV (As := [.int (aq + 1), .int si, .int 60, .int 0]) (rest := []) ⟨hx, hb, hml, hown, ht⟩ (c_M_isDotted l dC dI k h g ss sa so pl si fa li co st rq bl te op wo le wz sr tx ro (aq + 1) si 60 0 _ (by omega) (by omega) (by omega) (by omega) ) (cwV 4 ht (g_V k_827 k_829 k_66 k_80 k_830) rfl rfl rfl (by decide +kernel) ⟨(Nat.le_of_ble_eq_true rfl), (Nat.le_of_ble_eq_true rfl)⟩) ⟨fb_X, va_recv hK hP (ci := 4) (q0 := 0) rfl rfl, pre_X hE hS hFc hP hK hD⟩ rfl rfl hl.1 rfl (lv_room (Nat.le_of_ble_eq_true rfl)) d_M_redirect_63 ⟨(Nat.le_of_ble_eq_true rfl), (Nat.le_of_ble_eq_true rfl)⟩) hS (fun q _ h9 => hFc q h9) hFc (fun r_217 u_216 t H locs het hvm hw hB hz1 hk1 hS => ?_)
            have p_218 := hw
            obtain ⟨hP1, hK1, hD1⟩ := hB
            rw [het] at hP1
            have hP : va_P (dC, dI) cls (ME h g ss sa so pl si fa li co st rq bl te op wo wz sr le tx ro) H := hP1
            have hD : va_D A (ME h g ss sa so pl si fa li co st rq bl te op wo wz sr le tx ro) := hD1.weaken (fun _ _ _ h9 => hFc _ h9)
            refine lv_if_ne (tgt := 73) hx hb d_M_redirect_66 (by decide) (fun c_219 => ?_) (fun c_219 => ?_)
            · refine lv_aload_n hx hb d_M_redirect_73 rfl (lv_at hl 1 rfl) ?_
              have hFc := va_free (wc := (ME h g ss sa so pl si fa li co st rq bl te op wo wz sr le tx ro)) hD hS hA [0, 1, 2, 3, 4, 5, 6] rfl
              refine va_callv (va_runV (As := []) (rest := []) ⟨hx, hb, hml, hown, ht⟩ (c_M_next l dC dI k h g ss sa so pl si fa li co st rq bl te op wo le wz sr tx ro  _ (by omega) (by omega) (by omega) (by omega) (by omega) (by omega) (by omega) (by omega) (by omega) (by omega) (by omega)) (cwV 0 ht (g_V k_694 k_696 k_37 k_80 k_697) rfl rfl rfl (by decide +kernel) ⟨(Nat.le_of_ble_eq_true rfl), (Nat.le_of_ble_eq_true rfl)⟩) ⟨fb_X, va_recv hK hP (ci := 4) (q0 := 0) rfl rfl, pre_X hE hS hFc hP hK hD⟩ rfl rfl hl.1 rfl (lv_room (Nat.le_of_ble_eq_true rfl)) d_M_redirect_74 ⟨(Nat.le_of_ble_eq_true rfl), (Nat.le_of_ble_eq_true rfl)⟩) hS (fun q _ h9 => hFc q h9) hFc (fun u_228 t H locs het hvm hw hB hz1 hk1 hS => ?_)
              obtain ⟨sa_220, so_221, pl_222, fa_223, op_224, si_225, le_226, tx_227⟩ := u_228
              try dsimp only at hw
              obtain ⟨p_230, p_231, p_232, p_233, p_234, p_235, p_236, p_237, p_238, p_239, p_240⟩ := hw
              obtain ⟨hP1, hK1, hD1⟩ := hB
              rw [het] at hP1
              have hP : va_P (dC, dI) cls (ME h g ss sa_220 so_221 pl_222 si_225 fa_223 li co st rq bl te op_224 wo wz sr le_226 tx_227 ro) H := hP1
              have hD : va_D A (ME h g ss sa_220 so_221 pl_222 si_225 fa_223 li co st rq bl te op_224 wo wz sr le_226 tx_227 ro) := hD1.weaken (fun _ _ _ h9 => hFc _ h9)
              have rl_241 := p_240.resolve_right (by omega)
              exact fin  (sa_220, so_221, pl_222, fa_223, op_224, si_225, le_226, tx_227, st) _ _ _ ls d_M_redirect_77 ⟨(by (try dsimp only); omega), (by (try dsimp only); omega), (by (try dsimp only); omega), (by (try dsimp only); omega), (by (try dsimp only); omega), (by (try dsimp only); omega), (by (try dsimp only); omega), (by (try dsimp only); omega), (by (try dsimp only); omega), (rRS v_0 rl_241)⟩ hP hD hS
            · refine lv_aload_n hx hb d_M_redirect_69 rfl (lv_at hl 1 rfl) ?_
              have hFc := va_free (wc := (ME h g ss sa so pl si fa li co st rq bl te op wo wz sr le tx ro)) hD hS hA [0, 1, 2, 3, 4, 5, 6] rfl
              refine va_callv (va_runV (As := []) (rest := []) ⟨hx, hb, hml, hown, ht⟩ (c_M_fail l dC dI k h g ss sa so pl si fa li co st rq bl te op wo le wz sr tx ro  _ (by omega) (by omega) (by omega) (by omega)) (cwV 0 ht (g_V k_763 k_765 k_50 k_80 k_766) rfl rfl rfl (by decide +kernel) ⟨(Nat.le_of_ble_eq_true rfl), (Nat.le_of_ble_eq_true rfl)⟩) ⟨fb_X, va_recv hK hP (ci := 4) (q0 := 0) rfl rfl, pre_X hE hS hFc hP hK hD⟩ rfl rfl hl.1 rfl (lv_room (Nat.le_of_ble_eq_true rfl)) d_M_redirect_70 ⟨(Nat.le_of_ble_eq_true rfl), (Nat.le_of_ble_eq_true rfl)⟩) hS (fun q _ h9 => hFc q h9) hFc (fun u_245 t H locs het hvm hw hB hz1 hk1 hS => ?_)
              obtain ⟨so_242, fa_243, op_244⟩ := u_245
              try dsimp only at hw
              obtain ⟨p_247, p_248, p_249, p_250, p_251, p_252⟩ := hw
              obtain ⟨hP1, hK1, hD1⟩ := hB
              rw [het] at hP1
              have hP : va_P (dC, dI) cls (ME h g ss sa so_242 pl si fa_243 li co st rq bl te op_244 wo wz sr le tx ro) H := hP1
              have hD : va_D A (ME h g ss sa so_242 pl si fa_243 li co st rq bl te op_244 wo wz sr le tx ro) := hD1.weaken (fun _ _ _ h9 => hFc _ h9)
              have rl_253 : PS ss sa so fa op sa so_242 fa_243 op_244 := pr_out (by omega) (by omega) (by omega) _ _ _ _ (by omega)
              refine lv_aload_n hx hb d_M_redirect_73 rfl (lv_at hl 1 rfl) ?_
              have hFc := va_free (wc := (ME h g ss sa so_242 pl si fa_243 li co st rq bl te op_244 wo wz sr le tx ro)) hD hS hA [0, 1, 2, 3, 4, 5, 6] rfl
              refine va_callv (va_runV (As := []) (rest := []) ⟨hx, hb, hml, hown, ht⟩ (c_M_next l dC dI k h g ss sa so_242 pl si fa_243 li co st rq bl te op_244 wo le wz sr tx ro  _ (by omega) (by omega) (by omega) (by omega) (by omega) (by omega) (by omega) (by omega) (by omega) (by omega) (by omega)) (cwV 0 ht (g_V k_694 k_696 k_37 k_80 k_697) rfl rfl rfl (by decide +kernel) ⟨(Nat.le_of_ble_eq_true rfl), (Nat.le_of_ble_eq_true rfl)⟩) ⟨fb_X, va_recv hK hP (ci := 4) (q0 := 0) rfl rfl, pre_X hE hS hFc hP hK hD⟩ rfl rfl hl.1 rfl (lv_room (Nat.le_of_ble_eq_true rfl)) d_M_redirect_74 ⟨(Nat.le_of_ble_eq_true rfl), (Nat.le_of_ble_eq_true rfl)⟩) hS (fun q _ h9 => hFc q h9) hFc (fun u_262 t H locs het hvm hw hB hz1 hk1 hS => ?_)
              obtain ⟨sa_254, so_255, pl_256, fa_257, op_258, si_259, le_260, tx_261⟩ := u_262
              try dsimp only at hw
              obtain ⟨p_264, p_265, p_266, p_267, p_268, p_269, p_270, p_271, p_272, p_273, p_274⟩ := hw
              obtain ⟨hP1, hK1, hD1⟩ := hB
              rw [het] at hP1
              have hP : va_P (dC, dI) cls (ME h g ss sa_254 so_255 pl_256 si_259 fa_257 li co st rq bl te op_258 wo wz sr le_260 tx_261 ro) H := hP1
              have hD : va_D A (ME h g ss sa_254 so_255 pl_256 si_259 fa_257 li co st rq bl te op_258 wo wz sr le_260 tx_261 ro) := hD1.weaken (fun _ _ _ h9 => hFc _ h9)
              have rl_275 := p_274.resolve_right (by omega)
              have rl_276 := rSS rl_253 rl_275
              exact fin  (sa_254, so_255, pl_256, fa_257, op_258, si_259, le_260, tx_261, st) _ _ _ ls d_M_redirect_77 ⟨(by (try dsimp only); omega), (by (try dsimp only); omega), (by (try dsimp only); omega), (by (try dsimp only); omega), (by (try dsimp only); omega), (by (try dsimp only); omega), (by (try dsimp only); omega), (by (try dsimp only); omega), (by (try dsimp only); omega), (rRS v_0 rl_276)⟩ hP hD hS
      · refine lv_iload_n hx hb d_M_redirect_25 rfl (lv_at hl 0 rfl) ?_
        refine lv_iconst (v := 1) hx hb d_M_redirect_26 (by decide) ?_
        refine lv_iadd hx hb d_M_redirect_27 ?_
        have e_277 : Int32.toInt (aq + 1) = (Int32.toInt aq) + 1 := i_add rfl (show Int32.toInt 1 = 1 by decide) (by omega) (by omega)
        refine lv_istore_n (lv' := [(1, .int (aq + 1)), (0, .ref (h 0))]) hx hb d_M_redirect_28 rfl hl (by decide) rfl (fun ls hl => ?_)
        refine lv_goto (tgt := 6) hx hb d_M_redirect_29 (by decide) ?_
        exact ih (aq + 1) sa so pl fa op si le tx st v_0 (by omega) (by omega) (by omega) (by omega) (by omega) (by omega) (by omega) (by omega) (by omega) (by omega) (by omega) (by omega) (by omega) _ _ ls hP hD hS (lv_sub hl [0, 1] rfl)
set_option maxHeartbeats 4000000 in
set_option maxRecDepth 100000 in
theorem bd_M_redirect_0 {p : Program} {l : Launch} {e : Env} {s : State} {m : MethodId} {args : Array Value} {below : List Frame} {meth : Method} {c : Code} {Q : State → Prop} {A : Nat → Prop} {dC : Nat → ClassId} {dI : Nat → Nat → Nat} {k h : Nat → Nat} {g : Nat → ClassId} {ss : Int32} {li : Int32} {co : Int32} {rq : Int32} {bl : Int32} {te : Int32} {wo : Nat → Int64} {wz : Nat → Int32} {sr : Nat → Int32} {ro : Nat → Int32} {sa0 : Int32} {so0 : Int32} {fa0 : Int32} {op0 : Int32} (hx : p.tables.exec = Jvm.exec) (hb : c.code = b_M_redirect) (hml : c.maxLocals = 2) (hown : s.vm.findClass "SieveDeskModel" = some m.cls) (ht : ∀ w ∈ TT, w.before args s = true) (hE : KE k A s s.heap) (hA : ∀ q : Nat, s.heap.size ≤ q → A q) (hK : va_K (dC, dI) cls (TM g) s)  (h_0 : 0 ≤ Int32.toInt ss) (h_1 : Int32.toInt ss ≤ 400) (fin : ∀ (u : Int32 × Int32 × Int32 × Int32 × Int32 × Int32 × (Nat → Int64) × (Nat → Int32) × Int32) (H : Heap) (locs : List Loc) (pc : Nat) (ls : Array Slot), decode b_M_redirect pc = .ok (.return_, 1) → (0 ≤ Int32.toInt u.1 ∧ Int32.toInt u.1 ≤ Int32.toInt ss ∧ 0 ≤ Int32.toInt u.2.2.1 ∧ Int32.toInt u.2.2.1 ≤ 400 ∧ -1 ≤ Int32.toInt u.2.2.2.1 ∧ Int32.toInt u.2.2.2.1 ≤ 400 ∧ (Int32.toInt u.2.2.2.1 < 0 ∨ (Int32.toInt u.2.1 = 0 ∧ Int32.toInt u.2.2.2.2.1 = 0)) ∧ 0 ≤ Int32.toInt u.2.2.2.2.2.1 ∧ Int32.toInt u.2.2.2.2.2.1 ≤ 400 ∧ PS ss sa0 so0 fa0 op0 u.1 u.2.1 u.2.2.2.1 u.2.2.2.2.1) → va_P (dC, dI) cls (ME h g ss u.1 u.2.1 u.2.2.1 u.2.2.2.2.2.1 u.2.2.2.1 li co u.2.2.2.2.2.2.2.2 rq bl te u.2.2.2.2.1 wo wz sr u.2.2.2.2.2.2.1 u.2.2.2.2.2.2.2.1 ro) H → va_D A (ME h g ss u.1 u.2.1 u.2.2.1 u.2.2.2.2.2.1 u.2.2.2.1 li co u.2.2.2.2.2.2.2.2 rq bl te u.2.2.2.2.1 wo wz sr u.2.2.2.2.2.2.1 u.2.2.2.2.2.2.2.1 ro) → va_S A s.heap H locs → W p l e ({ frames := 5, cells := 0, slots := 0, locals := 106 } : Room) s m args below meth c H locs 0 0 Q (F0 m pc ls [])) : ∀ (sa : Int32) (so : Int32) (pl : Int32) (fa : Int32) (op : Int32) (si : Int32) (le : Nat → Int64) (tx : Nat → Int32) (st : Int32), sa = sa0 → so = so0 → fa = fa0 → op = op0 → 0 ≤ Int32.toInt sa → Int32.toInt sa ≤ Int32.toInt ss → 0 ≤ Int32.toInt pl → Int32.toInt pl ≤ 400 → -1 ≤ Int32.toInt fa → Int32.toInt fa ≤ 400 → (Int32.toInt fa < 0 ∨ (Int32.toInt so = 0 ∧ Int32.toInt op = 0)) → 0 ≤ Int32.toInt si → Int32.toInt si ≤ 400 → ∀ (H : Heap) (locs : List Loc) (ls : Array Slot), va_P (dC, dI) cls (ME h g ss sa so pl si fa li co st rq bl te op wo wz sr le tx ro) H → va_D A (ME h g ss sa so pl si fa li co st rq bl te op wo wz sr le tx ro) → va_S A s.heap H locs → lv_has ls 2 [(0, .ref (h 0))] → W p l e ({ frames := 5, cells := 0, slots := 0, locals := 106 } : Room) s m args below meth c H locs 0 0 Q (F0 m 0 ls []) := by
  intro sa so pl fa op si le tx st v_0 v_1 v_2 v_3 v_4 v_5 v_6 v_7 v_8 v_9 v_10 v_11 v_12 H locs ls hP hD hS hl
  subst v_0
  subst v_1
  subst v_2
  subst v_3
  refine lv_aload_n hx hb d_M_redirect_0 rfl (lv_at hl 0 rfl) ?_
  have hFc := va_free (wc := (ME h g ss sa so pl si fa li co st rq bl te op wo wz sr le tx ro)) hD hS hA [0, 1, 2, 3, 4, 5, 6] rfl
  refine va_callv (va_runV (As := []) (rest := []) ⟨hx, hb, hml, hown, ht⟩ (c_M_string l dC dI k h g ss sa so pl si fa li co st rq bl te op wo le wz sr tx ro  _ (by omega) (by omega) (by omega) (by omega) (by omega)) (cwV 0 ht (g_V k_783 k_785 k_55 k_80 k_786) rfl rfl rfl (by decide +kernel) ⟨(Nat.le_of_ble_eq_true rfl), (Nat.le_of_ble_eq_true rfl)⟩) ⟨fb_X, va_recv hK hP (ci := 4) (q0 := 0) rfl rfl, pre_X hE hS hFc hP hK hD⟩ rfl rfl hl.1 rfl (lv_room (Nat.le_of_ble_eq_true rfl)) d_M_redirect_1 ⟨(Nat.le_of_ble_eq_true rfl), (Nat.le_of_ble_eq_true rfl)⟩) hS (fun q _ h9 => hFc q h9) hFc (fun u_282 t H locs het hvm hw hB hz1 hk1 hS => ?_)
  obtain ⟨so_278, fa_279, op_280, st_281⟩ := u_282
  try dsimp only at hw
  obtain ⟨p_284, p_285, p_286, p_287, p_288, p_289⟩ := hw
  obtain ⟨hP1, hK1, hD1⟩ := hB
  rw [het] at hP1
  have hP : va_P (dC, dI) cls (ME h g ss sa so_278 pl si fa_279 li co st_281 rq bl te op_280 wo wz sr le tx ro) H := hP1
  have hD : va_D A (ME h g ss sa so_278 pl si fa_279 li co st_281 rq bl te op_280 wo wz sr le tx ro) := hD1.weaken (fun _ _ _ h9 => hFc _ h9)
  refine lv_iconst (v := 0) hx hb d_M_redirect_4 (by decide) ?_
  refine lv_istore_n (lv' := [(1, .int 0), (0, .ref (h 0))]) hx hb d_M_redirect_5 rfl hl (by decide) rfl (fun ls hl => ?_)
  have hc_0 : Int32.toInt 0 = 0 := by decide
  exact (lp_M_redirect_6  hx hb hml hown ht hE hA hK h_0 h_1 fin _) 0 sa so_278 pl fa_279 op_280 si le tx st_281 p_287 (by omega) (by omega) (by omega) (by omega) (by omega) (by omega) (by omega) (by omega) (by omega) (by omega) (by omega) (by omega) (Nat.lt_succ_self _) _ _ ls hP hD hS (lv_sub hl [0, 1] rfl)
set_option maxHeartbeats 4000000 in
set_option maxRecDepth 100000 in
theorem c_M_redirect (l : Launch) (dC : Nat → ClassId) (dI : Nat → Nat → Nat) (k : Nat → Nat) (h : Nat → Nat) (g : Nat → ClassId) (ss : Int32) (sa : Int32) (so : Int32) (pl : Int32) (si : Int32) (fa : Int32) (li : Int32) (co : Int32) (st : Int32) (rq : Int32) (bl : Int32) (te : Int32) (op : Int32) (wo : Nat → Int64) (le : Nat → Int64) (wz : Nat → Int32) (sr : Nat → Int32) (tx : Nat → Int32) (ro : Nat → Int32)  (sz : Nat) (h_0 : 0 ≤ Int32.toInt ss) (h_1 : Int32.toInt ss ≤ 400) (v_0 : 0 ≤ Int32.toInt sa) (v_1 : Int32.toInt sa ≤ Int32.toInt ss) (v_2 : 0 ≤ Int32.toInt pl) (v_3 : Int32.toInt pl ≤ 400) (v_4 : -1 ≤ Int32.toInt fa) (v_5 : Int32.toInt fa ≤ 400) (v_6 : Int32.toInt fa < 0 ∨ (Int32.toInt so = 0 ∧ Int32.toInt op = 0)) (v_7 : 0 ≤ Int32.toInt si) (v_8 : Int32.toInt si ≤ 400) : Met l y_M_redirect (.code y_M_redirect b_M_redirect 2 none :: TT) ({ frames := 5, cells := 0, slots := 0, locals := 106 }) (va_Pc [.ref (h 0)] (PX dC dI k (TM g) (ME h g ss sa so pl si fa li co st rq bl te op wo wz sr le tx ro) sz)) (va_Qv (fun u : Int32 × Int32 × Int32 × Int32 × Int32 × Int32 × (Nat → Int64) × (Nat → Int32) × Int32 => 0 ≤ Int32.toInt u.1 ∧ Int32.toInt u.1 ≤ Int32.toInt ss ∧ 0 ≤ Int32.toInt u.2.2.1 ∧ Int32.toInt u.2.2.1 ≤ 400 ∧ -1 ≤ Int32.toInt u.2.2.2.1 ∧ Int32.toInt u.2.2.2.1 ≤ 400 ∧ (Int32.toInt u.2.2.2.1 < 0 ∨ (Int32.toInt u.2.1 = 0 ∧ Int32.toInt u.2.2.2.2.1 = 0)) ∧ 0 ≤ Int32.toInt u.2.2.2.2.2.1 ∧ Int32.toInt u.2.2.2.2.2.1 ≤ 400 ∧ PS ss sa so fa op u.1 u.2.1 u.2.2.2.1 u.2.2.2.2.1) (fun u t => BX dC dI (TM g) (va_A (ME h g ss sa so pl si fa li co st rq bl te op wo wz sr le tx ro) sz) (ME h g ss u.1 u.2.1 u.2.2.1 u.2.2.2.2.2.1 u.2.2.2.1 li co u.2.2.2.2.2.2.2.2 rq bl te u.2.2.2.2.1 wo wz sr u.2.2.2.2.2.2.1 u.2.2.2.2.2.2.2.1 ro) t) (va_A (ME h g ss sa so pl si fa li co st rq bl te op wo wz sr le tx ro) sz)) 0 0 (va_A (ME h g ss sa so pl si fa li co st rq bl te op wo wz sr le tx ro) sz) := by
  refine Met.ofW (cc := b_M_redirect) (maxL := 2) (ret := none) (by decide) rfl ?_
  intro p e s m args below meth c s₁ B hml hv
  obtain ⟨rfl, hsz, hE, hP, hK, hD0⟩ := hv
  have hx := B.exec
  have hb := B.bytes
  have hr := B.returns
  have ht : ∀ w ∈ TT, w.before _ s = true := fun w hw => atoms_spec (ws := .code y_M_redirect b_M_redirect 2 none :: TT) B.pre w (List.mem_cons_of_mem _ hw)
  have hown : s.vm.findClass "SieveDeskModel" = some m.cls := findClass_of_methodNamed B.named
  have hlocks := B.notSynchronized
  subst hsz
  have hD := hD0.self (sz := s.heap.size)
  generalize hAe : va_A (ME h g ss sa so pl si fa li co st rq bl te op wo wz sr le tx ro) s.heap.size = A at hE hD ⊢
  have hA : ∀ q : Nat, s.heap.size ≤ q → A q := fun q h9 => by rw [← hAe]; exact Or.inr h9
  have hS : va_S A s.heap s.heap [] := va_S.rf
  have hl := lv_entry ([.ref (h 0)]) (n := 2) (Nat.le_of_ble_eq_true rfl)
  rw [lg_entry_eq]
  generalize (lg_sl ([.ref (h 0)]) ++ List.replicate (2 - (lg_sl ([.ref (h 0)])).length) Slot.unset).toArray = ls at hl ⊢
  have hl : lv_has ls 2 [(0, .ref (h 0))] := hl
  exact bd_M_redirect_0  hx hb hml hown ht hE hA hK h_0 h_1 (fun u H locs pc ls hd hp hP hD hS => W.vret hx hb hr (fun t het hW => ⟨⟨u, rfl, hp, by rw [het]; exact hP, va_K.moved hW.alike hK, hD⟩, hS.F het⟩) hS.2.2 hd) sa so pl fa op si le tx st rfl rfl rfl rfl v_0 v_1 v_2 v_3 v_4 v_5 v_6 v_7 v_8 _ _ ls hP hD hS hl
set_option maxHeartbeats 4000000 in
set_option maxRecDepth 100000 in
theorem bd_M_one_0 {p : Program} {l : Launch} {e : Env} {s : State} {m : MethodId} {args : Array Value} {below : List Frame} {meth : Method} {c : Code} {Q : State → Prop} {A : Nat → Prop} {dC : Nat → ClassId} {dI : Nat → Nat → Nat} {k h : Nat → Nat} {g : Nat → ClassId} {ss : Int32} {li : Int32} {co : Int32} {rq : Int32} {bl : Int32} {te : Int32} {wo : Nat → Int64} {wz : Nat → Int32} {sr : Nat → Int32} {ro : Nat → Int32} {sa0 : Int32} {so0 : Int32} {fa0 : Int32} {op0 : Int32} (hx : p.tables.exec = Jvm.exec) (hb : c.code = b_M_one) (hml : c.maxLocals = 4) (hown : s.vm.findClass "SieveDeskModel" = some m.cls) (ht : ∀ w ∈ TT, w.before args s = true) (hE : KE k A s s.heap) (hA : ∀ q : Nat, s.heap.size ≤ q → A q) (hK : va_K (dC, dI) cls (TM g) s) {fr n : Int32} (h_0 : 0 ≤ Int32.toInt ss) (h_1 : Int32.toInt ss ≤ 400) (h_2 : 0 ≤ Int32.toInt fr) (h_3 : 0 ≤ Int32.toInt n) (h_4 : Int32.toInt fr + Int32.toInt n ≤ 55) (fin : ∀ (u : Int32 × Int32 × Int32 × Int32 × Int32 × Int32 × (Nat → Int64) × (Nat → Int32) × Int32) (H : Heap) (locs : List Loc) (pc : Nat) (ls : Array Slot), decode b_M_one pc = .ok (.return_, 1) → (0 ≤ Int32.toInt u.1 ∧ Int32.toInt u.1 ≤ Int32.toInt ss ∧ 0 ≤ Int32.toInt u.2.2.1 ∧ Int32.toInt u.2.2.1 ≤ 400 ∧ -1 ≤ Int32.toInt u.2.2.2.1 ∧ Int32.toInt u.2.2.2.1 ≤ 400 ∧ (Int32.toInt u.2.2.2.1 < 0 ∨ (Int32.toInt u.2.1 = 0 ∧ Int32.toInt u.2.2.2.2.1 = 0)) ∧ 0 ≤ Int32.toInt u.2.2.2.2.2.1 ∧ Int32.toInt u.2.2.2.2.2.1 ≤ 400 ∧ PS ss sa0 so0 fa0 op0 u.1 u.2.1 u.2.2.2.1 u.2.2.2.2.1) → va_P (dC, dI) cls (ME h g ss u.1 u.2.1 u.2.2.1 u.2.2.2.2.2.1 u.2.2.2.1 li co u.2.2.2.2.2.2.2.2 rq bl te u.2.2.2.2.1 wo wz sr u.2.2.2.2.2.2.1 u.2.2.2.2.2.2.2.1 ro) H → va_D A (ME h g ss u.1 u.2.1 u.2.2.1 u.2.2.2.2.2.1 u.2.2.2.1 li co u.2.2.2.2.2.2.2.2 rq bl te u.2.2.2.2.1 wo wz sr u.2.2.2.2.2.2.1 u.2.2.2.2.2.2.2.1 ro) → va_S A s.heap H locs → W p l e ({ frames := 5, cells := 0, slots := 0, locals := 106 } : Room) s m args below meth c H locs 0 0 Q (F0 m pc ls [])) : ∀ (sa : Int32) (so : Int32) (pl : Int32) (fa : Int32) (op : Int32) (si : Int32) (le : Nat → Int64) (tx : Nat → Int32) (st : Int32), sa = sa0 → so = so0 → fa = fa0 → op = op0 → 0 ≤ Int32.toInt sa → Int32.toInt sa ≤ Int32.toInt ss → 0 ≤ Int32.toInt pl → Int32.toInt pl ≤ 400 → -1 ≤ Int32.toInt fa → Int32.toInt fa ≤ 400 → (Int32.toInt fa < 0 ∨ (Int32.toInt so = 0 ∧ Int32.toInt op = 0)) → 0 ≤ Int32.toInt si → Int32.toInt si ≤ 400 → ∀ (H : Heap) (locs : List Loc) (ls : Array Slot), va_P (dC, dI) cls (ME h g ss sa so pl si fa li co st rq bl te op wo wz sr le tx ro) H → va_D A (ME h g ss sa so pl si fa li co st rq bl te op wo wz sr le tx ro) → va_S A s.heap H locs → lv_has ls 4 [(0, .ref (h 0)), (1, .int fr), (2, .int n)] → W p l e ({ frames := 5, cells := 0, slots := 0, locals := 106 } : Room) s m args below meth c H locs 0 0 Q (F0 m 0 ls []) := by
  intro sa so pl fa op si le tx st v_0 v_1 v_2 v_3 v_4 v_5 v_6 v_7 v_8 v_9 v_10 v_11 v_12 H locs ls hP hD hS hl
  subst v_0
  subst v_1
  subst v_2
  subst v_3
  refine lv_aload_n hx hb d_M_one_0 rfl (lv_at hl 0 rfl) ?_
  have hFc := va_free (wc := (ME h g ss sa so pl si fa li co st rq bl te op wo wz sr le tx ro)) hD hS hA [0, 1, 2, 3, 4, 5, 6] rfl
  refine va_callv (va_runV (As := []) (rest := []) ⟨hx, hb, hml, hown, ht⟩ (c_M_string l dC dI k h g ss sa so pl si fa li co st rq bl te op wo le wz sr tx ro  _ (by omega) (by omega) (by omega) (by omega) (by omega)) (cwV 0 ht (g_V k_783 k_785 k_55 k_80 k_786) rfl rfl rfl (by decide +kernel) ⟨(Nat.le_of_ble_eq_true rfl), (Nat.le_of_ble_eq_true rfl)⟩) ⟨fb_X, va_recv hK hP (ci := 4) (q0 := 0) rfl rfl, pre_X hE hS hFc hP hK hD⟩ rfl rfl hl.1 rfl (lv_room (Nat.le_of_ble_eq_true rfl)) d_M_one_1 ⟨(Nat.le_of_ble_eq_true rfl), (Nat.le_of_ble_eq_true rfl)⟩) hS (fun q _ h9 => hFc q h9) hFc (fun u_5 t H locs het hvm hw hB hz1 hk1 hS => ?_)
  obtain ⟨so_1, fa_2, op_3, st_4⟩ := u_5
  try dsimp only at hw
  obtain ⟨p_7, p_8, p_9, p_10, p_11, p_12⟩ := hw
  obtain ⟨hP1, hK1, hD1⟩ := hB
  rw [het] at hP1
  have hP : va_P (dC, dI) cls (ME h g ss sa so_1 pl si fa_2 li co st_4 rq bl te op_3 wo wz sr le tx ro) H := hP1
  have hD : va_D A (ME h g ss sa so_1 pl si fa_2 li co st_4 rq bl te op_3 wo wz sr le tx ro) := hD1.weaken (fun _ _ _ h9 => hFc _ h9)
  refine lv_aload_n hx hb d_M_one_4 rfl (lv_at hl 0 rfl) ?_
  refine lv_iload_n hx hb d_M_one_5 rfl (lv_at hl 1 rfl) ?_
  refine lv_iload_n hx hb d_M_one_6 rfl (lv_at hl 2 rfl) ?_
  have hFc := va_free (wc := (ME h g ss sa so_1 pl si fa_2 li co st_4 rq bl te op_3 wo wz sr le tx ro)) hD hS hA [0, 1, 2, 3, 4, 5, 6] rfl
  refine va_calli (va_runV (As := [.int fr, .int n]) (rest := []) ⟨hx, hb, hml, hown, ht⟩ (c_M_which l dC dI k h g ss sa so_1 pl si fa_2 li co st_4 rq bl te op_3 wo le wz sr tx ro fr n _ (by omega) (by omega) (by omega) ) (cwV 2 ht (g_V k_738 k_740 k_45 k_80 k_741) rfl rfl rfl (by decide +kernel) ⟨(Nat.le_of_ble_eq_true rfl), (Nat.le_of_ble_eq_true rfl)⟩) ⟨fb_X, va_recv hK hP (ci := 4) (q0 := 0) rfl rfl, pre_X hE hS hFc hP hK hD⟩ rfl rfl hl.1 rfl (lv_room (Nat.le_of_ble_eq_true rfl)) d_M_one_7 ⟨(Nat.le_of_ble_eq_true rfl), (Nat.le_of_ble_eq_true rfl)⟩) hS (fun q _ h9 => hFc q h9) hFc (fun r_14 u_13 t H locs het hvm hw hB hz1 hk1 hS => ?_)
  have p_15 := hw
  obtain ⟨hP1, hK1, hD1⟩ := hB
  rw [het] at hP1
  have hP : va_P (dC, dI) cls (ME h g ss sa so_1 pl si fa_2 li co st_4 rq bl te op_3 wo wz sr le tx ro) H := hP1
  have hD : va_D A (ME h g ss sa so_1 pl si fa_2 li co st_4 rq bl te op_3 wo wz sr le tx ro) := hD1.weaken (fun _ _ _ h9 => hFc _ h9)
  refine lv_istore_n (lv' := [(3, .int r_14), (0, .ref (h 0)), (1, .int fr), (2, .int n)]) hx hb d_M_one_10 rfl hl (by decide) rfl (fun ls hl => ?_)
  refine lv_iload_n hx hb d_M_one_11 rfl (lv_at hl 0 rfl) ?_
  refine lv_if_ge (tgt := 19) hx hb d_M_one_12 (by decide) (fun c_16 => ?_) (fun c_16 => ?_)
  · have dc_16 := i_le c_16 (show Int32.toInt 0 = 0 by decide) rfl
    refine lv_iload_n hx hb d_M_one_19 rfl (lv_at hl 0 rfl) ?_
    refine lv_bipush (v := 50) hx hb d_M_one_20 (by decide) ?_
    refine lv_icmp_ne (tgt := 32) hx hb d_M_one_22 (by decide) (fun c_17 => ?_) (fun c_17 => ?_)
    · have dc_17 := i_ne c_17 rfl (show Int32.toInt 50 = 50 by decide)
      refine lv_aload_n hx hb d_M_one_32 rfl (lv_at hl 1 rfl) ?_
      have hFc := va_free (wc := (ME h g ss sa so_1 pl si fa_2 li co st_4 rq bl te op_3 wo wz sr le tx ro)) hD hS hA [0, 1, 2, 3, 4, 5, 6] rfl
      refine va_callv (va_runV (As := []) (rest := []) ⟨hx, hb, hml, hown, ht⟩ (c_M_next l dC dI k h g ss sa so_1 pl si fa_2 li co st_4 rq bl te op_3 wo le wz sr tx ro  _ (by omega) (by omega) (by omega) (by omega) (by omega) (by omega) (by omega) (by omega) (by omega) (by omega) (by omega)) (cwV 0 ht (g_V k_694 k_696 k_37 k_80 k_697) rfl rfl rfl (by decide +kernel) ⟨(Nat.le_of_ble_eq_true rfl), (Nat.le_of_ble_eq_true rfl)⟩) ⟨fb_X, va_recv hK hP (ci := 4) (q0 := 0) rfl rfl, pre_X hE hS hFc hP hK hD⟩ rfl rfl hl.1 rfl (lv_room (Nat.le_of_ble_eq_true rfl)) d_M_one_33 ⟨(Nat.le_of_ble_eq_true rfl), (Nat.le_of_ble_eq_true rfl)⟩) hS (fun q _ h9 => hFc q h9) hFc (fun u_26 t H locs het hvm hw hB hz1 hk1 hS => ?_)
      obtain ⟨sa_18, so_19, pl_20, fa_21, op_22, si_23, le_24, tx_25⟩ := u_26
      try dsimp only at hw
      obtain ⟨p_28, p_29, p_30, p_31, p_32, p_33, p_34, p_35, p_36, p_37, p_38⟩ := hw
      obtain ⟨hP1, hK1, hD1⟩ := hB
      rw [het] at hP1
      have hP : va_P (dC, dI) cls (ME h g ss sa_18 so_19 pl_20 si_23 fa_21 li co st_4 rq bl te op_22 wo wz sr le_24 tx_25 ro) H := hP1
      have hD : va_D A (ME h g ss sa_18 so_19 pl_20 si_23 fa_21 li co st_4 rq bl te op_22 wo wz sr le_24 tx_25 ro) := hD1.weaken (fun _ _ _ h9 => hFc _ h9)
      have rl_39 := p_38.resolve_right (by omega)
      have rl_40 := rRS p_10 rl_39
      exact fin  (sa_18, so_19, pl_20, fa_21, op_22, si_23, le_24, tx_25, st_4) _ _ _ ls d_M_one_36 ⟨(by (try dsimp only); omega), (by (try dsimp only); omega), (by (try dsimp only); omega), (by (try dsimp only); omega), (by (try dsimp only); omega), (by (try dsimp only); omega), (by (try dsimp only); omega), (by (try dsimp only); omega), (by (try dsimp only); omega), rl_40⟩ hP hD hS
    · have dc_17 := i_eq c_17 rfl (show Int32.toInt 50 = 50 by decide)
      refine lv_aload_n hx hb d_M_one_25 rfl (lv_at hl 1 rfl) ?_
      refine lv_sipush (v := 128) hx hb d_M_one_26 (by decide) ?_
      have hc_128 : Int32.toInt 128 = 128 := by decide
      have hFc := va_free (wc := (ME h g ss sa so_1 pl si fa_2 li co st_4 rq bl te op_3 wo wz sr le tx ro)) hD hS hA [0, 1, 2, 3, 4, 5, 6] rfl
      refine va_callv (va_runV (As := [.int 128]) (rest := []) ⟨hx, hb, hml, hown, ht⟩ (c_M_needs l dC dI k h g ss sa so_1 pl si fa_2 li co st_4 rq bl te op_3 wo le wz sr tx ro 128 _ (by omega) (by omega) (by omega) (by omega) (by omega)) (cwV 1 ht (g_V k_811 k_813 k_62 k_80 k_814) rfl rfl rfl (by decide +kernel) ⟨(Nat.le_of_ble_eq_true rfl), (Nat.le_of_ble_eq_true rfl)⟩) ⟨fb_X, va_recv hK hP (ci := 4) (q0 := 0) rfl rfl, pre_X hE hS hFc hP hK hD⟩ rfl rfl hl.1 rfl (lv_room (Nat.le_of_ble_eq_true rfl)) d_M_one_29 ⟨(Nat.le_of_ble_eq_true rfl), (Nat.le_of_ble_eq_true rfl)⟩) hS (fun q _ h9 => hFc q h9) hFc (fun u_44 t H locs het hvm hw hB hz1 hk1 hS => ?_)
      obtain ⟨so_41, fa_42, op_43⟩ := u_44
      try dsimp only at hw
      obtain ⟨p_46, p_47, p_48, p_49, p_50⟩ := hw
      obtain ⟨hP1, hK1, hD1⟩ := hB
      rw [het] at hP1
      have hP : va_P (dC, dI) cls (ME h g ss sa so_41 pl si fa_42 li co st_4 rq bl te op_43 wo wz sr le tx ro) H := hP1
      have hD : va_D A (ME h g ss sa so_41 pl si fa_42 li co st_4 rq bl te op_43 wo wz sr le tx ro) := hD1.weaken (fun _ _ _ h9 => hFc _ h9)
      have rl_51 := rRR p_10 p_49
      refine lv_aload_n hx hb d_M_one_32 rfl (lv_at hl 1 rfl) ?_
      have hFc := va_free (wc := (ME h g ss sa so_41 pl si fa_42 li co st_4 rq bl te op_43 wo wz sr le tx ro)) hD hS hA [0, 1, 2, 3, 4, 5, 6] rfl
      refine va_callv (va_runV (As := []) (rest := []) ⟨hx, hb, hml, hown, ht⟩ (c_M_next l dC dI k h g ss sa so_41 pl si fa_42 li co st_4 rq bl te op_43 wo le wz sr tx ro  _ (by omega) (by omega) (by omega) (by omega) (by omega) (by omega) (by omega) (by omega) (by omega) (by omega) (by omega)) (cwV 0 ht (g_V k_694 k_696 k_37 k_80 k_697) rfl rfl rfl (by decide +kernel) ⟨(Nat.le_of_ble_eq_true rfl), (Nat.le_of_ble_eq_true rfl)⟩) ⟨fb_X, va_recv hK hP (ci := 4) (q0 := 0) rfl rfl, pre_X hE hS hFc hP hK hD⟩ rfl rfl hl.1 rfl (lv_room (Nat.le_of_ble_eq_true rfl)) d_M_one_33 ⟨(Nat.le_of_ble_eq_true rfl), (Nat.le_of_ble_eq_true rfl)⟩) hS (fun q _ h9 => hFc q h9) hFc (fun u_60 t H locs het hvm hw hB hz1 hk1 hS => ?_)
      obtain ⟨sa_52, so_53, pl_54, fa_55, op_56, si_57, le_58, tx_59⟩ := u_60
      try dsimp only at hw
      obtain ⟨p_62, p_63, p_64, p_65, p_66, p_67, p_68, p_69, p_70, p_71, p_72⟩ := hw
      obtain ⟨hP1, hK1, hD1⟩ := hB
      rw [het] at hP1
      have hP : va_P (dC, dI) cls (ME h g ss sa_52 so_53 pl_54 si_57 fa_55 li co st_4 rq bl te op_56 wo wz sr le_58 tx_59 ro) H := hP1
      have hD : va_D A (ME h g ss sa_52 so_53 pl_54 si_57 fa_55 li co st_4 rq bl te op_56 wo wz sr le_58 tx_59 ro) := hD1.weaken (fun _ _ _ h9 => hFc _ h9)
      have rl_73 := p_72.resolve_right (by omega)
      have rl_74 := rRS rl_51 rl_73
      exact fin  (sa_52, so_53, pl_54, fa_55, op_56, si_57, le_58, tx_59, st_4) _ _ _ ls d_M_one_36 ⟨(by (try dsimp only); omega), (by (try dsimp only); omega), (by (try dsimp only); omega), (by (try dsimp only); omega), (by (try dsimp only); omega), (by (try dsimp only); omega), (by (try dsimp only); omega), (by (try dsimp only); omega), (by (try dsimp only); omega), rl_74⟩ hP hD hS
  · have dc_16 := i_nle c_16 (show Int32.toInt 0 = 0 by decide) rfl
    refine lv_aload_n hx hb d_M_one_15 rfl (lv_at hl 1 rfl) ?_
    have hFc := va_free (wc := (ME h g ss sa so_1 pl si fa_2 li co st_4 rq bl te op_3 wo wz sr le tx ro)) hD hS hA [0, 1, 2, 3, 4, 5, 6] rfl
    refine va_callv (va_runV (As := []) (rest := []) ⟨hx, hb, hml, hown, ht⟩ (c_M_fail l dC dI k h g ss sa so_1 pl si fa_2 li co st_4 rq bl te op_3 wo le wz sr tx ro  _ (by omega) (by omega) (by omega) (by omega)) (cwV 0 ht (g_V k_763 k_765 k_50 k_80 k_766) rfl rfl rfl (by decide +kernel) ⟨(Nat.le_of_ble_eq_true rfl), (Nat.le_of_ble_eq_true rfl)⟩) ⟨fb_X, va_recv hK hP (ci := 4) (q0 := 0) rfl rfl, pre_X hE hS hFc hP hK hD⟩ rfl rfl hl.1 rfl (lv_room (Nat.le_of_ble_eq_true rfl)) d_M_one_16 ⟨(Nat.le_of_ble_eq_true rfl), (Nat.le_of_ble_eq_true rfl)⟩) hS (fun q _ h9 => hFc q h9) hFc (fun u_78 t H locs het hvm hw hB hz1 hk1 hS => ?_)
    obtain ⟨so_75, fa_76, op_77⟩ := u_78
    try dsimp only at hw
    obtain ⟨p_80, p_81, p_82, p_83, p_84, p_85⟩ := hw
    obtain ⟨hP1, hK1, hD1⟩ := hB
    rw [het] at hP1
    have hP : va_P (dC, dI) cls (ME h g ss sa so_75 pl si fa_76 li co st_4 rq bl te op_77 wo wz sr le tx ro) H := hP1
    have hD : va_D A (ME h g ss sa so_75 pl si fa_76 li co st_4 rq bl te op_77 wo wz sr le tx ro) := hD1.weaken (fun _ _ _ h9 => hFc _ h9)
    have rl_86 : PS ss sa so_1 fa_2 op_3 sa so_75 fa_76 op_77 := pr_out (by omega) (by omega) (by omega) _ _ _ _ (by omega)
    have rl_87 := rRS p_10 rl_86
    refine lv_iload_n hx hb d_M_one_19 rfl (lv_at hl 0 rfl) ?_
    refine lv_bipush (v := 50) hx hb d_M_one_20 (by decide) ?_
    refine lv_icmp_ne (tgt := 32) hx hb d_M_one_22 (by decide) (fun c_88 => ?_) (fun c_88 => ?_)
    · have dc_88 := i_ne c_88 rfl (show Int32.toInt 50 = 50 by decide)
      refine lv_aload_n hx hb d_M_one_32 rfl (lv_at hl 1 rfl) ?_
      have hFc := va_free (wc := (ME h g ss sa so_75 pl si fa_76 li co st_4 rq bl te op_77 wo wz sr le tx ro)) hD hS hA [0, 1, 2, 3, 4, 5, 6] rfl
      refine va_callv (va_runV (As := []) (rest := []) ⟨hx, hb, hml, hown, ht⟩ (c_M_next l dC dI k h g ss sa so_75 pl si fa_76 li co st_4 rq bl te op_77 wo le wz sr tx ro  _ (by omega) (by omega) (by omega) (by omega) (by omega) (by omega) (by omega) (by omega) (by omega) (by omega) (by omega)) (cwV 0 ht (g_V k_694 k_696 k_37 k_80 k_697) rfl rfl rfl (by decide +kernel) ⟨(Nat.le_of_ble_eq_true rfl), (Nat.le_of_ble_eq_true rfl)⟩) ⟨fb_X, va_recv hK hP (ci := 4) (q0 := 0) rfl rfl, pre_X hE hS hFc hP hK hD⟩ rfl rfl hl.1 rfl (lv_room (Nat.le_of_ble_eq_true rfl)) d_M_one_33 ⟨(Nat.le_of_ble_eq_true rfl), (Nat.le_of_ble_eq_true rfl)⟩) hS (fun q _ h9 => hFc q h9) hFc (fun u_97 t H locs het hvm hw hB hz1 hk1 hS => ?_)
      obtain ⟨sa_89, so_90, pl_91, fa_92, op_93, si_94, le_95, tx_96⟩ := u_97
      try dsimp only at hw
      obtain ⟨p_99, p_100, p_101, p_102, p_103, p_104, p_105, p_106, p_107, p_108, p_109⟩ := hw
      obtain ⟨hP1, hK1, hD1⟩ := hB
      rw [het] at hP1
      have hP : va_P (dC, dI) cls (ME h g ss sa_89 so_90 pl_91 si_94 fa_92 li co st_4 rq bl te op_93 wo wz sr le_95 tx_96 ro) H := hP1
      have hD : va_D A (ME h g ss sa_89 so_90 pl_91 si_94 fa_92 li co st_4 rq bl te op_93 wo wz sr le_95 tx_96 ro) := hD1.weaken (fun _ _ _ h9 => hFc _ h9)
      have rl_110 := p_109.resolve_right (by omega)
      have rl_111 := rSS rl_87 rl_110
      exact fin  (sa_89, so_90, pl_91, fa_92, op_93, si_94, le_95, tx_96, st_4) _ _ _ ls d_M_one_36 ⟨(by (try dsimp only); omega), (by (try dsimp only); omega), (by (try dsimp only); omega), (by (try dsimp only); omega), (by (try dsimp only); omega), (by (try dsimp only); omega), (by (try dsimp only); omega), (by (try dsimp only); omega), (by (try dsimp only); omega), rl_111⟩ hP hD hS
    · have dc_88 := i_eq c_88 rfl (show Int32.toInt 50 = 50 by decide)
      refine lv_aload_n hx hb d_M_one_25 rfl (lv_at hl 1 rfl) ?_
      refine lv_sipush (v := 128) hx hb d_M_one_26 (by decide) ?_
      have hc_128 : Int32.toInt 128 = 128 := by decide
      have hFc := va_free (wc := (ME h g ss sa so_75 pl si fa_76 li co st_4 rq bl te op_77 wo wz sr le tx ro)) hD hS hA [0, 1, 2, 3, 4, 5, 6] rfl
      refine va_callv (va_runV (As := [.int 128]) (rest := []) ⟨hx, hb, hml, hown, ht⟩ (c_M_needs l dC dI k h g ss sa so_75 pl si fa_76 li co st_4 rq bl te op_77 wo le wz sr tx ro 128 _ (by omega) (by omega) (by omega) (by omega) (by omega)) (cwV 1 ht (g_V k_811 k_813 k_62 k_80 k_814) rfl rfl rfl (by decide +kernel) ⟨(Nat.le_of_ble_eq_true rfl), (Nat.le_of_ble_eq_true rfl)⟩) ⟨fb_X, va_recv hK hP (ci := 4) (q0 := 0) rfl rfl, pre_X hE hS hFc hP hK hD⟩ rfl rfl hl.1 rfl (lv_room (Nat.le_of_ble_eq_true rfl)) d_M_one_29 ⟨(Nat.le_of_ble_eq_true rfl), (Nat.le_of_ble_eq_true rfl)⟩) hS (fun q _ h9 => hFc q h9) hFc (fun u_115 t H locs het hvm hw hB hz1 hk1 hS => ?_)
      obtain ⟨so_112, fa_113, op_114⟩ := u_115
      try dsimp only at hw
      obtain ⟨p_117, p_118, p_119, p_120, p_121⟩ := hw
      obtain ⟨hP1, hK1, hD1⟩ := hB
      rw [het] at hP1
      have hP : va_P (dC, dI) cls (ME h g ss sa so_112 pl si fa_113 li co st_4 rq bl te op_114 wo wz sr le tx ro) H := hP1
      have hD : va_D A (ME h g ss sa so_112 pl si fa_113 li co st_4 rq bl te op_114 wo wz sr le tx ro) := hD1.weaken (fun _ _ _ h9 => hFc _ h9)
      have rl_122 := rSR rl_87 p_120
      refine lv_aload_n hx hb d_M_one_32 rfl (lv_at hl 1 rfl) ?_
      have hFc := va_free (wc := (ME h g ss sa so_112 pl si fa_113 li co st_4 rq bl te op_114 wo wz sr le tx ro)) hD hS hA [0, 1, 2, 3, 4, 5, 6] rfl
      refine va_callv (va_runV (As := []) (rest := []) ⟨hx, hb, hml, hown, ht⟩ (c_M_next l dC dI k h g ss sa so_112 pl si fa_113 li co st_4 rq bl te op_114 wo le wz sr tx ro  _ (by omega) (by omega) (by omega) (by omega) (by omega) (by omega) (by omega) (by omega) (by omega) (by omega) (by omega)) (cwV 0 ht (g_V k_694 k_696 k_37 k_80 k_697) rfl rfl rfl (by decide +kernel) ⟨(Nat.le_of_ble_eq_true rfl), (Nat.le_of_ble_eq_true rfl)⟩) ⟨fb_X, va_recv hK hP (ci := 4) (q0 := 0) rfl rfl, pre_X hE hS hFc hP hK hD⟩ rfl rfl hl.1 rfl (lv_room (Nat.le_of_ble_eq_true rfl)) d_M_one_33 ⟨(Nat.le_of_ble_eq_true rfl), (Nat.le_of_ble_eq_true rfl)⟩) hS (fun q _ h9 => hFc q h9) hFc (fun u_131 t H locs het hvm hw hB hz1 hk1 hS => ?_)
      obtain ⟨sa_123, so_124, pl_125, fa_126, op_127, si_128, le_129, tx_130⟩ := u_131
      try dsimp only at hw
      obtain ⟨p_133, p_134, p_135, p_136, p_137, p_138, p_139, p_140, p_141, p_142, p_143⟩ := hw
      obtain ⟨hP1, hK1, hD1⟩ := hB
      rw [het] at hP1
      have hP : va_P (dC, dI) cls (ME h g ss sa_123 so_124 pl_125 si_128 fa_126 li co st_4 rq bl te op_127 wo wz sr le_129 tx_130 ro) H := hP1
      have hD : va_D A (ME h g ss sa_123 so_124 pl_125 si_128 fa_126 li co st_4 rq bl te op_127 wo wz sr le_129 tx_130 ro) := hD1.weaken (fun _ _ _ h9 => hFc _ h9)
      have rl_144 := p_143.resolve_right (by omega)
      have rl_145 := rSS rl_122 rl_144
      exact fin  (sa_123, so_124, pl_125, fa_126, op_127, si_128, le_129, tx_130, st_4) _ _ _ ls d_M_one_36 ⟨(by (try dsimp only); omega), (by (try dsimp only); omega), (by (try dsimp only); omega), (by (try dsimp only); omega), (by (try dsimp only); omega), (by (try dsimp only); omega), (by (try dsimp only); omega), (by (try dsimp only); omega), (by (try dsimp only); omega), rl_145⟩ hP hD hS
set_option maxHeartbeats 4000000 in
set_option maxRecDepth 100000 in
theorem c_M_one (l : Launch) (dC : Nat → ClassId) (dI : Nat → Nat → Nat) (k : Nat → Nat) (h : Nat → Nat) (g : Nat → ClassId) (ss : Int32) (sa : Int32) (so : Int32) (pl : Int32) (si : Int32) (fa : Int32) (li : Int32) (co : Int32) (st : Int32) (rq : Int32) (bl : Int32) (te : Int32) (op : Int32) (wo : Nat → Int64) (le : Nat → Int64) (wz : Nat → Int32) (sr : Nat → Int32) (tx : Nat → Int32) (ro : Nat → Int32) (fr n : Int32) (sz : Nat) (h_0 : 0 ≤ Int32.toInt ss) (h_1 : Int32.toInt ss ≤ 400) (h_2 : 0 ≤ Int32.toInt fr) (h_3 : 0 ≤ Int32.toInt n) (h_4 : Int32.toInt fr + Int32.toInt n ≤ 55) (v_0 : 0 ≤ Int32.toInt sa) (v_1 : Int32.toInt sa ≤ Int32.toInt ss) (v_2 : 0 ≤ Int32.toInt pl) (v_3 : Int32.toInt pl ≤ 400) (v_4 : -1 ≤ Int32.toInt fa) (v_5 : Int32.toInt fa ≤ 400) (v_6 : Int32.toInt fa < 0 ∨ (Int32.toInt so = 0 ∧ Int32.toInt op = 0)) (v_7 : 0 ≤ Int32.toInt si) (v_8 : Int32.toInt si ≤ 400) : Met l y_M_one (.code y_M_one b_M_one 4 none :: TT) ({ frames := 5, cells := 0, slots := 0, locals := 106 }) (va_Pc [.ref (h 0), .int fr, .int n] (PX dC dI k (TM g) (ME h g ss sa so pl si fa li co st rq bl te op wo wz sr le tx ro) sz)) (va_Qv (fun u : Int32 × Int32 × Int32 × Int32 × Int32 × Int32 × (Nat → Int64) × (Nat → Int32) × Int32 => 0 ≤ Int32.toInt u.1 ∧ Int32.toInt u.1 ≤ Int32.toInt ss ∧ 0 ≤ Int32.toInt u.2.2.1 ∧ Int32.toInt u.2.2.1 ≤ 400 ∧ -1 ≤ Int32.toInt u.2.2.2.1 ∧ Int32.toInt u.2.2.2.1 ≤ 400 ∧ (Int32.toInt u.2.2.2.1 < 0 ∨ (Int32.toInt u.2.1 = 0 ∧ Int32.toInt u.2.2.2.2.1 = 0)) ∧ 0 ≤ Int32.toInt u.2.2.2.2.2.1 ∧ Int32.toInt u.2.2.2.2.2.1 ≤ 400 ∧ PS ss sa so fa op u.1 u.2.1 u.2.2.2.1 u.2.2.2.2.1) (fun u t => BX dC dI (TM g) (va_A (ME h g ss sa so pl si fa li co st rq bl te op wo wz sr le tx ro) sz) (ME h g ss u.1 u.2.1 u.2.2.1 u.2.2.2.2.2.1 u.2.2.2.1 li co u.2.2.2.2.2.2.2.2 rq bl te u.2.2.2.2.1 wo wz sr u.2.2.2.2.2.2.1 u.2.2.2.2.2.2.2.1 ro) t) (va_A (ME h g ss sa so pl si fa li co st rq bl te op wo wz sr le tx ro) sz)) 0 0 (va_A (ME h g ss sa so pl si fa li co st rq bl te op wo wz sr le tx ro) sz) := by
  refine Met.ofW (cc := b_M_one) (maxL := 4) (ret := none) (by decide) rfl ?_
  intro p e s m args below meth c s₁ B hml hv
  obtain ⟨rfl, hsz, hE, hP, hK, hD0⟩ := hv
  have hx := B.exec
  have hb := B.bytes
  have hr := B.returns
  have ht : ∀ w ∈ TT, w.before _ s = true := fun w hw => atoms_spec (ws := .code y_M_one b_M_one 4 none :: TT) B.pre w (List.mem_cons_of_mem _ hw)
  have hown : s.vm.findClass "SieveDeskModel" = some m.cls := findClass_of_methodNamed B.named
  have hlocks := B.notSynchronized
  subst hsz
  have hD := hD0.self (sz := s.heap.size)
  generalize hAe : va_A (ME h g ss sa so pl si fa li co st rq bl te op wo wz sr le tx ro) s.heap.size = A at hE hD ⊢
  have hA : ∀ q : Nat, s.heap.size ≤ q → A q := fun q h9 => by rw [← hAe]; exact Or.inr h9
  have hS : va_S A s.heap s.heap [] := va_S.rf
  have hl := lv_entry ([.ref (h 0), .int fr, .int n]) (n := 4) (Nat.le_of_ble_eq_true rfl)
  rw [lg_entry_eq]
  generalize (lg_sl ([.ref (h 0), .int fr, .int n]) ++ List.replicate (4 - (lg_sl ([.ref (h 0), .int fr, .int n])).length) Slot.unset).toArray = ls at hl ⊢
  have hl : lv_has ls 4 [(0, .ref (h 0)), (1, .int fr), (2, .int n)] := hl
  exact bd_M_one_0 (fr := fr) (n := n) hx hb hml hown ht hE hA hK h_0 h_1 h_2 h_3 h_4 (fun u H locs pc ls hd hp hP hD hS => W.vret hx hb hr (fun t het hW => ⟨⟨u, rfl, hp, by rw [het]; exact hP, va_K.moved hW.alike hK, hD⟩, hS.F het⟩) hS.2.2 hd) sa so pl fa op si le tx st rfl rfl rfl rfl v_0 v_1 v_2 v_3 v_4 v_5 v_6 v_7 v_8 _ _ ls hP hD hS hl

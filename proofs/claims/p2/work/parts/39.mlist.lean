set_option maxHeartbeats 4000000 in
set_option maxRecDepth 100000 in
theorem lp_M_list_20 {p : Program} {l : Launch} {e : Env} {s : State} {m : MethodId} {args : Array Value} {below : List Frame} {meth : Method} {c : Code} {Q : State → Prop} {A : Nat → Prop} {dC : Nat → ClassId} {dI : Nat → Nat → Nat} {k h : Nat → Nat} {g : Nat → ClassId} {ss : Int32} {li : Int32} {co : Int32} {bl : Int32} {te : Int32} {wo : Nat → Int64} {wz : Nat → Int32} {sr : Nat → Int32} {ro : Nat → Int32} {sa0 : Int32} {so0 : Int32} {fa0 : Int32} {op0 : Int32} (hx : p.tables.exec = Jvm.exec) (hb : c.code = b_M_list) (hml : c.maxLocals = 5) (hown : s.vm.findClass "SieveDeskModel" = some m.cls) (ht : ∀ w ∈ TT, w.before args s = true) (hE : KE k A s s.heap) (hA : ∀ q : Nat, s.heap.size ≤ q → A q) (hK : va_K (dC, dI) cls (TM g) s) {rb : Int32} (h_0 : 0 ≤ Int32.toInt ss) (h_1 : Int32.toInt ss ≤ 400) (fin : ∀ (u : Int32 × Int32 × Int32 × Int32 × Int32 × Int32 × (Nat → Int64) × (Nat → Int32) × Int32 × Int32) (H : Heap) (locs : List Loc) (pc : Nat) (ls : Array Slot), decode b_M_list pc = .ok (.return_, 1) → (0 ≤ Int32.toInt u.1 ∧ Int32.toInt u.1 ≤ Int32.toInt ss ∧ 0 ≤ Int32.toInt u.2.2.1 ∧ Int32.toInt u.2.2.1 ≤ 400 ∧ -1 ≤ Int32.toInt u.2.2.2.1 ∧ Int32.toInt u.2.2.2.1 ≤ 400 ∧ (Int32.toInt u.2.2.2.1 < 0 ∨ (Int32.toInt u.2.1 = 0 ∧ Int32.toInt u.2.2.2.2.1 = 0)) ∧ 0 ≤ Int32.toInt u.2.2.2.2.2.1 ∧ Int32.toInt u.2.2.2.2.2.1 ≤ 400 ∧ PS ss sa0 so0 fa0 op0 u.1 u.2.1 u.2.2.2.1 u.2.2.2.2.1) → va_P (dC, dI) cls (ME h g ss u.1 u.2.1 u.2.2.1 u.2.2.2.2.2.1 u.2.2.2.1 li co u.2.2.2.2.2.2.2.2.1 u.2.2.2.2.2.2.2.2.2 bl te u.2.2.2.2.1 wo wz sr u.2.2.2.2.2.2.1 u.2.2.2.2.2.2.2.1 ro) H → va_D A (ME h g ss u.1 u.2.1 u.2.2.1 u.2.2.2.2.2.1 u.2.2.2.1 li co u.2.2.2.2.2.2.2.2.1 u.2.2.2.2.2.2.2.2.2 bl te u.2.2.2.2.1 wo wz sr u.2.2.2.2.2.2.1 u.2.2.2.2.2.2.2.1 ro) → va_S A s.heap H locs → W p l e ({ frames := 6, cells := 0, slots := 0, locals := 127 } : Room) s m args below meth c H locs 0 0 Q (F0 m pc ls [])) : ∀ (nn : Nat), ∀ (my : Int32) (n : Int32) (mr : Int32) (sa : Int32) (so : Int32) (pl : Int32) (fa : Int32) (op : Int32) (si : Int32) (le : Nat → Int64) (tx : Nat → Int32) (st : Int32) (rq : Int32), 0 ≤ Int32.toInt mr → Int32.toInt mr ≤ 1 → (PS ss sa0 so0 fa0 op0 sa so fa op ∨ (PR ss sa0 so0 fa0 op0 sa so fa op ∧ Int32.toInt mr = 1)) → 0 ≤ Int32.toInt sa → Int32.toInt sa ≤ Int32.toInt ss → 0 ≤ Int32.toInt pl → Int32.toInt pl ≤ 400 → -1 ≤ Int32.toInt fa → Int32.toInt fa ≤ 400 → (Int32.toInt fa < 0 ∨ (Int32.toInt so = 0 ∧ Int32.toInt op = 0)) → 0 ≤ Int32.toInt si → Int32.toInt si ≤ 400 → YY ss sa so fa < nn → ∀ (H : Heap) (locs : List Loc) (ls : Array Slot), va_P (dC, dI) cls (ME h g ss sa so pl si fa li co st rq bl te op wo wz sr le tx ro) H → va_D A (ME h g ss sa so pl si fa li co st rq bl te op wo wz sr le tx ro) → va_S A s.heap H locs → lv_has ls 5 [(2, .int my), (3, .int n), (4, .int mr), (0, .ref (h 0)), (1, .int rb)] → W p l e ({ frames := 6, cells := 0, slots := 0, locals := 127 } : Room) s m args below meth c H locs 0 0 Q (F0 m 20 ls []) := by
  intro nn
  induction nn with
  | zero =>
    intro _ _ _ _ _ _ _ _ _ _ _ _ _ _ _ _ _ _ _ _ _ _ _ _ _ hm
    exact absurd hm (Nat.not_lt_zero _)
  | succ nn ih =>
    intro my n mr sa so pl fa op si le tx st rq v_0 v_1 v_2 v_3 v_4 v_5 v_6 v_7 v_8 v_9 v_10 v_11 hm H locs ls hP hD hS hl
    have hbase : PR ss sa0 so0 fa0 op0 sa so fa op := by
      rcases v_2 with q9 | ⟨q9, _⟩
      · exact q9.pr
      · exact q9
    refine lv_iload hx hb d_M_list_20 (lv_at hl 2 rfl) ?_
    refine lv_if_eq (tgt := 106) hx hb d_M_list_22 (by decide) (fun c_1 => ?_) (fun c_1 => ?_)
    · have dc_1 := i_eq c_1 rfl (show Int32.toInt 0 = 0 by decide)
      have rl_2 : PS ss sa0 so0 fa0 op0 sa so fa op := by
        rcases v_2 with q9 | ⟨q9, q8⟩
        · exact q9
        · first | exact q9.fault (by omega) | (exfalso; omega)
      refine lv_iload_n hx hb d_M_list_106 rfl (lv_at hl 0 rfl) ?_
      refine lv_if_eq (tgt := 116) hx hb d_M_list_107 (by decide) (fun c_3 => ?_) (fun c_3 => ?_)
      · exact fin  (sa, so, pl, fa, op, si, le, tx, st, rq) _ _ _ ls d_M_list_116 ⟨(by (try dsimp only); omega), (by (try dsimp only); omega), (by (try dsimp only); omega), (by (try dsimp only); omega), (by (try dsimp only); omega), (by (try dsimp only); omega), (by (try dsimp only); omega), (by (try dsimp only); omega), (by (try dsimp only); omega), rl_2⟩ hP hD hS
      · refine lv_aload_n hx hb d_M_list_110 rfl (lv_at hl 3 rfl) ?_
        refine lv_bipush (v := 93) hx hb d_M_list_111 (by decide) ?_
        have hc_93 : Int32.toInt 93 = 93 := by decide
        have hFc := va_free (wc := (ME h g ss sa so pl si fa li co st rq bl te op wo wz sr le tx ro)) hD hS hA [0, 1, 2, 3, 4, 5, 6] rfl
        refine va_callv (va_runV (As := [.int 93]) (rest := []) ⟨hx, hb, hml, hown, ht⟩ (c_M_take l dC dI k h g ss sa so pl si fa li co st rq bl te op wo le wz sr tx ro 93 _ (by omega) (by omega) (by omega) (by omega) (by omega) (by omega) (by omega) (by omega) (by omega) (by omega) (by omega) (by omega) (by omega)) (cwV 1 ht (g_V k_791 k_793 k_57 k_80 k_794) rfl rfl rfl (by decide +kernel) ⟨(Nat.le_of_ble_eq_true rfl), (Nat.le_of_ble_eq_true rfl)⟩) ⟨fb_X, va_recv hK hP (ci := 4) (q0 := 0) rfl rfl, pre_X hE hS hFc hP hK hD⟩ rfl rfl hl.1 rfl (lv_room (Nat.le_of_ble_eq_true rfl)) d_M_list_113 ⟨(Nat.le_of_ble_eq_true rfl), (Nat.le_of_ble_eq_true rfl)⟩) hS (fun q _ h9 => hFc q h9) hFc (fun u_12 t H locs het hvm hw hB hz1 hk1 hS => ?_)
        obtain ⟨sa_4, so_5, pl_6, fa_7, op_8, si_9, le_10, tx_11⟩ := u_12
        try dsimp only at hw
        obtain ⟨p_14, p_15, p_16, p_17, p_18, p_19, p_20, p_21, p_22, p_23, p_24⟩ := hw
        obtain ⟨hP1, hK1, hD1⟩ := hB
        rw [het] at hP1
        have hP : va_P (dC, dI) cls (ME h g ss sa_4 so_5 pl_6 si_9 fa_7 li co st rq bl te op_8 wo wz sr le_10 tx_11 ro) H := hP1
        have hD : va_D A (ME h g ss sa_4 so_5 pl_6 si_9 fa_7 li co st rq bl te op_8 wo wz sr le_10 tx_11 ro) := hD1.weaken (fun _ _ _ h9 => hFc _ h9)
        exact fin  (sa_4, so_5, pl_6, fa_7, op_8, si_9, le_10, tx_11, st, rq) _ _ _ ls d_M_list_116 ⟨(by (try dsimp only); omega), (by (try dsimp only); omega), (by (try dsimp only); omega), (by (try dsimp only); omega), (by (try dsimp only); omega), (by (try dsimp only); omega), (by (try dsimp only); omega), (by (try dsimp only); omega), (by (try dsimp only); omega), (rSS rl_2 p_23)⟩ hP hD hS
    · have dc_1 := i_ne c_1 rfl (show Int32.toInt 0 = 0 by decide)
      refine lv_aload_n hx hb d_M_list_25 rfl (lv_at hl 3 rfl) ?_
      refine va_get (D := (dC, dI)) (ci := 4) (v := .int fa) (C := "SieveDeskModel") (T := F_M) (N := 19) hx hb ht i_M hown hK hP 0 rfl rfl 10 (by decide) (ht _ k_637) (fun _ h9 => h9) rfl d_M_list_26 ?_
      refine lv_if_ge (tgt := 106) hx hb d_M_list_29 (by decide) (fun c_25 => ?_) (fun c_25 => ?_)
      · have dc_25 := i_le c_25 (show Int32.toInt 0 = 0 by decide) rfl
        have rl_26 : PS ss sa0 so0 fa0 op0 sa so fa op := by
          rcases v_2 with q9 | ⟨q9, q8⟩
          · exact q9
          · first | exact q9.fault (by omega) | (exfalso; omega)
        refine lv_iload_n hx hb d_M_list_106 rfl (lv_at hl 0 rfl) ?_
        refine lv_if_eq (tgt := 116) hx hb d_M_list_107 (by decide) (fun c_27 => ?_) (fun c_27 => ?_)
        · exact fin  (sa, so, pl, fa, op, si, le, tx, st, rq) _ _ _ ls d_M_list_116 ⟨(by (try dsimp only); omega), (by (try dsimp only); omega), (by (try dsimp only); omega), (by (try dsimp only); omega), (by (try dsimp only); omega), (by (try dsimp only); omega), (by (try dsimp only); omega), (by (try dsimp only); omega), (by (try dsimp only); omega), rl_26⟩ hP hD hS
        · refine lv_aload_n hx hb d_M_list_110 rfl (lv_at hl 3 rfl) ?_
          refine lv_bipush (v := 93) hx hb d_M_list_111 (by decide) ?_
          have hc_93 : Int32.toInt 93 = 93 := by decide
          have hFc := va_free (wc := (ME h g ss sa so pl si fa li co st rq bl te op wo wz sr le tx ro)) hD hS hA [0, 1, 2, 3, 4, 5, 6] rfl
          refine va_callv (va_runV (As := [.int 93]) (rest := []) ⟨hx, hb, hml, hown, ht⟩ (c_M_take l dC dI k h g ss sa so pl si fa li co st rq bl te op wo le wz sr tx ro 93 _ (by omega) (by omega) (by omega) (by omega) (by omega) (by omega) (by omega) (by omega) (by omega) (by omega) (by omega) (by omega) (by omega)) (cwV 1 ht (g_V k_791 k_793 k_57 k_80 k_794) rfl rfl rfl (by decide +kernel) ⟨(Nat.le_of_ble_eq_true rfl), (Nat.le_of_ble_eq_true rfl)⟩) ⟨fb_X, va_recv hK hP (ci := 4) (q0 := 0) rfl rfl, pre_X hE hS hFc hP hK hD⟩ rfl rfl hl.1 rfl (lv_room (Nat.le_of_ble_eq_true rfl)) d_M_list_113 ⟨(Nat.le_of_ble_eq_true rfl), (Nat.le_of_ble_eq_true rfl)⟩) hS (fun q _ h9 => hFc q h9) hFc (fun u_36 t H locs het hvm hw hB hz1 hk1 hS => ?_)
          obtain ⟨sa_28, so_29, pl_30, fa_31, op_32, si_33, le_34, tx_35⟩ := u_36
          try dsimp only at hw
          obtain ⟨p_38, p_39, p_40, p_41, p_42, p_43, p_44, p_45, p_46, p_47, p_48⟩ := hw
          obtain ⟨hP1, hK1, hD1⟩ := hB
          rw [het] at hP1
          have hP : va_P (dC, dI) cls (ME h g ss sa_28 so_29 pl_30 si_33 fa_31 li co st rq bl te op_32 wo wz sr le_34 tx_35 ro) H := hP1
          have hD : va_D A (ME h g ss sa_28 so_29 pl_30 si_33 fa_31 li co st rq bl te op_32 wo wz sr le_34 tx_35 ro) := hD1.weaken (fun _ _ _ h9 => hFc _ h9)
          exact fin  (sa_28, so_29, pl_30, fa_31, op_32, si_33, le_34, tx_35, st, rq) _ _ _ ls d_M_list_116 ⟨(by (try dsimp only); omega), (by (try dsimp only); omega), (by (try dsimp only); omega), (by (try dsimp only); omega), (by (try dsimp only); omega), (by (try dsimp only); omega), (by (try dsimp only); omega), (by (try dsimp only); omega), (by (try dsimp only); omega), (rSS rl_26 p_47)⟩ hP hD hS
      · have dc_25 := i_nle c_25 (show Int32.toInt 0 = 0 by decide) rfl
        refine lv_iload_n hx hb d_M_list_32 rfl (lv_at hl 0 rfl) ?_
        refine lv_if_eq (tgt := 54) hx hb d_M_list_33 (by decide) (fun c_49 => ?_) (fun c_49 => ?_)
        · refine lv_aload_n hx hb d_M_list_54 rfl (lv_at hl 3 rfl) ?_
          have hFc := va_free (wc := (ME h g ss sa so pl si fa li co st rq bl te op wo wz sr le tx ro)) hD hS hA [0, 1, 2, 3, 4, 5, 6] rfl
          refine va_callv (va_runV (As := []) (rest := []) ⟨hx, hb, hml, hown, ht⟩ (c_M_string l dC dI k h g ss sa so pl si fa li co st rq bl te op wo le wz sr tx ro  _ (by omega) (by omega) (by omega) (by omega) (by omega)) (cwV 0 ht (g_V k_783 k_785 k_55 k_80 k_786) rfl rfl rfl (by decide +kernel) ⟨(Nat.le_of_ble_eq_true rfl), (Nat.le_of_ble_eq_true rfl)⟩) ⟨fb_X, va_recv hK hP (ci := 4) (q0 := 0) rfl rfl, pre_X hE hS hFc hP hK hD⟩ rfl rfl hl.1 rfl (lv_room (Nat.le_of_ble_eq_true rfl)) d_M_list_55 ⟨(Nat.le_of_ble_eq_true rfl), (Nat.le_of_ble_eq_true rfl)⟩) hS (fun q _ h9 => hFc q h9) hFc (fun u_54 t H locs het hvm hw hB hz1 hk1 hS => ?_)
          obtain ⟨so_50, fa_51, op_52, st_53⟩ := u_54
          try dsimp only at hw
          obtain ⟨p_56, p_57, p_58, p_59, p_60, p_61⟩ := hw
          obtain ⟨hP1, hK1, hD1⟩ := hB
          rw [het] at hP1
          have hP : va_P (dC, dI) cls (ME h g ss sa so_50 pl si fa_51 li co st_53 rq bl te op_52 wo wz sr le tx ro) H := hP1
          have hD : va_D A (ME h g ss sa so_50 pl si fa_51 li co st_53 rq bl te op_52 wo wz sr le tx ro) := hD1.weaken (fun _ _ _ h9 => hFc _ h9)
          refine lv_iload_n hx hb d_M_list_58 rfl (lv_at hl 4 rfl) ?_
          refine lv_if_eq (tgt := 66) hx hb d_M_list_59 (by decide) (fun c_62 => ?_) (fun c_62 => ?_)
          · refine lv_aload_n hx hb d_M_list_66 rfl (lv_at hl 3 rfl) ?_
            have hFc := va_free (wc := (ME h g ss sa so_50 pl si fa_51 li co st_53 rq bl te op_52 wo wz sr le tx ro)) hD hS hA [0, 1, 2, 3, 4, 5, 6] rfl
            refine va_callv (va_runV (As := []) (rest := []) ⟨hx, hb, hml, hown, ht⟩ (c_M_next l dC dI k h g ss sa so_50 pl si fa_51 li co st_53 rq bl te op_52 wo le wz sr tx ro  _ (by omega) (by omega) (by omega) (by omega) (by omega) (by omega) (by omega) (by omega) (by omega) (by omega) (by omega)) (cwV 0 ht (g_V k_694 k_696 k_37 k_80 k_697) rfl rfl rfl (by decide +kernel) ⟨(Nat.le_of_ble_eq_true rfl), (Nat.le_of_ble_eq_true rfl)⟩) ⟨fb_X, va_recv hK hP (ci := 4) (q0 := 0) rfl rfl, pre_X hE hS hFc hP hK hD⟩ rfl rfl hl.1 rfl (lv_room (Nat.le_of_ble_eq_true rfl)) d_M_list_67 ⟨(Nat.le_of_ble_eq_true rfl), (Nat.le_of_ble_eq_true rfl)⟩) hS (fun q _ h9 => hFc q h9) hFc (fun u_71 t H locs het hvm hw hB hz1 hk1 hS => ?_)
            obtain ⟨sa_63, so_64, pl_65, fa_66, op_67, si_68, le_69, tx_70⟩ := u_71
            try dsimp only at hw
            obtain ⟨p_73, p_74, p_75, p_76, p_77, p_78, p_79, p_80, p_81, p_82, p_83⟩ := hw
            obtain ⟨hP1, hK1, hD1⟩ := hB
            rw [het] at hP1
            have hP : va_P (dC, dI) cls (ME h g ss sa_63 so_64 pl_65 si_68 fa_66 li co st_53 rq bl te op_67 wo wz sr le_69 tx_70 ro) H := hP1
            have hD : va_D A (ME h g ss sa_63 so_64 pl_65 si_68 fa_66 li co st_53 rq bl te op_67 wo wz sr le_69 tx_70 ro) := hD1.weaken (fun _ _ _ h9 => hFc _ h9)
            have rl_84 := p_83.resolve_right (by omega)
            have rl_85 := rRS p_59 rl_84
            refine lv_iload_n hx hb d_M_list_70 rfl (lv_at hl 1 rfl) ?_
            refine lv_iconst (v := 1) hx hb d_M_list_71 (by decide) ?_
            refine lv_iadd hx hb d_M_list_72 ?_
            refine lv_istore_n (lv' := [(3, .int (n + 1)), (2, .int my), (4, .int mr), (0, .ref (h 0)), (1, .int rb)]) hx hb d_M_list_73 rfl hl (by decide) rfl (fun ls hl => ?_)
            refine lv_iload_n hx hb d_M_list_74 rfl (lv_at hl 1 rfl) ?_
            refine lv_if_eq (tgt := 91) hx hb d_M_list_75 (by decide) (fun c_86 => ?_) (fun c_86 => ?_)
            · refine lv_iconst (v := 0) hx hb d_M_list_91 (by decide) ?_
              refine lv_istore (lv' := [(4, .int 0), (3, .int (n + 1)), (2, .int my), (0, .ref (h 0)), (1, .int rb)]) hx hb d_M_list_92 hl (by decide) rfl (fun ls hl => ?_)
              refine lv_iload hx hb d_M_list_94 (lv_at hl 0 rfl) ?_
              refine lv_if_eq (tgt := 20) hx hb d_M_list_96 (by decide) (fun _ => ?_) (fun cn => absurd (by decide) cn)
              have hc_0 : Int32.toInt 0 = 0 := by decide
              obtain ⟨ym_87a, ym_87b⟩ := PS.yd rl_85 (by omega)
              exact ih my (n + 1) 0 sa_63 so_64 pl_65 fa_66 op_67 si_68 le_69 tx_70 st_53 rq (by omega) (by omega) (Or.inl (rRS hbase rl_85)) (by omega) (by omega) (by omega) (by omega) (by omega) (by omega) (by omega) (by omega) (by omega) (by omega) _ _ ls hP hD hS (lv_sub hl [2, 1, 0, 3, 4] rfl)
            · refine lv_aload_n hx hb d_M_list_78 rfl (lv_at hl 3 rfl) ?_
              refine lv_bipush (v := 44) hx hb d_M_list_79 (by decide) ?_
              have hc_44 : Int32.toInt 44 = 44 := by decide
              have hFc := va_free (wc := (ME h g ss sa_63 so_64 pl_65 si_68 fa_66 li co st_53 rq bl te op_67 wo wz sr le_69 tx_70 ro)) hD hS hA [0, 1, 2, 3, 4, 5, 6] rfl
              refine va_calli (va_runV (As := [.int 44]) (rest := []) ⟨hx, hb, hml, hown, ht⟩ (c_M_isSign l dC dI k h g ss sa_63 so_64 pl_65 si_68 fa_66 li co st_53 rq bl te op_67 wo le_69 wz sr tx_70 ro 44 _ (by omega) (by omega) (by omega) (by omega) ) (cwV 1 ht (g_V k_779 k_781 k_54 k_80 k_782) rfl rfl rfl (by decide +kernel) ⟨(Nat.le_of_ble_eq_true rfl), (Nat.le_of_ble_eq_true rfl)⟩) ⟨fb_X, va_recv hK hP (ci := 4) (q0 := 0) rfl rfl, pre_X hE hS hFc hP hK hD⟩ rfl rfl hl.1 rfl (lv_room (Nat.le_of_ble_eq_true rfl)) d_M_list_81 ⟨(Nat.le_of_ble_eq_true rfl), (Nat.le_of_ble_eq_true rfl)⟩) hS (fun q _ h9 => hFc q h9) hFc (fun r_89 u_88 t H locs het hvm hw hB hz1 hk1 hS => ?_)
              obtain ⟨p_90, p_91⟩ := hw
              obtain ⟨hP1, hK1, hD1⟩ := hB
              rw [het] at hP1
              have hP : va_P (dC, dI) cls (ME h g ss sa_63 so_64 pl_65 si_68 fa_66 li co st_53 rq bl te op_67 wo wz sr le_69 tx_70 ro) H := hP1
              have hD : va_D A (ME h g ss sa_63 so_64 pl_65 si_68 fa_66 li co st_53 rq bl te op_67 wo wz sr le_69 tx_70 ro) := hD1.weaken (fun _ _ _ h9 => hFc _ h9)
              refine lv_if_eq (tgt := 91) hx hb d_M_list_84 (by decide) (fun c_92 => ?_) (fun c_92 => ?_)
              · have dc_92 := i_eq c_92 rfl (show Int32.toInt 0 = 0 by decide)
                refine lv_iconst (v := 0) hx hb d_M_list_91 (by decide) ?_
                refine lv_istore (lv' := [(4, .int 0), (3, .int (n + 1)), (2, .int my), (0, .ref (h 0)), (1, .int rb)]) hx hb d_M_list_92 hl (by decide) rfl (fun ls hl => ?_)
                refine lv_iload hx hb d_M_list_94 (lv_at hl 0 rfl) ?_
                refine lv_if_eq (tgt := 20) hx hb d_M_list_96 (by decide) (fun _ => ?_) (fun cn => absurd (by decide) cn)
                have hc_0 : Int32.toInt 0 = 0 := by decide
                obtain ⟨ym_93a, ym_93b⟩ := PS.yd rl_85 (by omega)
                exact ih my (n + 1) 0 sa_63 so_64 pl_65 fa_66 op_67 si_68 le_69 tx_70 st_53 rq (by omega) (by omega) (Or.inl (rRS hbase rl_85)) (by omega) (by omega) (by omega) (by omega) (by omega) (by omega) (by omega) (by omega) (by omega) (by omega) _ _ ls hP hD hS (lv_sub hl [2, 1, 0, 3, 4] rfl)
              · have dc_92 := i_ne c_92 rfl (show Int32.toInt 0 = 0 by decide)
                refine lv_iconst (v := 1) hx hb d_M_list_87 (by decide) ?_
                refine lv_goto (tgt := 92) hx hb d_M_list_88 (by decide) ?_
                refine lv_istore (lv' := [(4, .int 1), (3, .int (n + 1)), (2, .int my), (0, .ref (h 0)), (1, .int rb)]) hx hb d_M_list_92 hl (by decide) rfl (fun ls hl => ?_)
                refine lv_iload hx hb d_M_list_94 (lv_at hl 0 rfl) ?_
                refine lv_if_eq (tgt := 20) hx hb d_M_list_96 (by decide) (fun cn => absurd cn (by decide)) (fun _ => ?_)
                refine lv_aload_n hx hb d_M_list_99 rfl (lv_at hl 3 rfl) ?_
                have hFc := va_free (wc := (ME h g ss sa_63 so_64 pl_65 si_68 fa_66 li co st_53 rq bl te op_67 wo wz sr le_69 tx_70 ro)) hD hS hA [0, 1, 2, 3, 4, 5, 6] rfl
                refine va_callv (va_runV (As := []) (rest := []) ⟨hx, hb, hml, hown, ht⟩ (c_M_next l dC dI k h g ss sa_63 so_64 pl_65 si_68 fa_66 li co st_53 rq bl te op_67 wo le_69 wz sr tx_70 ro  _ (by omega) (by omega) (by omega) (by omega) (by omega) (by omega) (by omega) (by omega) (by omega) (by omega) (by omega)) (cwV 0 ht (g_V k_694 k_696 k_37 k_80 k_697) rfl rfl rfl (by decide +kernel) ⟨(Nat.le_of_ble_eq_true rfl), (Nat.le_of_ble_eq_true rfl)⟩) ⟨fb_X, va_recv hK hP (ci := 4) (q0 := 0) rfl rfl, pre_X hE hS hFc hP hK hD⟩ rfl rfl hl.1 rfl (lv_room (Nat.le_of_ble_eq_true rfl)) d_M_list_100 ⟨(Nat.le_of_ble_eq_true rfl), (Nat.le_of_ble_eq_true rfl)⟩) hS (fun q _ h9 => hFc q h9) hFc (fun u_102 t H locs het hvm hw hB hz1 hk1 hS => ?_)
                obtain ⟨sa_94, so_95, pl_96, fa_97, op_98, si_99, le_100, tx_101⟩ := u_102
                try dsimp only at hw
                obtain ⟨p_104, p_105, p_106, p_107, p_108, p_109, p_110, p_111, p_112, p_113, p_114⟩ := hw
                obtain ⟨hP1, hK1, hD1⟩ := hB
                rw [het] at hP1
                have hP : va_P (dC, dI) cls (ME h g ss sa_94 so_95 pl_96 si_99 fa_97 li co st_53 rq bl te op_98 wo wz sr le_100 tx_101 ro) H := hP1
                have hD : va_D A (ME h g ss sa_94 so_95 pl_96 si_99 fa_97 li co st_53 rq bl te op_98 wo wz sr le_100 tx_101 ro) := hD1.weaken (fun _ _ _ h9 => hFc _ h9)
                have rl_115 := p_114.resolve_right (by omega)
                have rl_116 := rSS rl_85 rl_115
                refine lv_goto (tgt := 20) hx hb d_M_list_103 (by decide) ?_
                have hc_1 : Int32.toInt 1 = 1 := by decide
                obtain ⟨ym_117a, ym_117b⟩ := PS.yd rl_116 (by omega)
                exact ih my (n + 1) 1 sa_94 so_95 pl_96 fa_97 op_98 si_99 le_100 tx_101 st_53 rq (by omega) (by omega) (Or.inl (rRS hbase rl_116)) (by omega) (by omega) (by omega) (by omega) (by omega) (by omega) (by omega) (by omega) (by omega) (by omega) _ _ ls hP hD hS (lv_sub hl [2, 1, 0, 3, 4] rfl)
          · refine lv_aload_n hx hb d_M_list_62 rfl (lv_at hl 3 rfl) ?_
            have hFc := va_free (wc := (ME h g ss sa so_50 pl si fa_51 li co st_53 rq bl te op_52 wo wz sr le tx ro)) hD hS hA [0, 1, 2, 3, 4, 5, 6] rfl
            refine va_callv (va_runV (As := []) (rest := []) ⟨hx, hb, hml, hown, ht⟩ (c_M_require l dC dI k h g ss sa so_50 pl si fa_51 li co st_53 rq bl te op_52 wo le wz sr tx ro  _ (by omega) (by omega) (by omega) (by omega) (by omega)) (cwV 0 ht (g_V k_787 k_789 k_56 k_80 k_790) rfl rfl rfl (by decide +kernel) ⟨(Nat.le_of_ble_eq_true rfl), (Nat.le_of_ble_eq_true rfl)⟩) ⟨fb_X, va_recv hK hP (ci := 4) (q0 := 0) rfl rfl, pre_X hE hS hFc hP hK hD⟩ rfl rfl hl.1 rfl (lv_room (Nat.le_of_ble_eq_true rfl)) d_M_list_63 ⟨(Nat.le_of_ble_eq_true rfl), (Nat.le_of_ble_eq_true rfl)⟩) hS (fun q _ h9 => hFc q h9) hFc (fun u_122 t H locs het hvm hw hB hz1 hk1 hS => ?_)
            obtain ⟨so_118, fa_119, op_120, rq_121⟩ := u_122
            try dsimp only at hw
            obtain ⟨p_124, p_125, p_126, p_127, p_128⟩ := hw
            obtain ⟨hP1, hK1, hD1⟩ := hB
            rw [het] at hP1
            have hP : va_P (dC, dI) cls (ME h g ss sa so_118 pl si fa_119 li co st_53 rq_121 bl te op_120 wo wz sr le tx ro) H := hP1
            have hD : va_D A (ME h g ss sa so_118 pl si fa_119 li co st_53 rq_121 bl te op_120 wo wz sr le tx ro) := hD1.weaken (fun _ _ _ h9 => hFc _ h9)
            have rl_129 := rRR p_59 p_127
            refine lv_aload_n hx hb d_M_list_66 rfl (lv_at hl 3 rfl) ?_
            have hFc := va_free (wc := (ME h g ss sa so_118 pl si fa_119 li co st_53 rq_121 bl te op_120 wo wz sr le tx ro)) hD hS hA [0, 1, 2, 3, 4, 5, 6] rfl
            refine va_callv (va_runV (As := []) (rest := []) ⟨hx, hb, hml, hown, ht⟩ (c_M_next l dC dI k h g ss sa so_118 pl si fa_119 li co st_53 rq_121 bl te op_120 wo le wz sr tx ro  _ (by omega) (by omega) (by omega) (by omega) (by omega) (by omega) (by omega) (by omega) (by omega) (by omega) (by omega)) (cwV 0 ht (g_V k_694 k_696 k_37 k_80 k_697) rfl rfl rfl (by decide +kernel) ⟨(Nat.le_of_ble_eq_true rfl), (Nat.le_of_ble_eq_true rfl)⟩) ⟨fb_X, va_recv hK hP (ci := 4) (q0 := 0) rfl rfl, pre_X hE hS hFc hP hK hD⟩ rfl rfl hl.1 rfl (lv_room (Nat.le_of_ble_eq_true rfl)) d_M_list_67 ⟨(Nat.le_of_ble_eq_true rfl), (Nat.le_of_ble_eq_true rfl)⟩) hS (fun q _ h9 => hFc q h9) hFc (fun u_138 t H locs het hvm hw hB hz1 hk1 hS => ?_)
            obtain ⟨sa_130, so_131, pl_132, fa_133, op_134, si_135, le_136, tx_137⟩ := u_138
            try dsimp only at hw
            obtain ⟨p_140, p_141, p_142, p_143, p_144, p_145, p_146, p_147, p_148, p_149, p_150⟩ := hw
            obtain ⟨hP1, hK1, hD1⟩ := hB
            rw [het] at hP1
            have hP : va_P (dC, dI) cls (ME h g ss sa_130 so_131 pl_132 si_135 fa_133 li co st_53 rq_121 bl te op_134 wo wz sr le_136 tx_137 ro) H := hP1
            have hD : va_D A (ME h g ss sa_130 so_131 pl_132 si_135 fa_133 li co st_53 rq_121 bl te op_134 wo wz sr le_136 tx_137 ro) := hD1.weaken (fun _ _ _ h9 => hFc _ h9)
            have rl_151 := p_150.resolve_right (by omega)
            have rl_152 := rRS rl_129 rl_151
            refine lv_iload_n hx hb d_M_list_70 rfl (lv_at hl 1 rfl) ?_
            refine lv_iconst (v := 1) hx hb d_M_list_71 (by decide) ?_
            refine lv_iadd hx hb d_M_list_72 ?_
            refine lv_istore_n (lv' := [(3, .int (n + 1)), (2, .int my), (4, .int mr), (0, .ref (h 0)), (1, .int rb)]) hx hb d_M_list_73 rfl hl (by decide) rfl (fun ls hl => ?_)
            refine lv_iload_n hx hb d_M_list_74 rfl (lv_at hl 1 rfl) ?_
            refine lv_if_eq (tgt := 91) hx hb d_M_list_75 (by decide) (fun c_153 => ?_) (fun c_153 => ?_)
            · refine lv_iconst (v := 0) hx hb d_M_list_91 (by decide) ?_
              refine lv_istore (lv' := [(4, .int 0), (3, .int (n + 1)), (2, .int my), (0, .ref (h 0)), (1, .int rb)]) hx hb d_M_list_92 hl (by decide) rfl (fun ls hl => ?_)
              refine lv_iload hx hb d_M_list_94 (lv_at hl 0 rfl) ?_
              refine lv_if_eq (tgt := 20) hx hb d_M_list_96 (by decide) (fun _ => ?_) (fun cn => absurd (by decide) cn)
              have hc_0 : Int32.toInt 0 = 0 := by decide
              obtain ⟨ym_154a, ym_154b⟩ := PS.yd rl_152 (by omega)
              exact ih my (n + 1) 0 sa_130 so_131 pl_132 fa_133 op_134 si_135 le_136 tx_137 st_53 rq_121 (by omega) (by omega) (Or.inl (rRS hbase rl_152)) (by omega) (by omega) (by omega) (by omega) (by omega) (by omega) (by omega) (by omega) (by omega) (by omega) _ _ ls hP hD hS (lv_sub hl [2, 1, 0, 3, 4] rfl)
            · refine lv_aload_n hx hb d_M_list_78 rfl (lv_at hl 3 rfl) ?_
              refine lv_bipush (v := 44) hx hb d_M_list_79 (by decide) ?_
              have hc_44 : Int32.toInt 44 = 44 := by decide
              have hFc := va_free (wc := (ME h g ss sa_130 so_131 pl_132 si_135 fa_133 li co st_53 rq_121 bl te op_134 wo wz sr le_136 tx_137 ro)) hD hS hA [0, 1, 2, 3, 4, 5, 6] rfl
              refine va_calli (va_runV (As := [.int 44]) (rest := []) ⟨hx, hb, hml, hown, ht⟩ (c_M_isSign l dC dI k h g ss sa_130 so_131 pl_132 si_135 fa_133 li co st_53 rq_121 bl te op_134 wo le_136 wz sr tx_137 ro 44 _ (by omega) (by omega) (by omega) (by omega) ) (cwV 1 ht (g_V k_779 k_781 k_54 k_80 k_782) rfl rfl rfl (by decide +kernel) ⟨(Nat.le_of_ble_eq_true rfl), (Nat.le_of_ble_eq_true rfl)⟩) ⟨fb_X, va_recv hK hP (ci := 4) (q0 := 0) rfl rfl, pre_X hE hS hFc hP hK hD⟩ rfl rfl hl.1 rfl (lv_room (Nat.le_of_ble_eq_true rfl)) d_M_list_81 ⟨(Nat.le_of_ble_eq_true rfl), (Nat.le_of_ble_eq_true rfl)⟩) hS (fun q _ h9 => hFc q h9) hFc (fun r_156 u_155 t H locs het hvm hw hB hz1 hk1 hS => ?_)
              obtain ⟨p_157, p_158⟩ := hw
              obtain ⟨hP1, hK1, hD1⟩ := hB
              rw [het] at hP1
              have hP : va_P (dC, dI) cls (ME h g ss sa_130 so_131 pl_132 si_135 fa_133 li co st_53 rq_121 bl te op_134 wo wz sr le_136 tx_137 ro) H := hP1
              have hD : va_D A (ME h g ss sa_130 so_131 pl_132 si_135 fa_133 li co st_53 rq_121 bl te op_134 wo wz sr le_136 tx_137 ro) := hD1.weaken (fun _ _ _ h9 => hFc _ h9)
              refine lv_if_eq (tgt := 91) hx hb d_M_list_84 (by decide) (fun c_159 => ?_) (fun c_159 => ?_)
              · have dc_159 := i_eq c_159 rfl (show Int32.toInt 0 = 0 by decide)
                refine lv_iconst (v := 0) hx hb d_M_list_91 (by decide) ?_
                refine lv_istore (lv' := [(4, .int 0), (3, .int (n + 1)), (2, .int my), (0, .ref (h 0)), (1, .int rb)]) hx hb d_M_list_92 hl (by decide) rfl (fun ls hl => ?_)
                refine lv_iload hx hb d_M_list_94 (lv_at hl 0 rfl) ?_
                refine lv_if_eq (tgt := 20) hx hb d_M_list_96 (by decide) (fun _ => ?_) (fun cn => absurd (by decide) cn)
                have hc_0 : Int32.toInt 0 = 0 := by decide
                obtain ⟨ym_160a, ym_160b⟩ := PS.yd rl_152 (by omega)
                exact ih my (n + 1) 0 sa_130 so_131 pl_132 fa_133 op_134 si_135 le_136 tx_137 st_53 rq_121 (by omega) (by omega) (Or.inl (rRS hbase rl_152)) (by omega) (by omega) (by omega) (by omega) (by omega) (by omega) (by omega) (by omega) (by omega) (by omega) _ _ ls hP hD hS (lv_sub hl [2, 1, 0, 3, 4] rfl)
              · have dc_159 := i_ne c_159 rfl (show Int32.toInt 0 = 0 by decide)
                refine lv_iconst (v := 1) hx hb d_M_list_87 (by decide) ?_
                refine lv_goto (tgt := 92) hx hb d_M_list_88 (by decide) ?_
                refine lv_istore (lv' := [(4, .int 1), (3, .int (n + 1)), (2, .int my), (0, .ref (h 0)), (1, .int rb)]) hx hb d_M_list_92 hl (by decide) rfl (fun ls hl => ?_)
                refine lv_iload hx hb d_M_list_94 (lv_at hl 0 rfl) ?_
                refine lv_if_eq (tgt := 20) hx hb d_M_list_96 (by decide) (fun cn => absurd cn (by decide)) (fun _ => ?_)
                refine lv_aload_n hx hb d_M_list_99 rfl (lv_at hl 3 rfl) ?_
                have hFc := va_free (wc := (ME h g ss sa_130 so_131 pl_132 si_135 fa_133 li co st_53 rq_121 bl te op_134 wo wz sr le_136 tx_137 ro)) hD hS hA [0, 1, 2, 3, 4, 5, 6] rfl
                refine va_callv (va_runV (As := []) (rest := []) ⟨hx, hb, hml, hown, ht⟩ (c_M_next l dC dI k h g ss sa_130 so_131 pl_132 si_135 fa_133 li co st_53 rq_121 bl te op_134 wo le_136 wz sr tx_137 ro  _ (by omega) (by omega) (by omega) (by omega) (by omega) (by omega) (by omega) (by omega) (by omega) (by omega) (by omega)) (cwV 0 ht (g_V k_694 k_696 k_37 k_80 k_697) rfl rfl rfl (by decide +kernel) ⟨(Nat.le_of_ble_eq_true rfl), (Nat.le_of_ble_eq_true rfl)⟩) ⟨fb_X, va_recv hK hP (ci := 4) (q0 := 0) rfl rfl, pre_X hE hS hFc hP hK hD⟩ rfl rfl hl.1 rfl (lv_room (Nat.le_of_ble_eq_true rfl)) d_M_list_100 ⟨(Nat.le_of_ble_eq_true rfl), (Nat.le_of_ble_eq_true rfl)⟩) hS (fun q _ h9 => hFc q h9) hFc (fun u_169 t H locs het hvm hw hB hz1 hk1 hS => ?_)
                obtain ⟨sa_161, so_162, pl_163, fa_164, op_165, si_166, le_167, tx_168⟩ := u_169
                try dsimp only at hw
                obtain ⟨p_171, p_172, p_173, p_174, p_175, p_176, p_177, p_178, p_179, p_180, p_181⟩ := hw
                obtain ⟨hP1, hK1, hD1⟩ := hB
                rw [het] at hP1
                have hP : va_P (dC, dI) cls (ME h g ss sa_161 so_162 pl_163 si_166 fa_164 li co st_53 rq_121 bl te op_165 wo wz sr le_167 tx_168 ro) H := hP1
                have hD : va_D A (ME h g ss sa_161 so_162 pl_163 si_166 fa_164 li co st_53 rq_121 bl te op_165 wo wz sr le_167 tx_168 ro) := hD1.weaken (fun _ _ _ h9 => hFc _ h9)
                have rl_182 := p_181.resolve_right (by omega)
                have rl_183 := rSS rl_152 rl_182
                refine lv_goto (tgt := 20) hx hb d_M_list_103 (by decide) ?_
                have hc_1 : Int32.toInt 1 = 1 := by decide
                obtain ⟨ym_184a, ym_184b⟩ := PS.yd rl_183 (by omega)
                exact ih my (n + 1) 1 sa_161 so_162 pl_163 fa_164 op_165 si_166 le_167 tx_168 st_53 rq_121 (by omega) (by omega) (Or.inl (rRS hbase rl_183)) (by omega) (by omega) (by omega) (by omega) (by omega) (by omega) (by omega) (by omega) (by omega) (by omega) _ _ ls hP hD hS (lv_sub hl [2, 1, 0, 3, 4] rfl)
        · refine lv_aload_n hx hb d_M_list_36 rfl (lv_at hl 3 rfl) ?_
          refine lv_iconst (v := 4) hx hb d_M_list_37 (by decide) ?_
          have hc_4 : Int32.toInt 4 = 4 := by decide
          have hFc := va_free (wc := (ME h g ss sa so pl si fa li co st rq bl te op wo wz sr le tx ro)) hD hS hA [0, 1, 2, 3, 4, 5, 6] rfl
          refine va_calli (va_runV (As := [.int 4]) (rest := []) ⟨hx, hb, hml, hown, ht⟩ (c_M_is l dC dI k h g ss sa so pl si fa li co st rq bl te op wo le wz sr tx ro 4 _ (by omega) (by omega) ) (cwV 1 ht (g_V k_771 k_773 k_52 k_80 k_774) rfl rfl rfl (by decide +kernel) ⟨(Nat.le_of_ble_eq_true rfl), (Nat.le_of_ble_eq_true rfl)⟩) ⟨fb_X, va_recv hK hP (ci := 4) (q0 := 0) rfl rfl, pre_X hE hS hFc hP hK hD⟩ rfl rfl hl.1 rfl (lv_room (Nat.le_of_ble_eq_true rfl)) d_M_list_38 ⟨(Nat.le_of_ble_eq_true rfl), (Nat.le_of_ble_eq_true rfl)⟩) hS (fun q _ h9 => hFc q h9) hFc (fun r_186 u_185 t H locs het hvm hw hB hz1 hk1 hS => ?_)
          obtain ⟨p_187, p_188⟩ := hw
          obtain ⟨hP1, hK1, hD1⟩ := hB
          rw [het] at hP1
          have hP : va_P (dC, dI) cls (ME h g ss sa so pl si fa li co st rq bl te op wo wz sr le tx ro) H := hP1
          have hD : va_D A (ME h g ss sa so pl si fa li co st rq bl te op wo wz sr le tx ro) := hD1.weaken (fun _ _ _ h9 => hFc _ h9)
          refine lv_if_eq (tgt := 54) hx hb d_M_list_41 (by decide) (fun c_189 => ?_) (fun c_189 => ?_)
          · have dc_189 := i_eq c_189 rfl (show Int32.toInt 0 = 0 by decide)
            refine lv_aload_n hx hb d_M_list_54 rfl (lv_at hl 3 rfl) ?_
            have hFc := va_free (wc := (ME h g ss sa so pl si fa li co st rq bl te op wo wz sr le tx ro)) hD hS hA [0, 1, 2, 3, 4, 5, 6] rfl
            refine va_callv (va_runV (As := []) (rest := []) ⟨hx, hb, hml, hown, ht⟩ (c_M_string l dC dI k h g ss sa so pl si fa li co st rq bl te op wo le wz sr tx ro  _ (by omega) (by omega) (by omega) (by omega) (by omega)) (cwV 0 ht (g_V k_783 k_785 k_55 k_80 k_786) rfl rfl rfl (by decide +kernel) ⟨(Nat.le_of_ble_eq_true rfl), (Nat.le_of_ble_eq_true rfl)⟩) ⟨fb_X, va_recv hK hP (ci := 4) (q0 := 0) rfl rfl, pre_X hE hS hFc hP hK hD⟩ rfl rfl hl.1 rfl (lv_room (Nat.le_of_ble_eq_true rfl)) d_M_list_55 ⟨(Nat.le_of_ble_eq_true rfl), (Nat.le_of_ble_eq_true rfl)⟩) hS (fun q _ h9 => hFc q h9) hFc (fun u_194 t H locs het hvm hw hB hz1 hk1 hS => ?_)
            obtain ⟨so_190, fa_191, op_192, st_193⟩ := u_194
            try dsimp only at hw
            obtain ⟨p_196, p_197, p_198, p_199, p_200, p_201⟩ := hw
            obtain ⟨hP1, hK1, hD1⟩ := hB
            rw [het] at hP1
            have hP : va_P (dC, dI) cls (ME h g ss sa so_190 pl si fa_191 li co st_193 rq bl te op_192 wo wz sr le tx ro) H := hP1
            have hD : va_D A (ME h g ss sa so_190 pl si fa_191 li co st_193 rq bl te op_192 wo wz sr le tx ro) := hD1.weaken (fun _ _ _ h9 => hFc _ h9)
            refine lv_iload_n hx hb d_M_list_58 rfl (lv_at hl 4 rfl) ?_
            refine lv_if_eq (tgt := 66) hx hb d_M_list_59 (by decide) (fun c_202 => ?_) (fun c_202 => ?_)
            · refine lv_aload_n hx hb d_M_list_66 rfl (lv_at hl 3 rfl) ?_
              have hFc := va_free (wc := (ME h g ss sa so_190 pl si fa_191 li co st_193 rq bl te op_192 wo wz sr le tx ro)) hD hS hA [0, 1, 2, 3, 4, 5, 6] rfl
              refine va_callv (va_runV (As := []) (rest := []) ⟨hx, hb, hml, hown, ht⟩ (c_M_next l dC dI k h g ss sa so_190 pl si fa_191 li co st_193 rq bl te op_192 wo le wz sr tx ro  _ (by omega) (by omega) (by omega) (by omega) (by omega) (by omega) (by omega) (by omega) (by omega) (by omega) (by omega)) (cwV 0 ht (g_V k_694 k_696 k_37 k_80 k_697) rfl rfl rfl (by decide +kernel) ⟨(Nat.le_of_ble_eq_true rfl), (Nat.le_of_ble_eq_true rfl)⟩) ⟨fb_X, va_recv hK hP (ci := 4) (q0 := 0) rfl rfl, pre_X hE hS hFc hP hK hD⟩ rfl rfl hl.1 rfl (lv_room (Nat.le_of_ble_eq_true rfl)) d_M_list_67 ⟨(Nat.le_of_ble_eq_true rfl), (Nat.le_of_ble_eq_true rfl)⟩) hS (fun q _ h9 => hFc q h9) hFc (fun u_211 t H locs het hvm hw hB hz1 hk1 hS => ?_)
              obtain ⟨sa_203, so_204, pl_205, fa_206, op_207, si_208, le_209, tx_210⟩ := u_211
              try dsimp only at hw
              obtain ⟨p_213, p_214, p_215, p_216, p_217, p_218, p_219, p_220, p_221, p_222, p_223⟩ := hw
              obtain ⟨hP1, hK1, hD1⟩ := hB
              rw [het] at hP1
              have hP : va_P (dC, dI) cls (ME h g ss sa_203 so_204 pl_205 si_208 fa_206 li co st_193 rq bl te op_207 wo wz sr le_209 tx_210 ro) H := hP1
              have hD : va_D A (ME h g ss sa_203 so_204 pl_205 si_208 fa_206 li co st_193 rq bl te op_207 wo wz sr le_209 tx_210 ro) := hD1.weaken (fun _ _ _ h9 => hFc _ h9)
              have rl_224 := p_223.resolve_right (by omega)
              have rl_225 := rRS p_199 rl_224
              refine lv_iload_n hx hb d_M_list_70 rfl (lv_at hl 1 rfl) ?_
              refine lv_iconst (v := 1) hx hb d_M_list_71 (by decide) ?_
              refine lv_iadd hx hb d_M_list_72 ?_
              refine lv_istore_n (lv' := [(3, .int (n + 1)), (2, .int my), (4, .int mr), (0, .ref (h 0)), (1, .int rb)]) hx hb d_M_list_73 rfl hl (by decide) rfl (fun ls hl => ?_)
              refine lv_iload_n hx hb d_M_list_74 rfl (lv_at hl 1 rfl) ?_
              refine lv_if_eq (tgt := 91) hx hb d_M_list_75 (by decide) (fun c_226 => ?_) (fun c_226 => ?_)
              · refine lv_iconst (v := 0) hx hb d_M_list_91 (by decide) ?_
                refine lv_istore (lv' := [(4, .int 0), (3, .int (n + 1)), (2, .int my), (0, .ref (h 0)), (1, .int rb)]) hx hb d_M_list_92 hl (by decide) rfl (fun ls hl => ?_)
                refine lv_iload hx hb d_M_list_94 (lv_at hl 0 rfl) ?_
                refine lv_if_eq (tgt := 20) hx hb d_M_list_96 (by decide) (fun _ => ?_) (fun cn => absurd (by decide) cn)
                have hc_0 : Int32.toInt 0 = 0 := by decide
                obtain ⟨ym_227a, ym_227b⟩ := PS.yd rl_225 (by omega)
                exact ih my (n + 1) 0 sa_203 so_204 pl_205 fa_206 op_207 si_208 le_209 tx_210 st_193 rq (by omega) (by omega) (Or.inl (rRS hbase rl_225)) (by omega) (by omega) (by omega) (by omega) (by omega) (by omega) (by omega) (by omega) (by omega) (by omega) _ _ ls hP hD hS (lv_sub hl [2, 1, 0, 3, 4] rfl)
              · refine lv_aload_n hx hb d_M_list_78 rfl (lv_at hl 3 rfl) ?_
                refine lv_bipush (v := 44) hx hb d_M_list_79 (by decide) ?_
                have hc_44 : Int32.toInt 44 = 44 := by decide
                have hFc := va_free (wc := (ME h g ss sa_203 so_204 pl_205 si_208 fa_206 li co st_193 rq bl te op_207 wo wz sr le_209 tx_210 ro)) hD hS hA [0, 1, 2, 3, 4, 5, 6] rfl
                refine va_calli (va_runV (As := [.int 44]) (rest := []) ⟨hx, hb, hml, hown, ht⟩ (c_M_isSign l dC dI k h g ss sa_203 so_204 pl_205 si_208 fa_206 li co st_193 rq bl te op_207 wo le_209 wz sr tx_210 ro 44 _ (by omega) (by omega) (by omega) (by omega) ) (cwV 1 ht (g_V k_779 k_781 k_54 k_80 k_782) rfl rfl rfl (by decide +kernel) ⟨(Nat.le_of_ble_eq_true rfl), (Nat.le_of_ble_eq_true rfl)⟩) ⟨fb_X, va_recv hK hP (ci := 4) (q0 := 0) rfl rfl, pre_X hE hS hFc hP hK hD⟩ rfl rfl hl.1 rfl (lv_room (Nat.le_of_ble_eq_true rfl)) d_M_list_81 ⟨(Nat.le_of_ble_eq_true rfl), (Nat.le_of_ble_eq_true rfl)⟩) hS (fun q _ h9 => hFc q h9) hFc (fun r_229 u_228 t H locs het hvm hw hB hz1 hk1 hS => ?_)
                obtain ⟨p_230, p_231⟩ := hw
                obtain ⟨hP1, hK1, hD1⟩ := hB
                rw [het] at hP1
                have hP : va_P (dC, dI) cls (ME h g ss sa_203 so_204 pl_205 si_208 fa_206 li co st_193 rq bl te op_207 wo wz sr le_209 tx_210 ro) H := hP1
                have hD : va_D A (ME h g ss sa_203 so_204 pl_205 si_208 fa_206 li co st_193 rq bl te op_207 wo wz sr le_209 tx_210 ro) := hD1.weaken (fun _ _ _ h9 => hFc _ h9)
                refine lv_if_eq (tgt := 91) hx hb d_M_list_84 (by decide) (fun c_232 => ?_) (fun c_232 => ?_)
                · have dc_232 := i_eq c_232 rfl (show Int32.toInt 0 = 0 by decide)
                  refine lv_iconst (v := 0) hx hb d_M_list_91 (by decide) ?_
                  refine lv_istore (lv' := [(4, .int 0), (3, .int (n + 1)), (2, .int my), (0, .ref (h 0)), (1, .int rb)]) hx hb d_M_list_92 hl (by decide) rfl (fun ls hl => ?_)
                  refine lv_iload hx hb d_M_list_94 (lv_at hl 0 rfl) ?_
                  refine lv_if_eq (tgt := 20) hx hb d_M_list_96 (by decide) (fun _ => ?_) (fun cn => absurd (by decide) cn)
                  have hc_0 : Int32.toInt 0 = 0 := by decide
                  obtain ⟨ym_233a, ym_233b⟩ := PS.yd rl_225 (by omega)
                  exact ih my (n + 1) 0 sa_203 so_204 pl_205 fa_206 op_207 si_208 le_209 tx_210 st_193 rq (by omega) (by omega) (Or.inl (rRS hbase rl_225)) (by omega) (by omega) (by omega) (by omega) (by omega) (by omega) (by omega) (by omega) (by omega) (by omega) _ _ ls hP hD hS (lv_sub hl [2, 1, 0, 3, 4] rfl)
                · have dc_232 := i_ne c_232 rfl (show Int32.toInt 0 = 0 by decide)
                  refine lv_iconst (v := 1) hx hb d_M_list_87 (by decide) ?_
                  refine lv_goto (tgt := 92) hx hb d_M_list_88 (by decide) ?_
                  refine lv_istore (lv' := [(4, .int 1), (3, .int (n + 1)), (2, .int my), (0, .ref (h 0)), (1, .int rb)]) hx hb d_M_list_92 hl (by decide) rfl (fun ls hl => ?_)
                  refine lv_iload hx hb d_M_list_94 (lv_at hl 0 rfl) ?_
                  refine lv_if_eq (tgt := 20) hx hb d_M_list_96 (by decide) (fun cn => absurd cn (by decide)) (fun _ => ?_)
                  refine lv_aload_n hx hb d_M_list_99 rfl (lv_at hl 3 rfl) ?_
                  have hFc := va_free (wc := (ME h g ss sa_203 so_204 pl_205 si_208 fa_206 li co st_193 rq bl te op_207 wo wz sr le_209 tx_210 ro)) hD hS hA [0, 1, 2, 3, 4, 5, 6] rfl
                  refine va_callv (va_runV (As := []) (rest := []) ⟨hx, hb, hml, hown, ht⟩ (c_M_next l dC dI k h g ss sa_203 so_204 pl_205 si_208 fa_206 li co st_193 rq bl te op_207 wo le_209 wz sr tx_210 ro  _ (by omega) (by omega) (by omega) (by omega) (by omega) (by omega) (by omega) (by omega) (by omega) (by omega) (by omega)) (cwV 0 ht (g_V k_694 k_696 k_37 k_80 k_697) rfl rfl rfl (by decide +kernel) ⟨(Nat.le_of_ble_eq_true rfl), (Nat.le_of_ble_eq_true rfl)⟩) ⟨fb_X, va_recv hK hP (ci := 4) (q0 := 0) rfl rfl, pre_X hE hS hFc hP hK hD⟩ rfl rfl hl.1 rfl (lv_room (Nat.le_of_ble_eq_true rfl)) d_M_list_100 ⟨(Nat.le_of_ble_eq_true rfl), (Nat.le_of_ble_eq_true rfl)⟩) hS (fun q _ h9 => hFc q h9) hFc (fun u_242 t H locs het hvm hw hB hz1 hk1 hS => ?_)
                  obtain ⟨sa_234, so_235, pl_236, fa_237, op_238, si_239, le_240, tx_241⟩ := u_242
                  try dsimp only at hw
                  obtain ⟨p_244, p_245, p_246, p_247, p_248, p_249, p_250, p_251, p_252, p_253, p_254⟩ := hw
                  obtain ⟨hP1, hK1, hD1⟩ := hB
                  rw [het] at hP1
                  have hP : va_P (dC, dI) cls (ME h g ss sa_234 so_235 pl_236 si_239 fa_237 li co st_193 rq bl te op_238 wo wz sr le_240 tx_241 ro) H := hP1
                  have hD : va_D A (ME h g ss sa_234 so_235 pl_236 si_239 fa_237 li co st_193 rq bl te op_238 wo wz sr le_240 tx_241 ro) := hD1.weaken (fun _ _ _ h9 => hFc _ h9)
                  have rl_255 := p_254.resolve_right (by omega)
                  have rl_256 := rSS rl_225 rl_255
                  refine lv_goto (tgt := 20) hx hb d_M_list_103 (by decide) ?_
                  have hc_1 : Int32.toInt 1 = 1 := by decide
                  obtain ⟨ym_257a, ym_257b⟩ := PS.yd rl_256 (by omega)
                  exact ih my (n + 1) 1 sa_234 so_235 pl_236 fa_237 op_238 si_239 le_240 tx_241 st_193 rq (by omega) (by omega) (Or.inl (rRS hbase rl_256)) (by omega) (by omega) (by omega) (by omega) (by omega) (by omega) (by omega) (by omega) (by omega) (by omega) _ _ ls hP hD hS (lv_sub hl [2, 1, 0, 3, 4] rfl)
            · refine lv_aload_n hx hb d_M_list_62 rfl (lv_at hl 3 rfl) ?_
              have hFc := va_free (wc := (ME h g ss sa so_190 pl si fa_191 li co st_193 rq bl te op_192 wo wz sr le tx ro)) hD hS hA [0, 1, 2, 3, 4, 5, 6] rfl
              refine va_callv (va_runV (As := []) (rest := []) ⟨hx, hb, hml, hown, ht⟩ (c_M_require l dC dI k h g ss sa so_190 pl si fa_191 li co st_193 rq bl te op_192 wo le wz sr tx ro  _ (by omega) (by omega) (by omega) (by omega) (by omega)) (cwV 0 ht (g_V k_787 k_789 k_56 k_80 k_790) rfl rfl rfl (by decide +kernel) ⟨(Nat.le_of_ble_eq_true rfl), (Nat.le_of_ble_eq_true rfl)⟩) ⟨fb_X, va_recv hK hP (ci := 4) (q0 := 0) rfl rfl, pre_X hE hS hFc hP hK hD⟩ rfl rfl hl.1 rfl (lv_room (Nat.le_of_ble_eq_true rfl)) d_M_list_63 ⟨(Nat.le_of_ble_eq_true rfl), (Nat.le_of_ble_eq_true rfl)⟩) hS (fun q _ h9 => hFc q h9) hFc (fun u_262 t H locs het hvm hw hB hz1 hk1 hS => ?_)
              obtain ⟨so_258, fa_259, op_260, rq_261⟩ := u_262
              try dsimp only at hw
              obtain ⟨p_264, p_265, p_266, p_267, p_268⟩ := hw
              obtain ⟨hP1, hK1, hD1⟩ := hB
              rw [het] at hP1
              have hP : va_P (dC, dI) cls (ME h g ss sa so_258 pl si fa_259 li co st_193 rq_261 bl te op_260 wo wz sr le tx ro) H := hP1
              have hD : va_D A (ME h g ss sa so_258 pl si fa_259 li co st_193 rq_261 bl te op_260 wo wz sr le tx ro) := hD1.weaken (fun _ _ _ h9 => hFc _ h9)
              have rl_269 := rRR p_199 p_267
              refine lv_aload_n hx hb d_M_list_66 rfl (lv_at hl 3 rfl) ?_
              have hFc := va_free (wc := (ME h g ss sa so_258 pl si fa_259 li co st_193 rq_261 bl te op_260 wo wz sr le tx ro)) hD hS hA [0, 1, 2, 3, 4, 5, 6] rfl
              refine va_callv (va_runV (As := []) (rest := []) ⟨hx, hb, hml, hown, ht⟩ (c_M_next l dC dI k h g ss sa so_258 pl si fa_259 li co st_193 rq_261 bl te op_260 wo le wz sr tx ro  _ (by omega) (by omega) (by omega) (by omega) (by omega) (by omega) (by omega) (by omega) (by omega) (by omega) (by omega)) (cwV 0 ht (g_V k_694 k_696 k_37 k_80 k_697) rfl rfl rfl (by decide +kernel) ⟨(Nat.le_of_ble_eq_true rfl), (Nat.le_of_ble_eq_true rfl)⟩) ⟨fb_X, va_recv hK hP (ci := 4) (q0 := 0) rfl rfl, pre_X hE hS hFc hP hK hD⟩ rfl rfl hl.1 rfl (lv_room (Nat.le_of_ble_eq_true rfl)) d_M_list_67 ⟨(Nat.le_of_ble_eq_true rfl), (Nat.le_of_ble_eq_true rfl)⟩) hS (fun q _ h9 => hFc q h9) hFc (fun u_278 t H locs het hvm hw hB hz1 hk1 hS => ?_)
              obtain ⟨sa_270, so_271, pl_272, fa_273, op_274, si_275, le_276, tx_277⟩ := u_278
              try dsimp only at hw
              obtain ⟨p_280, p_281, p_282, p_283, p_284, p_285, p_286, p_287, p_288, p_289, p_290⟩ := hw
              obtain ⟨hP1, hK1, hD1⟩ := hB
              rw [het] at hP1
              have hP : va_P (dC, dI) cls (ME h g ss sa_270 so_271 pl_272 si_275 fa_273 li co st_193 rq_261 bl te op_274 wo wz sr le_276 tx_277 ro) H := hP1
              have hD : va_D A (ME h g ss sa_270 so_271 pl_272 si_275 fa_273 li co st_193 rq_261 bl te op_274 wo wz sr le_276 tx_277 ro) := hD1.weaken (fun _ _ _ h9 => hFc _ h9)
              have rl_291 := p_290.resolve_right (by omega)
              have rl_292 := rRS rl_269 rl_291
              refine lv_iload_n hx hb d_M_list_70 rfl (lv_at hl 1 rfl) ?_
              refine lv_iconst (v := 1) hx hb d_M_list_71 (by decide) ?_
              refine lv_iadd hx hb d_M_list_72 ?_
              refine lv_istore_n (lv' := [(3, .int (n + 1)), (2, .int my), (4, .int mr), (0, .ref (h 0)), (1, .int rb)]) hx hb d_M_list_73 rfl hl (by decide) rfl (fun ls hl => ?_)
              refine lv_iload_n hx hb d_M_list_74 rfl (lv_at hl 1 rfl) ?_
              refine lv_if_eq (tgt := 91) hx hb d_M_list_75 (by decide) (fun c_293 => ?_) (fun c_293 => ?_)
              · refine lv_iconst (v := 0) hx hb d_M_list_91 (by decide) ?_
                refine lv_istore (lv' := [(4, .int 0), (3, .int (n + 1)), (2, .int my), (0, .ref (h 0)), (1, .int rb)]) hx hb d_M_list_92 hl (by decide) rfl (fun ls hl => ?_)
                refine lv_iload hx hb d_M_list_94 (lv_at hl 0 rfl) ?_
                refine lv_if_eq (tgt := 20) hx hb d_M_list_96 (by decide) (fun _ => ?_) (fun cn => absurd (by decide) cn)
                have hc_0 : Int32.toInt 0 = 0 := by decide
                obtain ⟨ym_294a, ym_294b⟩ := PS.yd rl_292 (by omega)
                exact ih my (n + 1) 0 sa_270 so_271 pl_272 fa_273 op_274 si_275 le_276 tx_277 st_193 rq_261 (by omega) (by omega) (Or.inl (rRS hbase rl_292)) (by omega) (by omega) (by omega) (by omega) (by omega) (by omega) (by omega) (by omega) (by omega) (by omega) _ _ ls hP hD hS (lv_sub hl [2, 1, 0, 3, 4] rfl)
              · refine lv_aload_n hx hb d_M_list_78 rfl (lv_at hl 3 rfl) ?_
                refine lv_bipush (v := 44) hx hb d_M_list_79 (by decide) ?_
                have hc_44 : Int32.toInt 44 = 44 := by decide
                have hFc := va_free (wc := (ME h g ss sa_270 so_271 pl_272 si_275 fa_273 li co st_193 rq_261 bl te op_274 wo wz sr le_276 tx_277 ro)) hD hS hA [0, 1, 2, 3, 4, 5, 6] rfl
                refine va_calli (va_runV (As := [.int 44]) (rest := []) ⟨hx, hb, hml, hown, ht⟩ (c_M_isSign l dC dI k h g ss sa_270 so_271 pl_272 si_275 fa_273 li co st_193 rq_261 bl te op_274 wo le_276 wz sr tx_277 ro 44 _ (by omega) (by omega) (by omega) (by omega) ) (cwV 1 ht (g_V k_779 k_781 k_54 k_80 k_782) rfl rfl rfl (by decide +kernel) ⟨(Nat.le_of_ble_eq_true rfl), (Nat.le_of_ble_eq_true rfl)⟩) ⟨fb_X, va_recv hK hP (ci := 4) (q0 := 0) rfl rfl, pre_X hE hS hFc hP hK hD⟩ rfl rfl hl.1 rfl (lv_room (Nat.le_of_ble_eq_true rfl)) d_M_list_81 ⟨(Nat.le_of_ble_eq_true rfl), (Nat.le_of_ble_eq_true rfl)⟩) hS (fun q _ h9 => hFc q h9) hFc (fun r_296 u_295 t H locs het hvm hw hB hz1 hk1 hS => ?_)
                obtain ⟨p_297, p_298⟩ := hw
                obtain ⟨hP1, hK1, hD1⟩ := hB
                rw [het] at hP1
                have hP : va_P (dC, dI) cls (ME h g ss sa_270 so_271 pl_272 si_275 fa_273 li co st_193 rq_261 bl te op_274 wo wz sr le_276 tx_277 ro) H := hP1
                have hD : va_D A (ME h g ss sa_270 so_271 pl_272 si_275 fa_273 li co st_193 rq_261 bl te op_274 wo wz sr le_276 tx_277 ro) := hD1.weaken (fun _ _ _ h9 => hFc _ h9)
                refine lv_if_eq (tgt := 91) hx hb d_M_list_84 (by decide) (fun c_299 => ?_) (fun c_299 => ?_)
                · have dc_299 := i_eq c_299 rfl (show Int32.toInt 0 = 0 by decide)
                  refine lv_iconst (v := 0) hx hb d_M_list_91 (by decide) ?_
                  refine lv_istore (lv' := [(4, .int 0), (3, .int (n + 1)), (2, .int my), (0, .ref (h 0)), (1, .int rb)]) hx hb d_M_list_92 hl (by decide) rfl (fun ls hl => ?_)
                  refine lv_iload hx hb d_M_list_94 (lv_at hl 0 rfl) ?_
                  refine lv_if_eq (tgt := 20) hx hb d_M_list_96 (by decide) (fun _ => ?_) (fun cn => absurd (by decide) cn)
                  have hc_0 : Int32.toInt 0 = 0 := by decide
                  obtain ⟨ym_300a, ym_300b⟩ := PS.yd rl_292 (by omega)
                  exact ih my (n + 1) 0 sa_270 so_271 pl_272 fa_273 op_274 si_275 le_276 tx_277 st_193 rq_261 (by omega) (by omega) (Or.inl (rRS hbase rl_292)) (by omega) (by omega) (by omega) (by omega) (by omega) (by omega) (by omega) (by omega) (by omega) (by omega) _ _ ls hP hD hS (lv_sub hl [2, 1, 0, 3, 4] rfl)
                · have dc_299 := i_ne c_299 rfl (show Int32.toInt 0 = 0 by decide)
                  refine lv_iconst (v := 1) hx hb d_M_list_87 (by decide) ?_
                  refine lv_goto (tgt := 92) hx hb d_M_list_88 (by decide) ?_
                  refine lv_istore (lv' := [(4, .int 1), (3, .int (n + 1)), (2, .int my), (0, .ref (h 0)), (1, .int rb)]) hx hb d_M_list_92 hl (by decide) rfl (fun ls hl => ?_)
                  refine lv_iload hx hb d_M_list_94 (lv_at hl 0 rfl) ?_
                  refine lv_if_eq (tgt := 20) hx hb d_M_list_96 (by decide) (fun cn => absurd cn (by decide)) (fun _ => ?_)
                  refine lv_aload_n hx hb d_M_list_99 rfl (lv_at hl 3 rfl) ?_
                  have hFc := va_free (wc := (ME h g ss sa_270 so_271 pl_272 si_275 fa_273 li co st_193 rq_261 bl te op_274 wo wz sr le_276 tx_277 ro)) hD hS hA [0, 1, 2, 3, 4, 5, 6] rfl
                  refine va_callv (va_runV (As := []) (rest := []) ⟨hx, hb, hml, hown, ht⟩ (c_M_next l dC dI k h g ss sa_270 so_271 pl_272 si_275 fa_273 li co st_193 rq_261 bl te op_274 wo le_276 wz sr tx_277 ro  _ (by omega) (by omega) (by omega) (by omega) (by omega) (by omega) (by omega) (by omega) (by omega) (by omega) (by omega)) (cwV 0 ht (g_V k_694 k_696 k_37 k_80 k_697) rfl rfl rfl (by decide +kernel) ⟨(Nat.le_of_ble_eq_true rfl), (Nat.le_of_ble_eq_true rfl)⟩) ⟨fb_X, va_recv hK hP (ci := 4) (q0 := 0) rfl rfl, pre_X hE hS hFc hP hK hD⟩ rfl rfl hl.1 rfl (lv_room (Nat.le_of_ble_eq_true rfl)) d_M_list_100 ⟨(Nat.le_of_ble_eq_true rfl), (Nat.le_of_ble_eq_true rfl)⟩) hS (fun q _ h9 => hFc q h9) hFc (fun u_309 t H locs het hvm hw hB hz1 hk1 hS => ?_)
                  obtain ⟨sa_301, so_302, pl_303, fa_304, op_305, si_306, le_307, tx_308⟩ := u_309
                  try dsimp only at hw
                  obtain ⟨p_311, p_312, p_313, p_314, p_315, p_316, p_317, p_318, p_319, p_320, p_321⟩ := hw
                  obtain ⟨hP1, hK1, hD1⟩ := hB
                  rw [het] at hP1
                  have hP : va_P (dC, dI) cls (ME h g ss sa_301 so_302 pl_303 si_306 fa_304 li co st_193 rq_261 bl te op_305 wo wz sr le_307 tx_308 ro) H := hP1
                  have hD : va_D A (ME h g ss sa_301 so_302 pl_303 si_306 fa_304 li co st_193 rq_261 bl te op_305 wo wz sr le_307 tx_308 ro) := hD1.weaken (fun _ _ _ h9 => hFc _ h9)
                  have rl_322 := p_321.resolve_right (by omega)
                  have rl_323 := rSS rl_292 rl_322
                  refine lv_goto (tgt := 20) hx hb d_M_list_103 (by decide) ?_
                  have hc_1 : Int32.toInt 1 = 1 := by decide
                  obtain ⟨ym_324a, ym_324b⟩ := PS.yd rl_323 (by omega)
                  exact ih my (n + 1) 1 sa_301 so_302 pl_303 fa_304 op_305 si_306 le_307 tx_308 st_193 rq_261 (by omega) (by omega) (Or.inl (rRS hbase rl_323)) (by omega) (by omega) (by omega) (by omega) (by omega) (by omega) (by omega) (by omega) (by omega) (by omega) _ _ ls hP hD hS (lv_sub hl [2, 1, 0, 3, 4] rfl)
          · have dc_189 := i_ne c_189 rfl (show Int32.toInt 0 = 0 by decide)
            refine lv_iload_n hx hb d_M_list_44 rfl (lv_at hl 1 rfl) ?_
            refine lv_bipush (v := 10) hx hb d_M_list_45 (by decide) ?_
            refine lv_icmp_ne (tgt := 54) hx hb d_M_list_47 (by decide) (fun c_325 => ?_) (fun c_325 => ?_)
            · refine lv_aload_n hx hb d_M_list_54 rfl (lv_at hl 3 rfl) ?_
              have hFc := va_free (wc := (ME h g ss sa so pl si fa li co st rq bl te op wo wz sr le tx ro)) hD hS hA [0, 1, 2, 3, 4, 5, 6] rfl
              refine va_callv (va_runV (As := []) (rest := []) ⟨hx, hb, hml, hown, ht⟩ (c_M_string l dC dI k h g ss sa so pl si fa li co st rq bl te op wo le wz sr tx ro  _ (by omega) (by omega) (by omega) (by omega) (by omega)) (cwV 0 ht (g_V k_783 k_785 k_55 k_80 k_786) rfl rfl rfl (by decide +kernel) ⟨(Nat.le_of_ble_eq_true rfl), (Nat.le_of_ble_eq_true rfl)⟩) ⟨fb_X, va_recv hK hP (ci := 4) (q0 := 0) rfl rfl, pre_X hE hS hFc hP hK hD⟩ rfl rfl hl.1 rfl (lv_room (Nat.le_of_ble_eq_true rfl)) d_M_list_55 ⟨(Nat.le_of_ble_eq_true rfl), (Nat.le_of_ble_eq_true rfl)⟩) hS (fun q _ h9 => hFc q h9) hFc (fun u_330 t H locs het hvm hw hB hz1 hk1 hS => ?_)
              obtain ⟨so_326, fa_327, op_328, st_329⟩ := u_330
              try dsimp only at hw
              obtain ⟨p_332, p_333, p_334, p_335, p_336, p_337⟩ := hw
              obtain ⟨hP1, hK1, hD1⟩ := hB
              rw [het] at hP1
              have hP : va_P (dC, dI) cls (ME h g ss sa so_326 pl si fa_327 li co st_329 rq bl te op_328 wo wz sr le tx ro) H := hP1
              have hD : va_D A (ME h g ss sa so_326 pl si fa_327 li co st_329 rq bl te op_328 wo wz sr le tx ro) := hD1.weaken (fun _ _ _ h9 => hFc _ h9)
              refine lv_iload_n hx hb d_M_list_58 rfl (lv_at hl 4 rfl) ?_
              refine lv_if_eq (tgt := 66) hx hb d_M_list_59 (by decide) (fun c_338 => ?_) (fun c_338 => ?_)
              · refine lv_aload_n hx hb d_M_list_66 rfl (lv_at hl 3 rfl) ?_
                have hFc := va_free (wc := (ME h g ss sa so_326 pl si fa_327 li co st_329 rq bl te op_328 wo wz sr le tx ro)) hD hS hA [0, 1, 2, 3, 4, 5, 6] rfl
                refine va_callv (va_runV (As := []) (rest := []) ⟨hx, hb, hml, hown, ht⟩ (c_M_next l dC dI k h g ss sa so_326 pl si fa_327 li co st_329 rq bl te op_328 wo le wz sr tx ro  _ (by omega) (by omega) (by omega) (by omega) (by omega) (by omega) (by omega) (by omega) (by omega) (by omega) (by omega)) (cwV 0 ht (g_V k_694 k_696 k_37 k_80 k_697) rfl rfl rfl (by decide +kernel) ⟨(Nat.le_of_ble_eq_true rfl), (Nat.le_of_ble_eq_true rfl)⟩) ⟨fb_X, va_recv hK hP (ci := 4) (q0 := 0) rfl rfl, pre_X hE hS hFc hP hK hD⟩ rfl rfl hl.1 rfl (lv_room (Nat.le_of_ble_eq_true rfl)) d_M_list_67 ⟨(Nat.le_of_ble_eq_true rfl), (Nat.le_of_ble_eq_true rfl)⟩) hS (fun q _ h9 => hFc q h9) hFc (fun u_347 t H locs het hvm hw hB hz1 hk1 hS => ?_)
                obtain ⟨sa_339, so_340, pl_341, fa_342, op_343, si_344, le_345, tx_346⟩ := u_347
                try dsimp only at hw
                obtain ⟨p_349, p_350, p_351, p_352, p_353, p_354, p_355, p_356, p_357, p_358, p_359⟩ := hw
                obtain ⟨hP1, hK1, hD1⟩ := hB
                rw [het] at hP1
                have hP : va_P (dC, dI) cls (ME h g ss sa_339 so_340 pl_341 si_344 fa_342 li co st_329 rq bl te op_343 wo wz sr le_345 tx_346 ro) H := hP1
                have hD : va_D A (ME h g ss sa_339 so_340 pl_341 si_344 fa_342 li co st_329 rq bl te op_343 wo wz sr le_345 tx_346 ro) := hD1.weaken (fun _ _ _ h9 => hFc _ h9)
                have rl_360 := p_359.resolve_right (by omega)
                have rl_361 := rRS p_335 rl_360
                refine lv_iload_n hx hb d_M_list_70 rfl (lv_at hl 1 rfl) ?_
                refine lv_iconst (v := 1) hx hb d_M_list_71 (by decide) ?_
                refine lv_iadd hx hb d_M_list_72 ?_
                refine lv_istore_n (lv' := [(3, .int (n + 1)), (2, .int my), (4, .int mr), (0, .ref (h 0)), (1, .int rb)]) hx hb d_M_list_73 rfl hl (by decide) rfl (fun ls hl => ?_)
                refine lv_iload_n hx hb d_M_list_74 rfl (lv_at hl 1 rfl) ?_
                refine lv_if_eq (tgt := 91) hx hb d_M_list_75 (by decide) (fun c_362 => ?_) (fun c_362 => ?_)
                · refine lv_iconst (v := 0) hx hb d_M_list_91 (by decide) ?_
                  refine lv_istore (lv' := [(4, .int 0), (3, .int (n + 1)), (2, .int my), (0, .ref (h 0)), (1, .int rb)]) hx hb d_M_list_92 hl (by decide) rfl (fun ls hl => ?_)
                  refine lv_iload hx hb d_M_list_94 (lv_at hl 0 rfl) ?_
                  refine lv_if_eq (tgt := 20) hx hb d_M_list_96 (by decide) (fun _ => ?_) (fun cn => absurd (by decide) cn)
                  have hc_0 : Int32.toInt 0 = 0 := by decide
                  obtain ⟨ym_363a, ym_363b⟩ := PS.yd rl_361 (by omega)
                  exact ih my (n + 1) 0 sa_339 so_340 pl_341 fa_342 op_343 si_344 le_345 tx_346 st_329 rq (by omega) (by omega) (Or.inl (rRS hbase rl_361)) (by omega) (by omega) (by omega) (by omega) (by omega) (by omega) (by omega) (by omega) (by omega) (by omega) _ _ ls hP hD hS (lv_sub hl [2, 1, 0, 3, 4] rfl)
                · refine lv_aload_n hx hb d_M_list_78 rfl (lv_at hl 3 rfl) ?_
                  refine lv_bipush (v := 44) hx hb d_M_list_79 (by decide) ?_
                  have hc_44 : Int32.toInt 44 = 44 := by decide
                  have hFc := va_free (wc := (ME h g ss sa_339 so_340 pl_341 si_344 fa_342 li co st_329 rq bl te op_343 wo wz sr le_345 tx_346 ro)) hD hS hA [0, 1, 2, 3, 4, 5, 6] rfl
                  refine va_calli (va_runV (As := [.int 44]) (rest := []) ⟨hx, hb, hml, hown, ht⟩ (c_M_isSign l dC dI k h g ss sa_339 so_340 pl_341 si_344 fa_342 li co st_329 rq bl te op_343 wo le_345 wz sr tx_346 ro 44 _ (by omega) (by omega) (by omega) (by omega) ) (cwV 1 ht (g_V k_779 k_781 k_54 k_80 k_782) rfl rfl rfl (by decide +kernel) ⟨(Nat.le_of_ble_eq_true rfl), (Nat.le_of_ble_eq_true rfl)⟩) ⟨fb_X, va_recv hK hP (ci := 4) (q0 := 0) rfl rfl, pre_X hE hS hFc hP hK hD⟩ rfl rfl hl.1 rfl (lv_room (Nat.le_of_ble_eq_true rfl)) d_M_list_81 ⟨(Nat.le_of_ble_eq_true rfl), (Nat.le_of_ble_eq_true rfl)⟩) hS (fun q _ h9 => hFc q h9) hFc (fun r_365 u_364 t H locs het hvm hw hB hz1 hk1 hS => ?_)
                  obtain ⟨p_366, p_367⟩ := hw
                  obtain ⟨hP1, hK1, hD1⟩ := hB
                  rw [het] at hP1
                  have hP : va_P (dC, dI) cls (ME h g ss sa_339 so_340 pl_341 si_344 fa_342 li co st_329 rq bl te op_343 wo wz sr le_345 tx_346 ro) H := hP1
                  have hD : va_D A (ME h g ss sa_339 so_340 pl_341 si_344 fa_342 li co st_329 rq bl te op_343 wo wz sr le_345 tx_346 ro) := hD1.weaken (fun _ _ _ h9 => hFc _ h9)
                  refine lv_if_eq (tgt := 91) hx hb d_M_list_84 (by decide) (fun c_368 => ?_) (fun c_368 => ?_)
                  · have dc_368 := i_eq c_368 rfl (show Int32.toInt 0 = 0 by decide)
                    refine lv_iconst (v := 0) hx hb d_M_list_91 (by decide) ?_
                    refine lv_istore (lv' := [(4, .int 0), (3, .int (n + 1)), (2, .int my), (0, .ref (h 0)), (1, .int rb)]) hx hb d_M_list_92 hl (by decide) rfl (fun ls hl => ?_)
                    refine lv_iload hx hb d_M_list_94 (lv_at hl 0 rfl) ?_
                    refine lv_if_eq (tgt := 20) hx hb d_M_list_96 (by decide) (fun _ => ?_) (fun cn => absurd (by decide) cn)
                    have hc_0 : Int32.toInt 0 = 0 := by decide
                    obtain ⟨ym_369a, ym_369b⟩ := PS.yd rl_361 (by omega)
                    exact ih my (n + 1) 0 sa_339 so_340 pl_341 fa_342 op_343 si_344 le_345 tx_346 st_329 rq (by omega) (by omega) (Or.inl (rRS hbase rl_361)) (by omega) (by omega) (by omega) (by omega) (by omega) (by omega) (by omega) (by omega) (by omega) (by omega) _ _ ls hP hD hS (lv_sub hl [2, 1, 0, 3, 4] rfl)
                  · have dc_368 := i_ne c_368 rfl (show Int32.toInt 0 = 0 by decide)
                    refine lv_iconst (v := 1) hx hb d_M_list_87 (by decide) ?_
                    refine lv_goto (tgt := 92) hx hb d_M_list_88 (by decide) ?_
                    refine lv_istore (lv' := [(4, .int 1), (3, .int (n + 1)), (2, .int my), (0, .ref (h 0)), (1, .int rb)]) hx hb d_M_list_92 hl (by decide) rfl (fun ls hl => ?_)
                    refine lv_iload hx hb d_M_list_94 (lv_at hl 0 rfl) ?_
                    refine lv_if_eq (tgt := 20) hx hb d_M_list_96 (by decide) (fun cn => absurd cn (by decide)) (fun _ => ?_)
                    refine lv_aload_n hx hb d_M_list_99 rfl (lv_at hl 3 rfl) ?_
                    have hFc := va_free (wc := (ME h g ss sa_339 so_340 pl_341 si_344 fa_342 li co st_329 rq bl te op_343 wo wz sr le_345 tx_346 ro)) hD hS hA [0, 1, 2, 3, 4, 5, 6] rfl
                    refine va_callv (va_runV (As := []) (rest := []) ⟨hx, hb, hml, hown, ht⟩ (c_M_next l dC dI k h g ss sa_339 so_340 pl_341 si_344 fa_342 li co st_329 rq bl te op_343 wo le_345 wz sr tx_346 ro  _ (by omega) (by omega) (by omega) (by omega) (by omega) (by omega) (by omega) (by omega) (by omega) (by omega) (by omega)) (cwV 0 ht (g_V k_694 k_696 k_37 k_80 k_697) rfl rfl rfl (by decide +kernel) ⟨(Nat.le_of_ble_eq_true rfl), (Nat.le_of_ble_eq_true rfl)⟩) ⟨fb_X, va_recv hK hP (ci := 4) (q0 := 0) rfl rfl, pre_X hE hS hFc hP hK hD⟩ rfl rfl hl.1 rfl (lv_room (Nat.le_of_ble_eq_true rfl)) d_M_list_100 ⟨(Nat.le_of_ble_eq_true rfl), (Nat.le_of_ble_eq_true rfl)⟩) hS (fun q _ h9 => hFc q h9) hFc (fun u_378 t H locs het hvm hw hB hz1 hk1 hS => ?_)
                    obtain ⟨sa_370, so_371, pl_372, fa_373, op_374, si_375, le_376, tx_377⟩ := u_378
                    try dsimp only at hw
                    obtain ⟨p_380, p_381, p_382, p_383, p_384, p_385, p_386, p_387, p_388, p_389, p_390⟩ := hw
                    obtain ⟨hP1, hK1, hD1⟩ := hB
                    rw [het] at hP1
                    have hP : va_P (dC, dI) cls (ME h g ss sa_370 so_371 pl_372 si_375 fa_373 li co st_329 rq bl te op_374 wo wz sr le_376 tx_377 ro) H := hP1
                    have hD : va_D A (ME h g ss sa_370 so_371 pl_372 si_375 fa_373 li co st_329 rq bl te op_374 wo wz sr le_376 tx_377 ro) := hD1.weaken (fun _ _ _ h9 => hFc _ h9)
                    have rl_391 := p_390.resolve_right (by omega)
                    have rl_392 := rSS rl_361 rl_391
                    refine lv_goto (tgt := 20) hx hb d_M_list_103 (by decide) ?_
                    have hc_1 : Int32.toInt 1 = 1 := by decide
                    obtain ⟨ym_393a, ym_393b⟩ := PS.yd rl_392 (by omega)
                    exact ih my (n + 1) 1 sa_370 so_371 pl_372 fa_373 op_374 si_375 le_376 tx_377 st_329 rq (by omega) (by omega) (Or.inl (rRS hbase rl_392)) (by omega) (by omega) (by omega) (by omega) (by omega) (by omega) (by omega) (by omega) (by omega) (by omega) _ _ ls hP hD hS (lv_sub hl [2, 1, 0, 3, 4] rfl)
              · refine lv_aload_n hx hb d_M_list_62 rfl (lv_at hl 3 rfl) ?_
                have hFc := va_free (wc := (ME h g ss sa so_326 pl si fa_327 li co st_329 rq bl te op_328 wo wz sr le tx ro)) hD hS hA [0, 1, 2, 3, 4, 5, 6] rfl
                refine va_callv (va_runV (As := []) (rest := []) ⟨hx, hb, hml, hown, ht⟩ (c_M_require l dC dI k h g ss sa so_326 pl si fa_327 li co st_329 rq bl te op_328 wo le wz sr tx ro  _ (by omega) (by omega) (by omega) (by omega) (by omega)) (cwV 0 ht (g_V k_787 k_789 k_56 k_80 k_790) rfl rfl rfl (by decide +kernel) ⟨(Nat.le_of_ble_eq_true rfl), (Nat.le_of_ble_eq_true rfl)⟩) ⟨fb_X, va_recv hK hP (ci := 4) (q0 := 0) rfl rfl, pre_X hE hS hFc hP hK hD⟩ rfl rfl hl.1 rfl (lv_room (Nat.le_of_ble_eq_true rfl)) d_M_list_63 ⟨(Nat.le_of_ble_eq_true rfl), (Nat.le_of_ble_eq_true rfl)⟩) hS (fun q _ h9 => hFc q h9) hFc (fun u_398 t H locs het hvm hw hB hz1 hk1 hS => ?_)
                obtain ⟨so_394, fa_395, op_396, rq_397⟩ := u_398
                try dsimp only at hw
                obtain ⟨p_400, p_401, p_402, p_403, p_404⟩ := hw
                obtain ⟨hP1, hK1, hD1⟩ := hB
                rw [het] at hP1
                have hP : va_P (dC, dI) cls (ME h g ss sa so_394 pl si fa_395 li co st_329 rq_397 bl te op_396 wo wz sr le tx ro) H := hP1
                have hD : va_D A (ME h g ss sa so_394 pl si fa_395 li co st_329 rq_397 bl te op_396 wo wz sr le tx ro) := hD1.weaken (fun _ _ _ h9 => hFc _ h9)
                have rl_405 := rRR p_335 p_403
                refine lv_aload_n hx hb d_M_list_66 rfl (lv_at hl 3 rfl) ?_
                have hFc := va_free (wc := (ME h g ss sa so_394 pl si fa_395 li co st_329 rq_397 bl te op_396 wo wz sr le tx ro)) hD hS hA [0, 1, 2, 3, 4, 5, 6] rfl
                refine va_callv (va_runV (As := []) (rest := []) ⟨hx, hb, hml, hown, ht⟩ (c_M_next l dC dI k h g ss sa so_394 pl si fa_395 li co st_329 rq_397 bl te op_396 wo le wz sr tx ro  _ (by omega) (by omega) (by omega) (by omega) (by omega) (by omega) (by omega) (by omega) (by omega) (by omega) (by omega)) (cwV 0 ht (g_V k_694 k_696 k_37 k_80 k_697) rfl rfl rfl (by decide +kernel) ⟨(Nat.le_of_ble_eq_true rfl), (Nat.le_of_ble_eq_true rfl)⟩) ⟨fb_X, va_recv hK hP (ci := 4) (q0 := 0) rfl rfl, pre_X hE hS hFc hP hK hD⟩ rfl rfl hl.1 rfl (lv_room (Nat.le_of_ble_eq_true rfl)) d_M_list_67 ⟨(Nat.le_of_ble_eq_true rfl), (Nat.le_of_ble_eq_true rfl)⟩) hS (fun q _ h9 => hFc q h9) hFc (fun u_414 t H locs het hvm hw hB hz1 hk1 hS => ?_)
                obtain ⟨sa_406, so_407, pl_408, fa_409, op_410, si_411, le_412, tx_413⟩ := u_414
                try dsimp only at hw
                obtain ⟨p_416, p_417, p_418, p_419, p_420, p_421, p_422, p_423, p_424, p_425, p_426⟩ := hw
                obtain ⟨hP1, hK1, hD1⟩ := hB
                rw [het] at hP1
                have hP : va_P (dC, dI) cls (ME h g ss sa_406 so_407 pl_408 si_411 fa_409 li co st_329 rq_397 bl te op_410 wo wz sr le_412 tx_413 ro) H := hP1
                have hD : va_D A (ME h g ss sa_406 so_407 pl_408 si_411 fa_409 li co st_329 rq_397 bl te op_410 wo wz sr le_412 tx_413 ro) := hD1.weaken (fun _ _ _ h9 => hFc _ h9)
                have rl_427 := p_426.resolve_right (by omega)
                have rl_428 := rRS rl_405 rl_427
                refine lv_iload_n hx hb d_M_list_70 rfl (lv_at hl 1 rfl) ?_
                refine lv_iconst (v := 1) hx hb d_M_list_71 (by decide) ?_
                refine lv_iadd hx hb d_M_list_72 ?_
                refine lv_istore_n (lv' := [(3, .int (n + 1)), (2, .int my), (4, .int mr), (0, .ref (h 0)), (1, .int rb)]) hx hb d_M_list_73 rfl hl (by decide) rfl (fun ls hl => ?_)
                refine lv_iload_n hx hb d_M_list_74 rfl (lv_at hl 1 rfl) ?_
                refine lv_if_eq (tgt := 91) hx hb d_M_list_75 (by decide) (fun c_429 => ?_) (fun c_429 => ?_)
                · refine lv_iconst (v := 0) hx hb d_M_list_91 (by decide) ?_
                  refine lv_istore (lv' := [(4, .int 0), (3, .int (n + 1)), (2, .int my), (0, .ref (h 0)), (1, .int rb)]) hx hb d_M_list_92 hl (by decide) rfl (fun ls hl => ?_)
                  refine lv_iload hx hb d_M_list_94 (lv_at hl 0 rfl) ?_
                  refine lv_if_eq (tgt := 20) hx hb d_M_list_96 (by decide) (fun _ => ?_) (fun cn => absurd (by decide) cn)
                  have hc_0 : Int32.toInt 0 = 0 := by decide
                  obtain ⟨ym_430a, ym_430b⟩ := PS.yd rl_428 (by omega)
                  exact ih my (n + 1) 0 sa_406 so_407 pl_408 fa_409 op_410 si_411 le_412 tx_413 st_329 rq_397 (by omega) (by omega) (Or.inl (rRS hbase rl_428)) (by omega) (by omega) (by omega) (by omega) (by omega) (by omega) (by omega) (by omega) (by omega) (by omega) _ _ ls hP hD hS (lv_sub hl [2, 1, 0, 3, 4] rfl)
                · refine lv_aload_n hx hb d_M_list_78 rfl (lv_at hl 3 rfl) ?_
                  refine lv_bipush (v := 44) hx hb d_M_list_79 (by decide) ?_
                  have hc_44 : Int32.toInt 44 = 44 := by decide
                  have hFc := va_free (wc := (ME h g ss sa_406 so_407 pl_408 si_411 fa_409 li co st_329 rq_397 bl te op_410 wo wz sr le_412 tx_413 ro)) hD hS hA [0, 1, 2, 3, 4, 5, 6] rfl
                  refine va_calli (va_runV (As := [.int 44]) (rest := []) ⟨hx, hb, hml, hown, ht⟩ (c_M_isSign l dC dI k h g ss sa_406 so_407 pl_408 si_411 fa_409 li co st_329 rq_397 bl te op_410 wo le_412 wz sr tx_413 ro 44 _ (by omega) (by omega) (by omega) (by omega) ) (cwV 1 ht (g_V k_779 k_781 k_54 k_80 k_782) rfl rfl rfl (by decide +kernel) ⟨(Nat.le_of_ble_eq_true rfl), (Nat.le_of_ble_eq_true rfl)⟩) ⟨fb_X, va_recv hK hP (ci := 4) (q0 := 0) rfl rfl, pre_X hE hS hFc hP hK hD⟩ rfl rfl hl.1 rfl (lv_room (Nat.le_of_ble_eq_true rfl)) d_M_list_81 ⟨(Nat.le_of_ble_eq_true rfl), (Nat.le_of_ble_eq_true rfl)⟩) hS (fun q _ h9 => hFc q h9) hFc (fun r_432 u_431 t H locs het hvm hw hB hz1 hk1 hS => ?_)
                  obtain ⟨p_433, p_434⟩ := hw
                  obtain ⟨hP1, hK1, hD1⟩ := hB
                  rw [het] at hP1
                  have hP : va_P (dC, dI) cls (ME h g ss sa_406 so_407 pl_408 si_411 fa_409 li co st_329 rq_397 bl te op_410 wo wz sr le_412 tx_413 ro) H := hP1
                  have hD : va_D A (ME h g ss sa_406 so_407 pl_408 si_411 fa_409 li co st_329 rq_397 bl te op_410 wo wz sr le_412 tx_413 ro) := hD1.weaken (fun _ _ _ h9 => hFc _ h9)
                  refine lv_if_eq (tgt := 91) hx hb d_M_list_84 (by decide) (fun c_435 => ?_) (fun c_435 => ?_)
                  · have dc_435 := i_eq c_435 rfl (show Int32.toInt 0 = 0 by decide)
                    refine lv_iconst (v := 0) hx hb d_M_list_91 (by decide) ?_
                    refine lv_istore (lv' := [(4, .int 0), (3, .int (n + 1)), (2, .int my), (0, .ref (h 0)), (1, .int rb)]) hx hb d_M_list_92 hl (by decide) rfl (fun ls hl => ?_)
                    refine lv_iload hx hb d_M_list_94 (lv_at hl 0 rfl) ?_
                    refine lv_if_eq (tgt := 20) hx hb d_M_list_96 (by decide) (fun _ => ?_) (fun cn => absurd (by decide) cn)
                    have hc_0 : Int32.toInt 0 = 0 := by decide
                    obtain ⟨ym_436a, ym_436b⟩ := PS.yd rl_428 (by omega)
                    exact ih my (n + 1) 0 sa_406 so_407 pl_408 fa_409 op_410 si_411 le_412 tx_413 st_329 rq_397 (by omega) (by omega) (Or.inl (rRS hbase rl_428)) (by omega) (by omega) (by omega) (by omega) (by omega) (by omega) (by omega) (by omega) (by omega) (by omega) _ _ ls hP hD hS (lv_sub hl [2, 1, 0, 3, 4] rfl)
                  · have dc_435 := i_ne c_435 rfl (show Int32.toInt 0 = 0 by decide)
                    refine lv_iconst (v := 1) hx hb d_M_list_87 (by decide) ?_
                    refine lv_goto (tgt := 92) hx hb d_M_list_88 (by decide) ?_
                    refine lv_istore (lv' := [(4, .int 1), (3, .int (n + 1)), (2, .int my), (0, .ref (h 0)), (1, .int rb)]) hx hb d_M_list_92 hl (by decide) rfl (fun ls hl => ?_)
                    refine lv_iload hx hb d_M_list_94 (lv_at hl 0 rfl) ?_
                    refine lv_if_eq (tgt := 20) hx hb d_M_list_96 (by decide) (fun cn => absurd cn (by decide)) (fun _ => ?_)
                    refine lv_aload_n hx hb d_M_list_99 rfl (lv_at hl 3 rfl) ?_
                    have hFc := va_free (wc := (ME h g ss sa_406 so_407 pl_408 si_411 fa_409 li co st_329 rq_397 bl te op_410 wo wz sr le_412 tx_413 ro)) hD hS hA [0, 1, 2, 3, 4, 5, 6] rfl
                    refine va_callv (va_runV (As := []) (rest := []) ⟨hx, hb, hml, hown, ht⟩ (c_M_next l dC dI k h g ss sa_406 so_407 pl_408 si_411 fa_409 li co st_329 rq_397 bl te op_410 wo le_412 wz sr tx_413 ro  _ (by omega) (by omega) (by omega) (by omega) (by omega) (by omega) (by omega) (by omega) (by omega) (by omega) (by omega)) (cwV 0 ht (g_V k_694 k_696 k_37 k_80 k_697) rfl rfl rfl (by decide +kernel) ⟨(Nat.le_of_ble_eq_true rfl), (Nat.le_of_ble_eq_true rfl)⟩) ⟨fb_X, va_recv hK hP (ci := 4) (q0 := 0) rfl rfl, pre_X hE hS hFc hP hK hD⟩ rfl rfl hl.1 rfl (lv_room (Nat.le_of_ble_eq_true rfl)) d_M_list_100 ⟨(Nat.le_of_ble_eq_true rfl), (Nat.le_of_ble_eq_true rfl)⟩) hS (fun q _ h9 => hFc q h9) hFc (fun u_445 t H locs het hvm hw hB hz1 hk1 hS => ?_)
                    obtain ⟨sa_437, so_438, pl_439, fa_440, op_441, si_442, le_443, tx_444⟩ := u_445
                    try dsimp only at hw
                    obtain ⟨p_447, p_448, p_449, p_450, p_451, p_452, p_453, p_454, p_455, p_456, p_457⟩ := hw
                    obtain ⟨hP1, hK1, hD1⟩ := hB
                    rw [het] at hP1
                    have hP : va_P (dC, dI) cls (ME h g ss sa_437 so_438 pl_439 si_442 fa_440 li co st_329 rq_397 bl te op_441 wo wz sr le_443 tx_444 ro) H := hP1
                    have hD : va_D A (ME h g ss sa_437 so_438 pl_439 si_442 fa_440 li co st_329 rq_397 bl te op_441 wo wz sr le_443 tx_444 ro) := hD1.weaken (fun _ _ _ h9 => hFc _ h9)
                    have rl_458 := p_457.resolve_right (by omega)
                    have rl_459 := rSS rl_428 rl_458
                    refine lv_goto (tgt := 20) hx hb d_M_list_103 (by decide) ?_
                    have hc_1 : Int32.toInt 1 = 1 := by decide
                    obtain ⟨ym_460a, ym_460b⟩ := PS.yd rl_459 (by omega)
                    exact ih my (n + 1) 1 sa_437 so_438 pl_439 fa_440 op_441 si_442 le_443 tx_444 st_329 rq_397 (by omega) (by omega) (Or.inl (rRS hbase rl_459)) (by omega) (by omega) (by omega) (by omega) (by omega) (by omega) (by omega) (by omega) (by omega) (by omega) _ _ ls hP hD hS (lv_sub hl [2, 1, 0, 3, 4] rfl)
            · refine lv_aload_n hx hb d_M_list_50 rfl (lv_at hl 3 rfl) ?_
              have hFc := va_free (wc := (ME h g ss sa so pl si fa li co st rq bl te op wo wz sr le tx ro)) hD hS hA [0, 1, 2, 3, 4, 5, 6] rfl
              refine va_callv (va_runV (As := []) (rest := []) ⟨hx, hb, hml, hown, ht⟩ (c_M_fail l dC dI k h g ss sa so pl si fa li co st rq bl te op wo le wz sr tx ro  _ (by omega) (by omega) (by omega) (by omega)) (cwV 0 ht (g_V k_763 k_765 k_50 k_80 k_766) rfl rfl rfl (by decide +kernel) ⟨(Nat.le_of_ble_eq_true rfl), (Nat.le_of_ble_eq_true rfl)⟩) ⟨fb_X, va_recv hK hP (ci := 4) (q0 := 0) rfl rfl, pre_X hE hS hFc hP hK hD⟩ rfl rfl hl.1 rfl (lv_room (Nat.le_of_ble_eq_true rfl)) d_M_list_51 ⟨(Nat.le_of_ble_eq_true rfl), (Nat.le_of_ble_eq_true rfl)⟩) hS (fun q _ h9 => hFc q h9) hFc (fun u_464 t H locs het hvm hw hB hz1 hk1 hS => ?_)
              obtain ⟨so_461, fa_462, op_463⟩ := u_464
              try dsimp only at hw
              obtain ⟨p_466, p_467, p_468, p_469, p_470, p_471⟩ := hw
              obtain ⟨hP1, hK1, hD1⟩ := hB
              rw [het] at hP1
              have hP : va_P (dC, dI) cls (ME h g ss sa so_461 pl si fa_462 li co st rq bl te op_463 wo wz sr le tx ro) H := hP1
              have hD : va_D A (ME h g ss sa so_461 pl si fa_462 li co st rq bl te op_463 wo wz sr le tx ro) := hD1.weaken (fun _ _ _ h9 => hFc _ h9)
              have rl_472 : PS ss sa so fa op sa so_461 fa_462 op_463 := pr_out (by omega) (by omega) (by omega) _ _ _ _ (by omega)
              refine lv_aload_n hx hb d_M_list_54 rfl (lv_at hl 3 rfl) ?_
              have hFc := va_free (wc := (ME h g ss sa so_461 pl si fa_462 li co st rq bl te op_463 wo wz sr le tx ro)) hD hS hA [0, 1, 2, 3, 4, 5, 6] rfl
              refine va_callv (va_runV (As := []) (rest := []) ⟨hx, hb, hml, hown, ht⟩ (c_M_string l dC dI k h g ss sa so_461 pl si fa_462 li co st rq bl te op_463 wo le wz sr tx ro  _ (by omega) (by omega) (by omega) (by omega) (by omega)) (cwV 0 ht (g_V k_783 k_785 k_55 k_80 k_786) rfl rfl rfl (by decide +kernel) ⟨(Nat.le_of_ble_eq_true rfl), (Nat.le_of_ble_eq_true rfl)⟩) ⟨fb_X, va_recv hK hP (ci := 4) (q0 := 0) rfl rfl, pre_X hE hS hFc hP hK hD⟩ rfl rfl hl.1 rfl (lv_room (Nat.le_of_ble_eq_true rfl)) d_M_list_55 ⟨(Nat.le_of_ble_eq_true rfl), (Nat.le_of_ble_eq_true rfl)⟩) hS (fun q _ h9 => hFc q h9) hFc (fun u_477 t H locs het hvm hw hB hz1 hk1 hS => ?_)
              obtain ⟨so_473, fa_474, op_475, st_476⟩ := u_477
              try dsimp only at hw
              obtain ⟨p_479, p_480, p_481, p_482, p_483, p_484⟩ := hw
              obtain ⟨hP1, hK1, hD1⟩ := hB
              rw [het] at hP1
              have hP : va_P (dC, dI) cls (ME h g ss sa so_473 pl si fa_474 li co st_476 rq bl te op_475 wo wz sr le tx ro) H := hP1
              have hD : va_D A (ME h g ss sa so_473 pl si fa_474 li co st_476 rq bl te op_475 wo wz sr le tx ro) := hD1.weaken (fun _ _ _ h9 => hFc _ h9)
              have rl_485 := rSR rl_472 p_482
              refine lv_iload_n hx hb d_M_list_58 rfl (lv_at hl 4 rfl) ?_
              refine lv_if_eq (tgt := 66) hx hb d_M_list_59 (by decide) (fun c_486 => ?_) (fun c_486 => ?_)
              · refine lv_aload_n hx hb d_M_list_66 rfl (lv_at hl 3 rfl) ?_
                have hFc := va_free (wc := (ME h g ss sa so_473 pl si fa_474 li co st_476 rq bl te op_475 wo wz sr le tx ro)) hD hS hA [0, 1, 2, 3, 4, 5, 6] rfl
                refine va_callv (va_runV (As := []) (rest := []) ⟨hx, hb, hml, hown, ht⟩ (c_M_next l dC dI k h g ss sa so_473 pl si fa_474 li co st_476 rq bl te op_475 wo le wz sr tx ro  _ (by omega) (by omega) (by omega) (by omega) (by omega) (by omega) (by omega) (by omega) (by omega) (by omega) (by omega)) (cwV 0 ht (g_V k_694 k_696 k_37 k_80 k_697) rfl rfl rfl (by decide +kernel) ⟨(Nat.le_of_ble_eq_true rfl), (Nat.le_of_ble_eq_true rfl)⟩) ⟨fb_X, va_recv hK hP (ci := 4) (q0 := 0) rfl rfl, pre_X hE hS hFc hP hK hD⟩ rfl rfl hl.1 rfl (lv_room (Nat.le_of_ble_eq_true rfl)) d_M_list_67 ⟨(Nat.le_of_ble_eq_true rfl), (Nat.le_of_ble_eq_true rfl)⟩) hS (fun q _ h9 => hFc q h9) hFc (fun u_495 t H locs het hvm hw hB hz1 hk1 hS => ?_)
                obtain ⟨sa_487, so_488, pl_489, fa_490, op_491, si_492, le_493, tx_494⟩ := u_495
                try dsimp only at hw
                obtain ⟨p_497, p_498, p_499, p_500, p_501, p_502, p_503, p_504, p_505, p_506, p_507⟩ := hw
                obtain ⟨hP1, hK1, hD1⟩ := hB
                rw [het] at hP1
                have hP : va_P (dC, dI) cls (ME h g ss sa_487 so_488 pl_489 si_492 fa_490 li co st_476 rq bl te op_491 wo wz sr le_493 tx_494 ro) H := hP1
                have hD : va_D A (ME h g ss sa_487 so_488 pl_489 si_492 fa_490 li co st_476 rq bl te op_491 wo wz sr le_493 tx_494 ro) := hD1.weaken (fun _ _ _ h9 => hFc _ h9)
                have rl_508 := p_507.resolve_right (by omega)
                have rl_509 := rSS rl_485 rl_508
                refine lv_iload_n hx hb d_M_list_70 rfl (lv_at hl 1 rfl) ?_
                refine lv_iconst (v := 1) hx hb d_M_list_71 (by decide) ?_
                refine lv_iadd hx hb d_M_list_72 ?_
                refine lv_istore_n (lv' := [(3, .int (n + 1)), (2, .int my), (4, .int mr), (0, .ref (h 0)), (1, .int rb)]) hx hb d_M_list_73 rfl hl (by decide) rfl (fun ls hl => ?_)
                refine lv_iload_n hx hb d_M_list_74 rfl (lv_at hl 1 rfl) ?_
                refine lv_if_eq (tgt := 91) hx hb d_M_list_75 (by decide) (fun c_510 => ?_) (fun c_510 => ?_)
                · refine lv_iconst (v := 0) hx hb d_M_list_91 (by decide) ?_
                  refine lv_istore (lv' := [(4, .int 0), (3, .int (n + 1)), (2, .int my), (0, .ref (h 0)), (1, .int rb)]) hx hb d_M_list_92 hl (by decide) rfl (fun ls hl => ?_)
                  refine lv_iload hx hb d_M_list_94 (lv_at hl 0 rfl) ?_
                  refine lv_if_eq (tgt := 20) hx hb d_M_list_96 (by decide) (fun _ => ?_) (fun cn => absurd (by decide) cn)
                  have hc_0 : Int32.toInt 0 = 0 := by decide
                  obtain ⟨ym_511a, ym_511b⟩ := PS.yd rl_509 (by omega)
                  exact ih my (n + 1) 0 sa_487 so_488 pl_489 fa_490 op_491 si_492 le_493 tx_494 st_476 rq (by omega) (by omega) (Or.inl (rRS hbase rl_509)) (by omega) (by omega) (by omega) (by omega) (by omega) (by omega) (by omega) (by omega) (by omega) (by omega) _ _ ls hP hD hS (lv_sub hl [2, 1, 0, 3, 4] rfl)
                · refine lv_aload_n hx hb d_M_list_78 rfl (lv_at hl 3 rfl) ?_
                  refine lv_bipush (v := 44) hx hb d_M_list_79 (by decide) ?_
                  have hc_44 : Int32.toInt 44 = 44 := by decide
                  have hFc := va_free (wc := (ME h g ss sa_487 so_488 pl_489 si_492 fa_490 li co st_476 rq bl te op_491 wo wz sr le_493 tx_494 ro)) hD hS hA [0, 1, 2, 3, 4, 5, 6] rfl
                  refine va_calli (va_runV (As := [.int 44]) (rest := []) ⟨hx, hb, hml, hown, ht⟩ (c_M_isSign l dC dI k h g ss sa_487 so_488 pl_489 si_492 fa_490 li co st_476 rq bl te op_491 wo le_493 wz sr tx_494 ro 44 _ (by omega) (by omega) (by omega) (by omega) ) (cwV 1 ht (g_V k_779 k_781 k_54 k_80 k_782) rfl rfl rfl (by decide +kernel) ⟨(Nat.le_of_ble_eq_true rfl), (Nat.le_of_ble_eq_true rfl)⟩) ⟨fb_X, va_recv hK hP (ci := 4) (q0 := 0) rfl rfl, pre_X hE hS hFc hP hK hD⟩ rfl rfl hl.1 rfl (lv_room (Nat.le_of_ble_eq_true rfl)) d_M_list_81 ⟨(Nat.le_of_ble_eq_true rfl), (Nat.le_of_ble_eq_true rfl)⟩) hS (fun q _ h9 => hFc q h9) hFc (fun r_513 u_512 t H locs het hvm hw hB hz1 hk1 hS => ?_)
                  obtain ⟨p_514, p_515⟩ := hw
                  obtain ⟨hP1, hK1, hD1⟩ := hB
                  rw [het] at hP1
                  have hP : va_P (dC, dI) cls (ME h g ss sa_487 so_488 pl_489 si_492 fa_490 li co st_476 rq bl te op_491 wo wz sr le_493 tx_494 ro) H := hP1
                  have hD : va_D A (ME h g ss sa_487 so_488 pl_489 si_492 fa_490 li co st_476 rq bl te op_491 wo wz sr le_493 tx_494 ro) := hD1.weaken (fun _ _ _ h9 => hFc _ h9)
                  refine lv_if_eq (tgt := 91) hx hb d_M_list_84 (by decide) (fun c_516 => ?_) (fun c_516 => ?_)
                  · have dc_516 := i_eq c_516 rfl (show Int32.toInt 0 = 0 by decide)
                    refine lv_iconst (v := 0) hx hb d_M_list_91 (by decide) ?_
                    refine lv_istore (lv' := [(4, .int 0), (3, .int (n + 1)), (2, .int my), (0, .ref (h 0)), (1, .int rb)]) hx hb d_M_list_92 hl (by decide) rfl (fun ls hl => ?_)
                    refine lv_iload hx hb d_M_list_94 (lv_at hl 0 rfl) ?_
                    refine lv_if_eq (tgt := 20) hx hb d_M_list_96 (by decide) (fun _ => ?_) (fun cn => absurd (by decide) cn)
                    have hc_0 : Int32.toInt 0 = 0 := by decide
                    obtain ⟨ym_517a, ym_517b⟩ := PS.yd rl_509 (by omega)
                    exact ih my (n + 1) 0 sa_487 so_488 pl_489 fa_490 op_491 si_492 le_493 tx_494 st_476 rq (by omega) (by omega) (Or.inl (rRS hbase rl_509)) (by omega) (by omega) (by omega) (by omega) (by omega) (by omega) (by omega) (by omega) (by omega) (by omega) _ _ ls hP hD hS (lv_sub hl [2, 1, 0, 3, 4] rfl)
                  · have dc_516 := i_ne c_516 rfl (show Int32.toInt 0 = 0 by decide)
                    refine lv_iconst (v := 1) hx hb d_M_list_87 (by decide) ?_
                    refine lv_goto (tgt := 92) hx hb d_M_list_88 (by decide) ?_
                    refine lv_istore (lv' := [(4, .int 1), (3, .int (n + 1)), (2, .int my), (0, .ref (h 0)), (1, .int rb)]) hx hb d_M_list_92 hl (by decide) rfl (fun ls hl => ?_)
                    refine lv_iload hx hb d_M_list_94 (lv_at hl 0 rfl) ?_
                    refine lv_if_eq (tgt := 20) hx hb d_M_list_96 (by decide) (fun cn => absurd cn (by decide)) (fun _ => ?_)
                    refine lv_aload_n hx hb d_M_list_99 rfl (lv_at hl 3 rfl) ?_
                    have hFc := va_free (wc := (ME h g ss sa_487 so_488 pl_489 si_492 fa_490 li co st_476 rq bl te op_491 wo wz sr le_493 tx_494 ro)) hD hS hA [0, 1, 2, 3, 4, 5, 6] rfl
                    refine va_callv (va_runV (As := []) (rest := []) ⟨hx, hb, hml, hown, ht⟩ (c_M_next l dC dI k h g ss sa_487 so_488 pl_489 si_492 fa_490 li co st_476 rq bl te op_491 wo le_493 wz sr tx_494 ro  _ (by omega) (by omega) (by omega) (by omega) (by omega) (by omega) (by omega) (by omega) (by omega) (by omega) (by omega)) (cwV 0 ht (g_V k_694 k_696 k_37 k_80 k_697) rfl rfl rfl (by decide +kernel) ⟨(Nat.le_of_ble_eq_true rfl), (Nat.le_of_ble_eq_true rfl)⟩) ⟨fb_X, va_recv hK hP (ci := 4) (q0 := 0) rfl rfl, pre_X hE hS hFc hP hK hD⟩ rfl rfl hl.1 rfl (lv_room (Nat.le_of_ble_eq_true rfl)) d_M_list_100 ⟨(Nat.le_of_ble_eq_true rfl), (Nat.le_of_ble_eq_true rfl)⟩) hS (fun q _ h9 => hFc q h9) hFc (fun u_526 t H locs het hvm hw hB hz1 hk1 hS => ?_)
                    obtain ⟨sa_518, so_519, pl_520, fa_521, op_522, si_523, le_524, tx_525⟩ := u_526
                    try dsimp only at hw
                    obtain ⟨p_528, p_529, p_530, p_531, p_532, p_533, p_534, p_535, p_536, p_537, p_538⟩ := hw
                    obtain ⟨hP1, hK1, hD1⟩ := hB
                    rw [het] at hP1
                    have hP : va_P (dC, dI) cls (ME h g ss sa_518 so_519 pl_520 si_523 fa_521 li co st_476 rq bl te op_522 wo wz sr le_524 tx_525 ro) H := hP1
                    have hD : va_D A (ME h g ss sa_518 so_519 pl_520 si_523 fa_521 li co st_476 rq bl te op_522 wo wz sr le_524 tx_525 ro) := hD1.weaken (fun _ _ _ h9 => hFc _ h9)
                    have rl_539 := p_538.resolve_right (by omega)
                    have rl_540 := rSS rl_509 rl_539
                    refine lv_goto (tgt := 20) hx hb d_M_list_103 (by decide) ?_
                    have hc_1 : Int32.toInt 1 = 1 := by decide
                    obtain ⟨ym_541a, ym_541b⟩ := PS.yd rl_540 (by omega)
                    exact ih my (n + 1) 1 sa_518 so_519 pl_520 fa_521 op_522 si_523 le_524 tx_525 st_476 rq (by omega) (by omega) (Or.inl (rRS hbase rl_540)) (by omega) (by omega) (by omega) (by omega) (by omega) (by omega) (by omega) (by omega) (by omega) (by omega) _ _ ls hP hD hS (lv_sub hl [2, 1, 0, 3, 4] rfl)
              · refine lv_aload_n hx hb d_M_list_62 rfl (lv_at hl 3 rfl) ?_
                have hFc := va_free (wc := (ME h g ss sa so_473 pl si fa_474 li co st_476 rq bl te op_475 wo wz sr le tx ro)) hD hS hA [0, 1, 2, 3, 4, 5, 6] rfl
                refine va_callv (va_runV (As := []) (rest := []) ⟨hx, hb, hml, hown, ht⟩ (c_M_require l dC dI k h g ss sa so_473 pl si fa_474 li co st_476 rq bl te op_475 wo le wz sr tx ro  _ (by omega) (by omega) (by omega) (by omega) (by omega)) (cwV 0 ht (g_V k_787 k_789 k_56 k_80 k_790) rfl rfl rfl (by decide +kernel) ⟨(Nat.le_of_ble_eq_true rfl), (Nat.le_of_ble_eq_true rfl)⟩) ⟨fb_X, va_recv hK hP (ci := 4) (q0 := 0) rfl rfl, pre_X hE hS hFc hP hK hD⟩ rfl rfl hl.1 rfl (lv_room (Nat.le_of_ble_eq_true rfl)) d_M_list_63 ⟨(Nat.le_of_ble_eq_true rfl), (Nat.le_of_ble_eq_true rfl)⟩) hS (fun q _ h9 => hFc q h9) hFc (fun u_546 t H locs het hvm hw hB hz1 hk1 hS => ?_)
                obtain ⟨so_542, fa_543, op_544, rq_545⟩ := u_546
                try dsimp only at hw
                obtain ⟨p_548, p_549, p_550, p_551, p_552⟩ := hw
                obtain ⟨hP1, hK1, hD1⟩ := hB
                rw [het] at hP1
                have hP : va_P (dC, dI) cls (ME h g ss sa so_542 pl si fa_543 li co st_476 rq_545 bl te op_544 wo wz sr le tx ro) H := hP1
                have hD : va_D A (ME h g ss sa so_542 pl si fa_543 li co st_476 rq_545 bl te op_544 wo wz sr le tx ro) := hD1.weaken (fun _ _ _ h9 => hFc _ h9)
                have rl_553 := rSR rl_485 p_551
                refine lv_aload_n hx hb d_M_list_66 rfl (lv_at hl 3 rfl) ?_
                have hFc := va_free (wc := (ME h g ss sa so_542 pl si fa_543 li co st_476 rq_545 bl te op_544 wo wz sr le tx ro)) hD hS hA [0, 1, 2, 3, 4, 5, 6] rfl
                refine va_callv (va_runV (As := []) (rest := []) ⟨hx, hb, hml, hown, ht⟩ (c_M_next l dC dI k h g ss sa so_542 pl si fa_543 li co st_476 rq_545 bl te op_544 wo le wz sr tx ro  _ (by omega) (by omega) (by omega) (by omega) (by omega) (by omega) (by omega) (by omega) (by omega) (by omega) (by omega)) (cwV 0 ht (g_V k_694 k_696 k_37 k_80 k_697) rfl rfl rfl (by decide +kernel) ⟨(Nat.le_of_ble_eq_true rfl), (Nat.le_of_ble_eq_true rfl)⟩) ⟨fb_X, va_recv hK hP (ci := 4) (q0 := 0) rfl rfl, pre_X hE hS hFc hP hK hD⟩ rfl rfl hl.1 rfl (lv_room (Nat.le_of_ble_eq_true rfl)) d_M_list_67 ⟨(Nat.le_of_ble_eq_true rfl), (Nat.le_of_ble_eq_true rfl)⟩) hS (fun q _ h9 => hFc q h9) hFc (fun u_562 t H locs het hvm hw hB hz1 hk1 hS => ?_)
                obtain ⟨sa_554, so_555, pl_556, fa_557, op_558, si_559, le_560, tx_561⟩ := u_562
                try dsimp only at hw
                obtain ⟨p_564, p_565, p_566, p_567, p_568, p_569, p_570, p_571, p_572, p_573, p_574⟩ := hw
                obtain ⟨hP1, hK1, hD1⟩ := hB
                rw [het] at hP1
                have hP : va_P (dC, dI) cls (ME h g ss sa_554 so_555 pl_556 si_559 fa_557 li co st_476 rq_545 bl te op_558 wo wz sr le_560 tx_561 ro) H := hP1
                have hD : va_D A (ME h g ss sa_554 so_555 pl_556 si_559 fa_557 li co st_476 rq_545 bl te op_558 wo wz sr le_560 tx_561 ro) := hD1.weaken (fun _ _ _ h9 => hFc _ h9)
                have rl_575 := p_574.resolve_right (by omega)
                have rl_576 := rSS rl_553 rl_575
                refine lv_iload_n hx hb d_M_list_70 rfl (lv_at hl 1 rfl) ?_
                refine lv_iconst (v := 1) hx hb d_M_list_71 (by decide) ?_
                refine lv_iadd hx hb d_M_list_72 ?_
                refine lv_istore_n (lv' := [(3, .int (n + 1)), (2, .int my), (4, .int mr), (0, .ref (h 0)), (1, .int rb)]) hx hb d_M_list_73 rfl hl (by decide) rfl (fun ls hl => ?_)
                refine lv_iload_n hx hb d_M_list_74 rfl (lv_at hl 1 rfl) ?_
                refine lv_if_eq (tgt := 91) hx hb d_M_list_75 (by decide) (fun c_577 => ?_) (fun c_577 => ?_)
                · refine lv_iconst (v := 0) hx hb d_M_list_91 (by decide) ?_
                  refine lv_istore (lv' := [(4, .int 0), (3, .int (n + 1)), (2, .int my), (0, .ref (h 0)), (1, .int rb)]) hx hb d_M_list_92 hl (by decide) rfl (fun ls hl => ?_)
                  refine lv_iload hx hb d_M_list_94 (lv_at hl 0 rfl) ?_
                  refine lv_if_eq (tgt := 20) hx hb d_M_list_96 (by decide) (fun _ => ?_) (fun cn => absurd (by decide) cn)
                  have hc_0 : Int32.toInt 0 = 0 := by decide
                  obtain ⟨ym_578a, ym_578b⟩ := PS.yd rl_576 (by omega)
                  exact ih my (n + 1) 0 sa_554 so_555 pl_556 fa_557 op_558 si_559 le_560 tx_561 st_476 rq_545 (by omega) (by omega) (Or.inl (rRS hbase rl_576)) (by omega) (by omega) (by omega) (by omega) (by omega) (by omega) (by omega) (by omega) (by omega) (by omega) _ _ ls hP hD hS (lv_sub hl [2, 1, 0, 3, 4] rfl)
                · refine lv_aload_n hx hb d_M_list_78 rfl (lv_at hl 3 rfl) ?_
                  refine lv_bipush (v := 44) hx hb d_M_list_79 (by decide) ?_
                  have hc_44 : Int32.toInt 44 = 44 := by decide
                  have hFc := va_free (wc := (ME h g ss sa_554 so_555 pl_556 si_559 fa_557 li co st_476 rq_545 bl te op_558 wo wz sr le_560 tx_561 ro)) hD hS hA [0, 1, 2, 3, 4, 5, 6] rfl
                  refine va_calli (va_runV (As := [.int 44]) (rest := []) ⟨hx, hb, hml, hown, ht⟩ (c_M_isSign l dC dI k h g ss sa_554 so_555 pl_556 si_559 fa_557 li co st_476 rq_545 bl te op_558 wo le_560 wz sr tx_561 ro 44 _ (by omega) (by omega) (by omega) (by omega) ) (cwV 1 ht (g_V k_779 k_781 k_54 k_80 k_782) rfl rfl rfl (by decide +kernel) ⟨(Nat.le_of_ble_eq_true rfl), (Nat.le_of_ble_eq_true rfl)⟩) ⟨fb_X, va_recv hK hP (ci := 4) (q0 := 0) rfl rfl, pre_X hE hS hFc hP hK hD⟩ rfl rfl hl.1 rfl (lv_room (Nat.le_of_ble_eq_true rfl)) d_M_list_81 ⟨(Nat.le_of_ble_eq_true rfl), (Nat.le_of_ble_eq_true rfl)⟩) hS (fun q _ h9 => hFc q h9) hFc (fun r_580 u_579 t H locs het hvm hw hB hz1 hk1 hS => ?_)
                  obtain ⟨p_581, p_582⟩ := hw
                  obtain ⟨hP1, hK1, hD1⟩ := hB
                  rw [het] at hP1
                  have hP : va_P (dC, dI) cls (ME h g ss sa_554 so_555 pl_556 si_559 fa_557 li co st_476 rq_545 bl te op_558 wo wz sr le_560 tx_561 ro) H := hP1
                  have hD : va_D A (ME h g ss sa_554 so_555 pl_556 si_559 fa_557 li co st_476 rq_545 bl te op_558 wo wz sr le_560 tx_561 ro) := hD1.weaken (fun _ _ _ h9 => hFc _ h9)
                  refine lv_if_eq (tgt := 91) hx hb d_M_list_84 (by decide) (fun c_583 => ?_) (fun c_583 => ?_)
                  · have dc_583 := i_eq c_583 rfl (show Int32.toInt 0 = 0 by decide)
                    refine lv_iconst (v := 0) hx hb d_M_list_91 (by decide) ?_
                    refine lv_istore (lv' := [(4, .int 0), (3, .int (n + 1)), (2, .int my), (0, .ref (h 0)), (1, .int rb)]) hx hb d_M_list_92 hl (by decide) rfl (fun ls hl => ?_)
                    refine lv_iload hx hb d_M_list_94 (lv_at hl 0 rfl) ?_
                    refine lv_if_eq (tgt := 20) hx hb d_M_list_96 (by decide) (fun _ => ?_) (fun cn => absurd (by decide) cn)
                    have hc_0 : Int32.toInt 0 = 0 := by decide
                    obtain ⟨ym_584a, ym_584b⟩ := PS.yd rl_576 (by omega)
                    exact ih my (n + 1) 0 sa_554 so_555 pl_556 fa_557 op_558 si_559 le_560 tx_561 st_476 rq_545 (by omega) (by omega) (Or.inl (rRS hbase rl_576)) (by omega) (by omega) (by omega) (by omega) (by omega) (by omega) (by omega) (by omega) (by omega) (by omega) _ _ ls hP hD hS (lv_sub hl [2, 1, 0, 3, 4] rfl)
                  · have dc_583 := i_ne c_583 rfl (show Int32.toInt 0 = 0 by decide)
                    refine lv_iconst (v := 1) hx hb d_M_list_87 (by decide) ?_
                    refine lv_goto (tgt := 92) hx hb d_M_list_88 (by decide) ?_
                    refine lv_istore (lv' := [(4, .int 1), (3, .int (n + 1)), (2, .int my), (0, .ref (h 0)), (1, .int rb)]) hx hb d_M_list_92 hl (by decide) rfl (fun ls hl => ?_)
                    refine lv_iload hx hb d_M_list_94 (lv_at hl 0 rfl) ?_
                    refine lv_if_eq (tgt := 20) hx hb d_M_list_96 (by decide) (fun cn => absurd cn (by decide)) (fun _ => ?_)
                    refine lv_aload_n hx hb d_M_list_99 rfl (lv_at hl 3 rfl) ?_
                    have hFc := va_free (wc := (ME h g ss sa_554 so_555 pl_556 si_559 fa_557 li co st_476 rq_545 bl te op_558 wo wz sr le_560 tx_561 ro)) hD hS hA [0, 1, 2, 3, 4, 5, 6] rfl
                    refine va_callv (va_runV (As := []) (rest := []) ⟨hx, hb, hml, hown, ht⟩ (c_M_next l dC dI k h g ss sa_554 so_555 pl_556 si_559 fa_557 li co st_476 rq_545 bl te op_558 wo le_560 wz sr tx_561 ro  _ (by omega) (by omega) (by omega) (by omega) (by omega) (by omega) (by omega) (by omega) (by omega) (by omega) (by omega)) (cwV 0 ht (g_V k_694 k_696 k_37 k_80 k_697) rfl rfl rfl (by decide +kernel) ⟨(Nat.le_of_ble_eq_true rfl), (Nat.le_of_ble_eq_true rfl)⟩) ⟨fb_X, va_recv hK hP (ci := 4) (q0 := 0) rfl rfl, pre_X hE hS hFc hP hK hD⟩ rfl rfl hl.1 rfl (lv_room (Nat.le_of_ble_eq_true rfl)) d_M_list_100 ⟨(Nat.le_of_ble_eq_true rfl), (Nat.le_of_ble_eq_true rfl)⟩) hS (fun q _ h9 => hFc q h9) hFc (fun u_593 t H locs het hvm hw hB hz1 hk1 hS => ?_)
                    obtain ⟨sa_585, so_586, pl_587, fa_588, op_589, si_590, le_591, tx_592⟩ := u_593
                    try dsimp only at hw
                    obtain ⟨p_595, p_596, p_597, p_598, p_599, p_600, p_601, p_602, p_603, p_604, p_605⟩ := hw
                    obtain ⟨hP1, hK1, hD1⟩ := hB
                    rw [het] at hP1
                    have hP : va_P (dC, dI) cls (ME h g ss sa_585 so_586 pl_587 si_590 fa_588 li co st_476 rq_545 bl te op_589 wo wz sr le_591 tx_592 ro) H := hP1
                    have hD : va_D A (ME h g ss sa_585 so_586 pl_587 si_590 fa_588 li co st_476 rq_545 bl te op_589 wo wz sr le_591 tx_592 ro) := hD1.weaken (fun _ _ _ h9 => hFc _ h9)
                    have rl_606 := p_605.resolve_right (by omega)
                    have rl_607 := rSS rl_576 rl_606
                    refine lv_goto (tgt := 20) hx hb d_M_list_103 (by decide) ?_
                    have hc_1 : Int32.toInt 1 = 1 := by decide
                    obtain ⟨ym_608a, ym_608b⟩ := PS.yd rl_607 (by omega)
                    exact ih my (n + 1) 1 sa_585 so_586 pl_587 fa_588 op_589 si_590 le_591 tx_592 st_476 rq_545 (by omega) (by omega) (Or.inl (rRS hbase rl_607)) (by omega) (by omega) (by omega) (by omega) (by omega) (by omega) (by omega) (by omega) (by omega) (by omega) _ _ ls hP hD hS (lv_sub hl [2, 1, 0, 3, 4] rfl)
set_option maxHeartbeats 4000000 in
set_option maxRecDepth 100000 in
theorem bd_M_list_0 {p : Program} {l : Launch} {e : Env} {s : State} {m : MethodId} {args : Array Value} {below : List Frame} {meth : Method} {c : Code} {Q : State → Prop} {A : Nat → Prop} {dC : Nat → ClassId} {dI : Nat → Nat → Nat} {k h : Nat → Nat} {g : Nat → ClassId} {ss : Int32} {li : Int32} {co : Int32} {bl : Int32} {te : Int32} {wo : Nat → Int64} {wz : Nat → Int32} {sr : Nat → Int32} {ro : Nat → Int32} {sa0 : Int32} {so0 : Int32} {fa0 : Int32} {op0 : Int32} (hx : p.tables.exec = Jvm.exec) (hb : c.code = b_M_list) (hml : c.maxLocals = 5) (hown : s.vm.findClass "SieveDeskModel" = some m.cls) (ht : ∀ w ∈ TT, w.before args s = true) (hE : KE k A s s.heap) (hA : ∀ q : Nat, s.heap.size ≤ q → A q) (hK : va_K (dC, dI) cls (TM g) s) {rb : Int32} (h_0 : 0 ≤ Int32.toInt ss) (h_1 : Int32.toInt ss ≤ 400) (fin : ∀ (u : Int32 × Int32 × Int32 × Int32 × Int32 × Int32 × (Nat → Int64) × (Nat → Int32) × Int32 × Int32) (H : Heap) (locs : List Loc) (pc : Nat) (ls : Array Slot), decode b_M_list pc = .ok (.return_, 1) → (0 ≤ Int32.toInt u.1 ∧ Int32.toInt u.1 ≤ Int32.toInt ss ∧ 0 ≤ Int32.toInt u.2.2.1 ∧ Int32.toInt u.2.2.1 ≤ 400 ∧ -1 ≤ Int32.toInt u.2.2.2.1 ∧ Int32.toInt u.2.2.2.1 ≤ 400 ∧ (Int32.toInt u.2.2.2.1 < 0 ∨ (Int32.toInt u.2.1 = 0 ∧ Int32.toInt u.2.2.2.2.1 = 0)) ∧ 0 ≤ Int32.toInt u.2.2.2.2.2.1 ∧ Int32.toInt u.2.2.2.2.2.1 ≤ 400 ∧ PS ss sa0 so0 fa0 op0 u.1 u.2.1 u.2.2.2.1 u.2.2.2.2.1) → va_P (dC, dI) cls (ME h g ss u.1 u.2.1 u.2.2.1 u.2.2.2.2.2.1 u.2.2.2.1 li co u.2.2.2.2.2.2.2.2.1 u.2.2.2.2.2.2.2.2.2 bl te u.2.2.2.2.1 wo wz sr u.2.2.2.2.2.2.1 u.2.2.2.2.2.2.2.1 ro) H → va_D A (ME h g ss u.1 u.2.1 u.2.2.1 u.2.2.2.2.2.1 u.2.2.2.1 li co u.2.2.2.2.2.2.2.2.1 u.2.2.2.2.2.2.2.2.2 bl te u.2.2.2.2.1 wo wz sr u.2.2.2.2.2.2.1 u.2.2.2.2.2.2.2.1 ro) → va_S A s.heap H locs → W p l e ({ frames := 6, cells := 0, slots := 0, locals := 127 } : Room) s m args below meth c H locs 0 0 Q (F0 m pc ls [])) : ∀ (sa : Int32) (so : Int32) (pl : Int32) (fa : Int32) (op : Int32) (si : Int32) (le : Nat → Int64) (tx : Nat → Int32) (st : Int32) (rq : Int32), sa = sa0 → so = so0 → fa = fa0 → op = op0 → 0 ≤ Int32.toInt sa → Int32.toInt sa ≤ Int32.toInt ss → 0 ≤ Int32.toInt pl → Int32.toInt pl ≤ 400 → -1 ≤ Int32.toInt fa → Int32.toInt fa ≤ 400 → (Int32.toInt fa < 0 ∨ (Int32.toInt so = 0 ∧ Int32.toInt op = 0)) → 0 ≤ Int32.toInt si → Int32.toInt si ≤ 400 → ∀ (H : Heap) (locs : List Loc) (ls : Array Slot), va_P (dC, dI) cls (ME h g ss sa so pl si fa li co st rq bl te op wo wz sr le tx ro) H → va_D A (ME h g ss sa so pl si fa li co st rq bl te op wo wz sr le tx ro) → va_S A s.heap H locs → lv_has ls 5 [(0, .ref (h 0)), (1, .int rb)] → W p l e ({ frames := 6, cells := 0, slots := 0, locals := 127 } : Room) s m args below meth c H locs 0 0 Q (F0 m 0 ls []) := by
  intro sa so pl fa op si le tx st rq v_0 v_1 v_2 v_3 v_4 v_5 v_6 v_7 v_8 v_9 v_10 v_11 v_12 H locs ls hP hD hS hl
  subst v_0
  subst v_1
  subst v_2
  subst v_3
  refine lv_aload_n hx hb d_M_list_0 rfl (lv_at hl 0 rfl) ?_
  refine lv_bipush (v := 91) hx hb d_M_list_1 (by decide) ?_
  have hc_91 : Int32.toInt 91 = 91 := by decide
  have hFc := va_free (wc := (ME h g ss sa so pl si fa li co st rq bl te op wo wz sr le tx ro)) hD hS hA [0, 1, 2, 3, 4, 5, 6] rfl
  refine va_calli (va_runV (As := [.int 91]) (rest := []) ⟨hx, hb, hml, hown, ht⟩ (c_M_isSign l dC dI k h g ss sa so pl si fa li co st rq bl te op wo le wz sr tx ro 91 _ (by omega) (by omega) (by omega) (by omega) ) (cwV 1 ht (g_V k_779 k_781 k_54 k_80 k_782) rfl rfl rfl (by decide +kernel) ⟨(Nat.le_of_ble_eq_true rfl), (Nat.le_of_ble_eq_true rfl)⟩) ⟨fb_X, va_recv hK hP (ci := 4) (q0 := 0) rfl rfl, pre_X hE hS hFc hP hK hD⟩ rfl rfl hl.1 rfl (lv_room (Nat.le_of_ble_eq_true rfl)) d_M_list_3 ⟨(Nat.le_of_ble_eq_true rfl), (Nat.le_of_ble_eq_true rfl)⟩) hS (fun q _ h9 => hFc q h9) hFc (fun r_610 u_609 t H locs het hvm hw hB hz1 hk1 hS => ?_)
  obtain ⟨p_611, p_612⟩ := hw
  obtain ⟨hP1, hK1, hD1⟩ := hB
  rw [het] at hP1
  have hP : va_P (dC, dI) cls (ME h g ss sa so pl si fa li co st rq bl te op wo wz sr le tx ro) H := hP1
  have hD : va_D A (ME h g ss sa so pl si fa li co st rq bl te op wo wz sr le tx ro) := hD1.weaken (fun _ _ _ h9 => hFc _ h9)
  refine lv_istore_n (lv' := [(2, .int r_610), (0, .ref (h 0)), (1, .int rb)]) hx hb d_M_list_6 rfl hl (by decide) rfl (fun ls hl => ?_)
  refine lv_iload_n hx hb d_M_list_7 rfl (lv_at hl 0 rfl) ?_
  refine lv_if_eq (tgt := 15) hx hb d_M_list_8 (by decide) (fun c_613 => ?_) (fun c_613 => ?_)
  · have dc_613 := i_eq c_613 rfl (show Int32.toInt 0 = 0 by decide)
    refine lv_iconst (v := 0) hx hb d_M_list_15 (by decide) ?_
    refine lv_istore_n (lv' := [(3, .int 0), (2, .int r_610), (0, .ref (h 0)), (1, .int rb)]) hx hb d_M_list_16 rfl hl (by decide) rfl (fun ls hl => ?_)
    refine lv_iconst (v := 1) hx hb d_M_list_17 (by decide) ?_
    refine lv_istore (lv' := [(4, .int 1), (3, .int 0), (2, .int r_610), (0, .ref (h 0)), (1, .int rb)]) hx hb d_M_list_18 hl (by decide) rfl (fun ls hl => ?_)
    have hc_0 : Int32.toInt 0 = 0 := by decide
    have hc_1 : Int32.toInt 1 = 1 := by decide
    exact (lp_M_list_20 (rb := rb) hx hb hml hown ht hE hA hK h_0 h_1 fin _) r_610 0 1 sa so pl fa op si le tx st rq (by omega) (by omega) (Or.inr ⟨(PR.refl (by omega)), by omega⟩) (by omega) (by omega) (by omega) (by omega) (by omega) (by omega) (by omega) (by omega) (by omega) (Nat.lt_succ_self _) _ _ ls hP hD hS (lv_sub hl [2, 1, 0, 3, 4] rfl)
  · have dc_613 := i_ne c_613 rfl (show Int32.toInt 0 = 0 by decide)
    refine lv_aload_n hx hb d_M_list_11 rfl (lv_at hl 1 rfl) ?_
    have hFc := va_free (wc := (ME h g ss sa so pl si fa li co st rq bl te op wo wz sr le tx ro)) hD hS hA [0, 1, 2, 3, 4, 5, 6] rfl
    refine va_callv (va_runV (As := []) (rest := []) ⟨hx, hb, hml, hown, ht⟩ (c_M_next l dC dI k h g ss sa so pl si fa li co st rq bl te op wo le wz sr tx ro  _ (by omega) (by omega) (by omega) (by omega) (by omega) (by omega) (by omega) (by omega) (by omega) (by omega) (by omega)) (cwV 0 ht (g_V k_694 k_696 k_37 k_80 k_697) rfl rfl rfl (by decide +kernel) ⟨(Nat.le_of_ble_eq_true rfl), (Nat.le_of_ble_eq_true rfl)⟩) ⟨fb_X, va_recv hK hP (ci := 4) (q0 := 0) rfl rfl, pre_X hE hS hFc hP hK hD⟩ rfl rfl hl.1 rfl (lv_room (Nat.le_of_ble_eq_true rfl)) d_M_list_12 ⟨(Nat.le_of_ble_eq_true rfl), (Nat.le_of_ble_eq_true rfl)⟩) hS (fun q _ h9 => hFc q h9) hFc (fun u_622 t H locs het hvm hw hB hz1 hk1 hS => ?_)
    obtain ⟨sa_614, so_615, pl_616, fa_617, op_618, si_619, le_620, tx_621⟩ := u_622
    try dsimp only at hw
    obtain ⟨p_624, p_625, p_626, p_627, p_628, p_629, p_630, p_631, p_632, p_633, p_634⟩ := hw
    obtain ⟨hP1, hK1, hD1⟩ := hB
    rw [het] at hP1
    have hP : va_P (dC, dI) cls (ME h g ss sa_614 so_615 pl_616 si_619 fa_617 li co st rq bl te op_618 wo wz sr le_620 tx_621 ro) H := hP1
    have hD : va_D A (ME h g ss sa_614 so_615 pl_616 si_619 fa_617 li co st rq bl te op_618 wo wz sr le_620 tx_621 ro) := hD1.weaken (fun _ _ _ h9 => hFc _ h9)
    have rl_635 := p_634.resolve_right (by omega)
    refine lv_iconst (v := 0) hx hb d_M_list_15 (by decide) ?_
    refine lv_istore_n (lv' := [(3, .int 0), (2, .int r_610), (0, .ref (h 0)), (1, .int rb)]) hx hb d_M_list_16 rfl hl (by decide) rfl (fun ls hl => ?_)
    refine lv_iconst (v := 1) hx hb d_M_list_17 (by decide) ?_
    refine lv_istore (lv' := [(4, .int 1), (3, .int 0), (2, .int r_610), (0, .ref (h 0)), (1, .int rb)]) hx hb d_M_list_18 hl (by decide) rfl (fun ls hl => ?_)
    have hc_0 : Int32.toInt 0 = 0 := by decide
    have hc_1 : Int32.toInt 1 = 1 := by decide
    exact (lp_M_list_20 (rb := rb) hx hb hml hown ht hE hA hK h_0 h_1 fin _) r_610 0 1 sa_614 so_615 pl_616 fa_617 op_618 si_619 le_620 tx_621 st rq (by omega) (by omega) (Or.inl rl_635) (by omega) (by omega) (by omega) (by omega) (by omega) (by omega) (by omega) (by omega) (by omega) (Nat.lt_succ_self _) _ _ ls hP hD hS (lv_sub hl [2, 1, 0, 3, 4] rfl)
set_option maxHeartbeats 4000000 in
set_option maxRecDepth 100000 in
theorem c_M_list (l : Launch) (dC : Nat → ClassId) (dI : Nat → Nat → Nat) (k : Nat → Nat) (h : Nat → Nat) (g : Nat → ClassId) (ss : Int32) (sa : Int32) (so : Int32) (pl : Int32) (si : Int32) (fa : Int32) (li : Int32) (co : Int32) (st : Int32) (rq : Int32) (bl : Int32) (te : Int32) (op : Int32) (wo : Nat → Int64) (le : Nat → Int64) (wz : Nat → Int32) (sr : Nat → Int32) (tx : Nat → Int32) (ro : Nat → Int32) (rb : Int32) (sz : Nat) (h_0 : 0 ≤ Int32.toInt ss) (h_1 : Int32.toInt ss ≤ 400) (v_0 : 0 ≤ Int32.toInt sa) (v_1 : Int32.toInt sa ≤ Int32.toInt ss) (v_2 : 0 ≤ Int32.toInt pl) (v_3 : Int32.toInt pl ≤ 400) (v_4 : -1 ≤ Int32.toInt fa) (v_5 : Int32.toInt fa ≤ 400) (v_6 : Int32.toInt fa < 0 ∨ (Int32.toInt so = 0 ∧ Int32.toInt op = 0)) (v_7 : 0 ≤ Int32.toInt si) (v_8 : Int32.toInt si ≤ 400) : Met l y_M_list (.code y_M_list b_M_list 5 none :: TT) ({ frames := 6, cells := 0, slots := 0, locals := 127 }) (va_Pc [.ref (h 0), .int rb] (PX dC dI k (TM g) (ME h g ss sa so pl si fa li co st rq bl te op wo wz sr le tx ro) sz)) (va_Qv (fun u : Int32 × Int32 × Int32 × Int32 × Int32 × Int32 × (Nat → Int64) × (Nat → Int32) × Int32 × Int32 => 0 ≤ Int32.toInt u.1 ∧ Int32.toInt u.1 ≤ Int32.toInt ss ∧ 0 ≤ Int32.toInt u.2.2.1 ∧ Int32.toInt u.2.2.1 ≤ 400 ∧ -1 ≤ Int32.toInt u.2.2.2.1 ∧ Int32.toInt u.2.2.2.1 ≤ 400 ∧ (Int32.toInt u.2.2.2.1 < 0 ∨ (Int32.toInt u.2.1 = 0 ∧ Int32.toInt u.2.2.2.2.1 = 0)) ∧ 0 ≤ Int32.toInt u.2.2.2.2.2.1 ∧ Int32.toInt u.2.2.2.2.2.1 ≤ 400 ∧ PS ss sa so fa op u.1 u.2.1 u.2.2.2.1 u.2.2.2.2.1) (fun u t => BX dC dI (TM g) (va_A (ME h g ss sa so pl si fa li co st rq bl te op wo wz sr le tx ro) sz) (ME h g ss u.1 u.2.1 u.2.2.1 u.2.2.2.2.2.1 u.2.2.2.1 li co u.2.2.2.2.2.2.2.2.1 u.2.2.2.2.2.2.2.2.2 bl te u.2.2.2.2.1 wo wz sr u.2.2.2.2.2.2.1 u.2.2.2.2.2.2.2.1 ro) t) (va_A (ME h g ss sa so pl si fa li co st rq bl te op wo wz sr le tx ro) sz)) 0 0 (va_A (ME h g ss sa so pl si fa li co st rq bl te op wo wz sr le tx ro) sz) := by
  refine Met.ofW (cc := b_M_list) (maxL := 5) (ret := none) (by decide) rfl ?_
  intro p e s m args below meth c s₁ B hml hv
  obtain ⟨rfl, hsz, hE, hP, hK, hD0⟩ := hv
  have hx := B.exec
  have hb := B.bytes
  have hr := B.returns
  have ht : ∀ w ∈ TT, w.before _ s = true := fun w hw => atoms_spec (ws := .code y_M_list b_M_list 5 none :: TT) B.pre w (List.mem_cons_of_mem _ hw)
  have hown : s.vm.findClass "SieveDeskModel" = some m.cls := findClass_of_methodNamed B.named
  have hlocks := B.notSynchronized
  subst hsz
  have hD := hD0.self (sz := s.heap.size)
  generalize hAe : va_A (ME h g ss sa so pl si fa li co st rq bl te op wo wz sr le tx ro) s.heap.size = A at hE hD ⊢
  have hA : ∀ q : Nat, s.heap.size ≤ q → A q := fun q h9 => by rw [← hAe]; exact Or.inr h9
  have hS : va_S A s.heap s.heap [] := va_S.rf
  have hl := lv_entry ([.ref (h 0), .int rb]) (n := 5) (Nat.le_of_ble_eq_true rfl)
  rw [lg_entry_eq]
  generalize (lg_sl ([.ref (h 0), .int rb]) ++ List.replicate (5 - (lg_sl ([.ref (h 0), .int rb])).length) Slot.unset).toArray = ls at hl ⊢
  have hl : lv_has ls 5 [(0, .ref (h 0)), (1, .int rb)] := hl
  exact bd_M_list_0 (rb := rb) hx hb hml hown ht hE hA hK h_0 h_1 (fun u H locs pc ls hd hp hP hD hS => W.vret hx hb hr (fun t het hW => ⟨⟨u, rfl, hp, by rw [het]; exact hP, va_K.moved hW.alike hK, hD⟩, hS.F het⟩) hS.2.2 hd) sa so pl fa op si le tx st rq rfl rfl rfl rfl v_0 v_1 v_2 v_3 v_4 v_5 v_6 v_7 v_8 _ _ ls hP hD hS hl

set_option maxHeartbeats 4000000 in
set_option maxRecDepth 100000 in
theorem lp_M_list_20 {p : Program} {l : Launch} {e : Env} {s : State} {m : MethodId} {args : Array Value} {below : List Frame} {meth : Method} {c : Code} {Q : State → Prop} {A : Nat → Prop} {dC : Nat → ClassId} {dI : Nat → Nat → Nat} {k h : Nat → Nat} {g : Nat → ClassId} {ss : Int32} {li : Int32} {co : Int32} {bl : Int32} {te : Int32} {wo : Nat → Int64} {wz : Nat → Int32} {sr : Nat → Int32} {ro : Nat → Int32} {sa0 : Int32} {so0 : Int32} {fa0 : Int32} {op0 : Int32} (hx : p.tables.exec = Jvm.exec) (hb : c.code = b_M_list) (hml : c.maxLocals = 5) (hown : s.vm.findClass "SieveDeskModel" = some m.cls) (ht : ∀ w ∈ TT, w.before args s = true) (hE : KE k A s s.heap) (hA : ∀ q : Nat, s.heap.size ≤ q → A q) (hK : va_K (dC, dI) cls (TM g) s) {rb : Int32} (h_0 : 0 ≤ Int32.toInt ss) (h_1 : Int32.toInt ss ≤ 400) (fin : ∀ (u : Int32 × Int32 × Int32 × Int32 × Int32 × Int32 × (Nat → Int64) × (Nat → Int32) × Int32 × Int32) (H : Heap) (locs : List Loc) (pc : Nat) (ls : Array Slot), decode b_M_list pc = .ok (.return_, 1) → (0 ≤ Int32.toInt u.1 ∧ Int32.toInt u.1 ≤ Int32.toInt ss ∧ 0 ≤ Int32.toInt u.2.2.1 ∧ Int32.toInt u.2.2.1 ≤ 400 ∧ -1 ≤ Int32.toInt u.2.2.2.1 ∧ Int32.toInt u.2.2.2.1 ≤ 400 ∧ (Int32.toInt u.2.2.2.1 < 0 ∨ (Int32.toInt u.2.1 = 0 ∧ Int32.toInt u.2.2.2.2.1 = 0)) ∧ 0 ≤ Int32.toInt u.2.2.2.2.2.1 ∧ Int32.toInt u.2.2.2.2.2.1 ≤ 400 ∧ PS ss sa0 so0 fa0 op0 u.1 u.2.1 u.2.2.2.1 u.2.2.2.2.1) → va_P (dC, dI) cls (ME h g ss u.1 u.2.1 u.2.2.1 u.2.2.2.2.2.1 u.2.2.2.1 li co u.2.2.2.2.2.2.2.2.1 u.2.2.2.2.2.2.2.2.2 bl te u.2.2.2.2.1 wo wz sr u.2.2.2.2.2.2.1 u.2.2.2.2.2.2.2.1 ro) H → va_D A (ME h g ss u.1 u.2.1 u.2.2.1 u.2.2.2.2.2.1 u.2.2.2.1 li co u.2.2.2.2.2.2.2.2.1 u.2.2.2.2.2.2.2.2.2 bl te u.2.2.2.2.1 wo wz sr u.2.2.2.2.2.2.1 u.2.2.2.2.2.2.2.1 ro) → va_S A s.heap H locs → W p l e ({ frames := 6, cells := 0, slots := 0, locals := 127 } : Room) s m args below meth c H locs 0 0 Q (F0 m pc ls [])) : ∀ (nn : Nat), ∀ (my : Int32) (n : Int32) (mr : Int32) (sa : Int32) (so : Int32) (pl : Int32) (fa : Int32) (op : Int32) (si : Int32) (le : Nat → Int64) (tx : Nat → Int32) (st : Int32) (rq : Int32), 0 ≤ Int32.toInt mr → Int32.toInt mr ≤ 1 → (PS ss sa0 so0 fa0 op0 sa so fa op ∨ (PR ss sa0 so0 fa0 op0 sa so fa op ∧ Int32.toInt mr = 1)) → 0 ≤ Int32.toInt sa → Int32.toInt sa ≤ Int32.toInt ss → 0 ≤ Int32.toInt pl → Int32.toInt pl ≤ 400 → -1 ≤ Int32.toInt fa → Int32.toInt fa ≤ 400 → (Int32.toInt fa < 0 ∨ (Int32.toInt so = 0 ∧ Int32.toInt op = 0)) → 0 ≤ Int32.toInt si → Int32.toInt si ≤ 400 → YY ss sa so fa < nn → ∀ (H : Heap) (locs : List Loc) (ls : Array Slot), va_P (dC, dI) cls (ME h g ss sa so pl si fa li co st rq bl te op wo wz sr le tx ro) H → va_D A (ME h g ss sa so pl si fa li co st rq bl te op wo wz sr le tx ro) → va_S A s.heap H locs → lv_has ls 5 [(2, .int my), (3, .int n), (4, .int mr), (0, .ref (h 0)), (1, .int rb)] → W p l e ({ frames := 6, cells := 0, slots := 0, locals := 127 } : Room) s m args below meth c H locs 0 0 Q (F0 m 20 ls []) := by
  intro nn
  induction nn with
  | zero =>
    intro _ _ _ _ _ _ _ _ _ _ _ _ _ _ _ _ _ _ _ _ _ _ _ _ _ hm
    exact absurd hm (Nat.not_lt_zero _)
  | succ nn ih =>
    intro my n mr sa so pl fa op si le tx st rq v_0 v_1 v_2 v_3 v_4 v_5 v_6 v_7 v_8 v_9 v_10 v_11 hm H locs ls hP hD hS hl
    have hbase : PR ss sa0 so0 fa0 op0 sa so fa op := by
      rcases v_2 with q9 | ⟨q9, _⟩
      · exact q9.pr
      · exact q9
    refine lv_iload hx hb d_M_list_20 (lv_at hl 2 rfl) ?_
    refine lv_if_eq (tgt := 106) hx hb d_M_list_22 (by decide) (fun c_1 => ?_) (fun c_1 => ?_)
    · have dc_1 := i_eq c_1 rfl (show Int32.toInt 0 = 0 by decide)
      have rl_2 : PS ss sa0 so0 fa0 op0 sa so fa op := by
        rcases v_2 with q9 | ⟨q9, q8⟩
        · exact q9
        · first | exact q9.fault (by omega) | (exfalso; omega)
      refine lv_iload_n hx hb d_M_list_106 rfl (lv_at hl 0 rfl) ?_
      refine lv_if_eq (tgt := 116) hx hb d_M_list_107 (by decide) (fun c_3 => ?_) (fun c_3 => ?_)
      · exact fin  (sa, so, pl, fa, op, si, le, tx, st, rq) _ _ _ ls d_M_list_116 ⟨(by (try dsimp only); omega), (by (try dsimp only); omega), (by (try dsimp only); omega), (by (try dsimp only); omega), (by (try dsimp only); omega), (by (try dsimp only); omega), (by (try dsimp only); omega), (by (try dsimp only); omega), (by (try dsimp only); omega), rl_2⟩ hP hD hS
      · refine lv_aload_n hx hb d_M_list_110 rfl (lv_at hl 3 rfl) ?_
        refine lv_bipush (v := 93) hx hb d_M_list_111 (by decide) ?_
        have hc_93 : Int32.toInt 93 = 93 := by decide
        have hFc := va_free (wc := (ME h g ss sa so pl si fa li co st rq bl te op wo wz sr le tx ro)) hD hS hA [0, 1, 2, 3, 4, 5, 6] rfl
        refine va_callv (va_runV (As := [.int 93]) (rest := []) ⟨hx, hb, hml, hown, ht⟩ (c_M_take l dC dI k h g ss sa so pl si fa li co st rq bl te op wo le wz sr tx ro 93 _ (by omega) (by omega) (by omega) (by omega) (by omega) (by omega) (by omega) (by omega) (by omega) (by omega) (by omega) (by omega) (by omega)) (cwV 1 ht (g_V k_791 k_793 k_57 k_80 k_794) rfl rfl rfl (by decide +kernel) ⟨(Nat.le_of_ble_eq_true rfl), (Nat.le_of_ble_eq_true rfl)⟩) ⟨fb_X, va_recv hK hP (ci := 4) (q0 := 0) rfl rfl, pre_X hE hS hFc hP hK hD⟩ rfl rfl hl.1 rfl (lv_room (Nat.le_of_ble_eq_true rfl)) d_M_list_113 ⟨(Nat.le_of_ble_eq_true rfl), (Nat.le_of_ble_eq_true rfl)⟩) hS (fun q _ h9 => hFc q h9) hFc (fun u_12 t H locs het hvm hw hB hz1 hk1 hS => ?_)
        obtain ⟨sa_4, so_5, pl_6, fa_7, op_8, si_9, le_10, tx_11⟩ := u_12
        try dsimp only at hw
        obtain ⟨p_14, p_15, p_16, p_17, p_18, p_19, p_20, p_21, p_22, p_23⟩ := hw
        obtain ⟨hP1, hK1, hD1⟩ := hB
        rw [het] at hP1
        have hP : va_P (dC, dI) cls (ME h g ss sa_4 so_5 pl_6 si_9 fa_7 li co st rq bl te op_8 wo wz sr le_10 tx_11 ro) H := hP1
        have hD : va_D A (ME h g ss sa_4 so_5 pl_6 si_9 fa_7 li co st rq bl te op_8 wo wz sr le_10 tx_11 ro) := hD1.weaken (fun _ _ _ h9 => hFc _ h9)
        exact fin  (sa_4, so_5, pl_6, fa_7, op_8, si_9, le_10, tx_11, st, rq) _ _ _ ls d_M_list_116 ⟨(by (try dsimp only); omega), (by (try dsimp only); omega), (by (try dsimp only); omega), (by (try dsimp only); omega), (by (try dsimp only); omega), (by (try dsimp only); omega), (by (try dsimp only); omega), (by (try dsimp only); omega), (by (try dsimp only); omega), (rSS rl_2 p_23)⟩ hP hD hS
    · have dc_1 := i_ne c_1 rfl (show Int32.toInt 0 = 0 by decide)
      refine lv_aload_n hx hb d_M_list_25 rfl (lv_at hl 3 rfl) ?_
      refine va_get (D := (dC, dI)) (ci := 4) (v := .int fa) (C := "SieveDeskModel") (T := F_M) (N := 19) hx hb ht i_M hown hK hP 0 rfl rfl 10 (by decide) (ht _ k_637) (fun _ h9 => h9) rfl d_M_list_26 ?_
      refine lv_if_ge (tgt := 106) hx hb d_M_list_29 (by decide) (fun c_24 => ?_) (fun c_24 => ?_)
      · have dc_24 := i_le c_24 (show Int32.toInt 0 = 0 by decide) rfl
        have rl_25 : PS ss sa0 so0 fa0 op0 sa so fa op := by
          rcases v_2 with q9 | ⟨q9, q8⟩
          · exact q9
          · first | exact q9.fault (by omega) | (exfalso; omega)
        refine lv_iload_n hx hb d_M_list_106 rfl (lv_at hl 0 rfl) ?_
        refine lv_if_eq (tgt := 116) hx hb d_M_list_107 (by decide) (fun c_26 => ?_) (fun c_26 => ?_)
        · exact fin  (sa, so, pl, fa, op, si, le, tx, st, rq) _ _ _ ls d_M_list_116 ⟨(by (try dsimp only); omega), (by (try dsimp only); omega), (by (try dsimp only); omega), (by (try dsimp only); omega), (by (try dsimp only); omega), (by (try dsimp only); omega), (by (try dsimp only); omega), (by (try dsimp only); omega), (by (try dsimp only); omega), rl_25⟩ hP hD hS
        · refine lv_aload_n hx hb d_M_list_110 rfl (lv_at hl 3 rfl) ?_
          refine lv_bipush (v := 93) hx hb d_M_list_111 (by decide) ?_
          have hc_93 : Int32.toInt 93 = 93 := by decide
          have hFc := va_free (wc := (ME h g ss sa so pl si fa li co st rq bl te op wo wz sr le tx ro)) hD hS hA [0, 1, 2, 3, 4, 5, 6] rfl
          refine va_callv (va_runV (As := [.int 93]) (rest := []) ⟨hx, hb, hml, hown, ht⟩ (c_M_take l dC dI k h g ss sa so pl si fa li co st rq bl te op wo le wz sr tx ro 93 _ (by omega) (by omega) (by omega) (by omega) (by omega) (by omega) (by omega) (by omega) (by omega) (by omega) (by omega) (by omega) (by omega)) (cwV 1 ht (g_V k_791 k_793 k_57 k_80 k_794) rfl rfl rfl (by decide +kernel) ⟨(Nat.le_of_ble_eq_true rfl), (Nat.le_of_ble_eq_true rfl)⟩) ⟨fb_X, va_recv hK hP (ci := 4) (q0 := 0) rfl rfl, pre_X hE hS hFc hP hK hD⟩ rfl rfl hl.1 rfl (lv_room (Nat.le_of_ble_eq_true rfl)) d_M_list_113 ⟨(Nat.le_of_ble_eq_true rfl), (Nat.le_of_ble_eq_true rfl)⟩) hS (fun q _ h9 => hFc q h9) hFc (fun u_35 t H locs het hvm hw hB hz1 hk1 hS => ?_)
          obtain ⟨sa_27, so_28, pl_29, fa_30, op_31, si_32, le_33, tx_34⟩ := u_35
          try dsimp only at hw
          obtain ⟨p_37, p_38, p_39, p_40, p_41, p_42, p_43, p_44, p_45, p_46⟩ := hw
          obtain ⟨hP1, hK1, hD1⟩ := hB
          rw [het] at hP1
          have hP : va_P (dC, dI) cls (ME h g ss sa_27 so_28 pl_29 si_32 fa_30 li co st rq bl te op_31 wo wz sr le_33 tx_34 ro) H := hP1
          have hD : va_D A (ME h g ss sa_27 so_28 pl_29 si_32 fa_30 li co st rq bl te op_31 wo wz sr le_33 tx_34 ro) := hD1.weaken (fun _ _ _ h9 => hFc _ h9)
          exact fin  (sa_27, so_28, pl_29, fa_30, op_31, si_32, le_33, tx_34, st, rq) _ _ _ ls d_M_list_116 ⟨(by (try dsimp only); omega), (by (try dsimp only); omega), (by (try dsimp only); omega), (by (try dsimp only); omega), (by (try dsimp only); omega), (by (try dsimp only); omega), (by (try dsimp only); omega), (by (try dsimp only); omega), (by (try dsimp only); omega), (rSS rl_25 p_46)⟩ hP hD hS
      · have dc_24 := i_nle c_24 (show Int32.toInt 0 = 0 by decide) rfl
        refine lv_iload_n hx hb d_M_list_32 rfl (lv_at hl 0 rfl) ?_
        refine lv_if_eq (tgt := 54) hx hb d_M_list_33 (by decide) (fun c_47 => ?_) (fun c_47 => ?_)
        · refine lv_aload_n hx hb d_M_list_54 rfl (lv_at hl 3 rfl) ?_
          have hFc := va_free (wc := (ME h g ss sa so pl si fa li co st rq bl te op wo wz sr le tx ro)) hD hS hA [0, 1, 2, 3, 4, 5, 6] rfl
          refine va_callv (va_runV (As := []) (rest := []) ⟨hx, hb, hml, hown, ht⟩ (c_M_string l dC dI k h g ss sa so pl si fa li co st rq bl te op wo le wz sr tx ro  _ (by omega) (by omega) (by omega) (by omega) (by omega)) (cwV 0 ht (g_V k_783 k_785 k_55 k_80 k_786) rfl rfl rfl (by decide +kernel) ⟨(Nat.le_of_ble_eq_true rfl), (Nat.le_of_ble_eq_true rfl)⟩) ⟨fb_X, va_recv hK hP (ci := 4) (q0 := 0) rfl rfl, pre_X hE hS hFc hP hK hD⟩ rfl rfl hl.1 rfl (lv_room (Nat.le_of_ble_eq_true rfl)) d_M_list_55 ⟨(Nat.le_of_ble_eq_true rfl), (Nat.le_of_ble_eq_true rfl)⟩) hS (fun q _ h9 => hFc q h9) hFc (fun u_52 t H locs het hvm hw hB hz1 hk1 hS => ?_)
          obtain ⟨so_48, fa_49, op_50, st_51⟩ := u_52
          try dsimp only at hw
          obtain ⟨p_54, p_55, p_56, p_57, p_58, p_59⟩ := hw
          obtain ⟨hP1, hK1, hD1⟩ := hB
          rw [het] at hP1
          have hP : va_P (dC, dI) cls (ME h g ss sa so_48 pl si fa_49 li co st_51 rq bl te op_50 wo wz sr le tx ro) H := hP1
          have hD : va_D A (ME h g ss sa so_48 pl si fa_49 li co st_51 rq bl te op_50 wo wz sr le tx ro) := hD1.weaken (fun _ _ _ h9 => hFc _ h9)
          refine lv_iload_n hx hb d_M_list_58 rfl (lv_at hl 4 rfl) ?_
          refine lv_if_eq (tgt := 66) hx hb d_M_list_59 (by decide) (fun c_60 => ?_) (fun c_60 => ?_)
          · refine lv_aload_n hx hb d_M_list_66 rfl (lv_at hl 3 rfl) ?_
            have hFc := va_free (wc := (ME h g ss sa so_48 pl si fa_49 li co st_51 rq bl te op_50 wo wz sr le tx ro)) hD hS hA [0, 1, 2, 3, 4, 5, 6] rfl
            refine va_callv (va_runV (As := []) (rest := []) ⟨hx, hb, hml, hown, ht⟩ (c_M_next l dC dI k h g ss sa so_48 pl si fa_49 li co st_51 rq bl te op_50 wo le wz sr tx ro  _ (by omega) (by omega) (by omega) (by omega) (by omega) (by omega) (by omega) (by omega) (by omega) (by omega) (by omega)) (cwV 0 ht (g_V k_694 k_696 k_37 k_80 k_697) rfl rfl rfl (by decide +kernel) ⟨(Nat.le_of_ble_eq_true rfl), (Nat.le_of_ble_eq_true rfl)⟩) ⟨fb_X, va_recv hK hP (ci := 4) (q0 := 0) rfl rfl, pre_X hE hS hFc hP hK hD⟩ rfl rfl hl.1 rfl (lv_room (Nat.le_of_ble_eq_true rfl)) d_M_list_67 ⟨(Nat.le_of_ble_eq_true rfl), (Nat.le_of_ble_eq_true rfl)⟩) hS (fun q _ h9 => hFc q h9) hFc (fun u_69 t H locs het hvm hw hB hz1 hk1 hS => ?_)
            obtain ⟨sa_61, so_62, pl_63, fa_64, op_65, si_66, le_67, tx_68⟩ := u_69
            try dsimp only at hw
            obtain ⟨p_71, p_72, p_73, p_74, p_75, p_76, p_77, p_78, p_79, p_80, p_81⟩ := hw
            obtain ⟨hP1, hK1, hD1⟩ := hB
            rw [het] at hP1
            have hP : va_P (dC, dI) cls (ME h g ss sa_61 so_62 pl_63 si_66 fa_64 li co st_51 rq bl te op_65 wo wz sr le_67 tx_68 ro) H := hP1
            have hD : va_D A (ME h g ss sa_61 so_62 pl_63 si_66 fa_64 li co st_51 rq bl te op_65 wo wz sr le_67 tx_68 ro) := hD1.weaken (fun _ _ _ h9 => hFc _ h9)
            have rl_82 := p_81.resolve_right (by omega)
            have rl_83 := rRS p_57 rl_82
            refine lv_iload_n hx hb d_M_list_70 rfl (lv_at hl 1 rfl) ?_
            refine lv_iconst (v := 1) hx hb d_M_list_71 (by decide) ?_
            refine lv_iadd hx hb d_M_list_72 ?_
            refine lv_istore_n (lv' := [(3, .int (n + 1)), (2, .int my), (4, .int mr), (0, .ref (h 0)), (1, .int rb)]) hx hb d_M_list_73 rfl hl (by decide) rfl (fun ls hl => ?_)
            refine lv_iload_n hx hb d_M_list_74 rfl (lv_at hl 1 rfl) ?_
            refine lv_if_eq (tgt := 91) hx hb d_M_list_75 (by decide) (fun c_84 => ?_) (fun c_84 => ?_)
            · refine lv_iconst (v := 0) hx hb d_M_list_91 (by decide) ?_
              refine lv_istore (lv' := [(4, .int 0), (3, .int (n + 1)), (2, .int my), (0, .ref (h 0)), (1, .int rb)]) hx hb d_M_list_92 hl (by decide) rfl (fun ls hl => ?_)
              refine lv_iload hx hb d_M_list_94 (lv_at hl 0 rfl) ?_
              refine lv_if_eq (tgt := 20) hx hb d_M_list_96 (by decide) (fun _ => ?_) (fun cn => absurd (by decide) cn)
              have hc_0 : Int32.toInt 0 = 0 := by decide
              obtain ⟨ym_85a, ym_85b⟩ := PS.yd rl_83 (by omega)
              exact ih my (n + 1) 0 sa_61 so_62 pl_63 fa_64 op_65 si_66 le_67 tx_68 st_51 rq (by omega) (by omega) (Or.inl (rRS hbase rl_83)) (by omega) (by omega) (by omega) (by omega) (by omega) (by omega) (by omega) (by omega) (by omega) (by omega) _ _ ls hP hD hS (lv_sub hl [2, 1, 0, 3, 4] rfl)
            · refine lv_aload_n hx hb d_M_list_78 rfl (lv_at hl 3 rfl) ?_
              refine lv_bipush (v := 44) hx hb d_M_list_79 (by decide) ?_
              have hc_44 : Int32.toInt 44 = 44 := by decide
              have hFc := va_free (wc := (ME h g ss sa_61 so_62 pl_63 si_66 fa_64 li co st_51 rq bl te op_65 wo wz sr le_67 tx_68 ro)) hD hS hA [0, 1, 2, 3, 4, 5, 6] rfl
              refine va_calli (va_runV (As := [.int 44]) (rest := []) ⟨hx, hb, hml, hown, ht⟩ (c_M_isSign l dC dI k h g ss sa_61 so_62 pl_63 si_66 fa_64 li co st_51 rq bl te op_65 wo le_67 wz sr tx_68 ro 44 _ (by omega) (by omega) (by omega) (by omega) ) (cwV 1 ht (g_V k_779 k_781 k_54 k_80 k_782) rfl rfl rfl (by decide +kernel) ⟨(Nat.le_of_ble_eq_true rfl), (Nat.le_of_ble_eq_true rfl)⟩) ⟨fb_X, va_recv hK hP (ci := 4) (q0 := 0) rfl rfl, pre_X hE hS hFc hP hK hD⟩ rfl rfl hl.1 rfl (lv_room (Nat.le_of_ble_eq_true rfl)) d_M_list_81 ⟨(Nat.le_of_ble_eq_true rfl), (Nat.le_of_ble_eq_true rfl)⟩) hS (fun q _ h9 => hFc q h9) hFc (fun r_87 u_86 t H locs het hvm hw hB hz1 hk1 hS => ?_)
              obtain ⟨p_88, p_89⟩ := hw
              obtain ⟨hP1, hK1, hD1⟩ := hB
              rw [het] at hP1
              have hP : va_P (dC, dI) cls (ME h g ss sa_61 so_62 pl_63 si_66 fa_64 li co st_51 rq bl te op_65 wo wz sr le_67 tx_68 ro) H := hP1
              have hD : va_D A (ME h g ss sa_61 so_62 pl_63 si_66 fa_64 li co st_51 rq bl te op_65 wo wz sr le_67 tx_68 ro) := hD1.weaken (fun _ _ _ h9 => hFc _ h9)
              refine lv_if_eq (tgt := 91) hx hb d_M_list_84 (by decide) (fun c_90 => ?_) (fun c_90 => ?_)
              · have dc_90 := i_eq c_90 rfl (show Int32.toInt 0 = 0 by decide)
                refine lv_iconst (v := 0) hx hb d_M_list_91 (by decide) ?_
                refine lv_istore (lv' := [(4, .int 0), (3, .int (n + 1)), (2, .int my), (0, .ref (h 0)), (1, .int rb)]) hx hb d_M_list_92 hl (by decide) rfl (fun ls hl => ?_)
                refine lv_iload hx hb d_M_list_94 (lv_at hl 0 rfl) ?_
                refine lv_if_eq (tgt := 20) hx hb d_M_list_96 (by decide) (fun _ => ?_) (fun cn => absurd (by decide) cn)
                have hc_0 : Int32.toInt 0 = 0 := by decide
                obtain ⟨ym_91a, ym_91b⟩ := PS.yd rl_83 (by omega)
                exact ih my (n + 1) 0 sa_61 so_62 pl_63 fa_64 op_65 si_66 le_67 tx_68 st_51 rq (by omega) (by omega) (Or.inl (rRS hbase rl_83)) (by omega) (by omega) (by omega) (by omega) (by omega) (by omega) (by omega) (by omega) (by omega) (by omega) _ _ ls hP hD hS (lv_sub hl [2, 1, 0, 3, 4] rfl)
              · have dc_90 := i_ne c_90 rfl (show Int32.toInt 0 = 0 by decide)
                refine lv_iconst (v := 1) hx hb d_M_list_87 (by decide) ?_
                refine lv_goto (tgt := 92) hx hb d_M_list_88 (by decide) ?_
                refine lv_istore (lv' := [(4, .int 1), (3, .int (n + 1)), (2, .int my), (0, .ref (h 0)), (1, .int rb)]) hx hb d_M_list_92 hl (by decide) rfl (fun ls hl => ?_)
                refine lv_iload hx hb d_M_list_94 (lv_at hl 0 rfl) ?_
                refine lv_if_eq (tgt := 20) hx hb d_M_list_96 (by decide) (fun cn => absurd cn (by decide)) (fun _ => ?_)
                refine lv_aload_n hx hb d_M_list_99 rfl (lv_at hl 3 rfl) ?_
                have hFc := va_free (wc := (ME h g ss sa_61 so_62 pl_63 si_66 fa_64 li co st_51 rq bl te op_65 wo wz sr le_67 tx_68 ro)) hD hS hA [0, 1, 2, 3, 4, 5, 6] rfl
                refine va_callv (va_runV (As := []) (rest := []) ⟨hx, hb, hml, hown, ht⟩ (c_M_next l dC dI k h g ss sa_61 so_62 pl_63 si_66 fa_64 li co st_51 rq bl te op_65 wo le_67 wz sr tx_68 ro  _ (by omega) (by omega) (by omega) (by omega) (by omega) (by omega) (by omega) (by omega) (by omega) (by omega) (by omega)) (cwV 0 ht (g_V k_694 k_696 k_37 k_80 k_697) rfl rfl rfl (by decide +kernel) ⟨(Nat.le_of_ble_eq_true rfl), (Nat.le_of_ble_eq_true rfl)⟩) ⟨fb_X, va_recv hK hP (ci := 4) (q0 := 0) rfl rfl, pre_X hE hS hFc hP hK hD⟩ rfl rfl hl.1 rfl (lv_room (Nat.le_of_ble_eq_true rfl)) d_M_list_100 ⟨(Nat.le_of_ble_eq_true rfl), (Nat.le_of_ble_eq_true rfl)⟩) hS (fun q _ h9 => hFc q h9) hFc (fun u_100 t H locs het hvm hw hB hz1 hk1 hS => ?_)
                obtain ⟨sa_92, so_93, pl_94, fa_95, op_96, si_97, le_98, tx_99⟩ := u_100
                try dsimp only at hw
                obtain ⟨p_102, p_103, p_104, p_105, p_106, p_107, p_108, p_109, p_110, p_111, p_112⟩ := hw
                obtain ⟨hP1, hK1, hD1⟩ := hB
                rw [het] at hP1
                have hP : va_P (dC, dI) cls (ME h g ss sa_92 so_93 pl_94 si_97 fa_95 li co st_51 rq bl te op_96 wo wz sr le_98 tx_99 ro) H := hP1
                have hD : va_D A (ME h g ss sa_92 so_93 pl_94 si_97 fa_95 li co st_51 rq bl te op_96 wo wz sr le_98 tx_99 ro) := hD1.weaken (fun _ _ _ h9 => hFc _ h9)
                have rl_113 := p_112.resolve_right (by omega)
                have rl_114 := rSS rl_83 rl_113
                refine lv_goto (tgt := 20) hx hb d_M_list_103 (by decide) ?_
                have hc_1 : Int32.toInt 1 = 1 := by decide
                obtain ⟨ym_115a, ym_115b⟩ := PS.yd rl_114 (by omega)
                exact ih my (n + 1) 1 sa_92 so_93 pl_94 fa_95 op_96 si_97 le_98 tx_99 st_51 rq (by omega) (by omega) (Or.inl (rRS hbase rl_114)) (by omega) (by omega) (by omega) (by omega) (by omega) (by omega) (by omega) (by omega) (by omega) (by omega) _ _ ls hP hD hS (lv_sub hl [2, 1, 0, 3, 4] rfl)
          · refine lv_aload_n hx hb d_M_list_62 rfl (lv_at hl 3 rfl) ?_
            have hFc := va_free (wc := (ME h g ss sa so_48 pl si fa_49 li co st_51 rq bl te op_50 wo wz sr le tx ro)) hD hS hA [0, 1, 2, 3, 4, 5, 6] rfl
            refine va_callv (va_runV (As := []) (rest := []) ⟨hx, hb, hml, hown, ht⟩ (c_M_require l dC dI k h g ss sa so_48 pl si fa_49 li co st_51 rq bl te op_50 wo le wz sr tx ro  _ (by omega) (by omega) (by omega) (by omega) (by omega)) (cwV 0 ht (g_V k_787 k_789 k_56 k_80 k_790) rfl rfl rfl (by decide +kernel) ⟨(Nat.le_of_ble_eq_true rfl), (Nat.le_of_ble_eq_true rfl)⟩) ⟨fb_X, va_recv hK hP (ci := 4) (q0 := 0) rfl rfl, pre_X hE hS hFc hP hK hD⟩ rfl rfl hl.1 rfl (lv_room (Nat.le_of_ble_eq_true rfl)) d_M_list_63 ⟨(Nat.le_of_ble_eq_true rfl), (Nat.le_of_ble_eq_true rfl)⟩) hS (fun q _ h9 => hFc q h9) hFc (fun u_120 t H locs het hvm hw hB hz1 hk1 hS => ?_)
            obtain ⟨so_116, fa_117, op_118, rq_119⟩ := u_120
            try dsimp only at hw
            obtain ⟨p_122, p_123, p_124, p_125, p_126⟩ := hw
            obtain ⟨hP1, hK1, hD1⟩ := hB
            rw [het] at hP1
            have hP : va_P (dC, dI) cls (ME h g ss sa so_116 pl si fa_117 li co st_51 rq_119 bl te op_118 wo wz sr le tx ro) H := hP1
            have hD : va_D A (ME h g ss sa so_116 pl si fa_117 li co st_51 rq_119 bl te op_118 wo wz sr le tx ro) := hD1.weaken (fun _ _ _ h9 => hFc _ h9)
            have rl_127 := rRR p_57 p_125
            refine lv_aload_n hx hb d_M_list_66 rfl (lv_at hl 3 rfl) ?_
            have hFc := va_free (wc := (ME h g ss sa so_116 pl si fa_117 li co st_51 rq_119 bl te op_118 wo wz sr le tx ro)) hD hS hA [0, 1, 2, 3, 4, 5, 6] rfl
            refine va_callv (va_runV (As := []) (rest := []) ⟨hx, hb, hml, hown, ht⟩ (c_M_next l dC dI k h g ss sa so_116 pl si fa_117 li co st_51 rq_119 bl te op_118 wo le wz sr tx ro  _ (by omega) (by omega) (by omega) (by omega) (by omega) (by omega) (by omega) (by omega) (by omega) (by omega) (by omega)) (cwV 0 ht (g_V k_694 k_696 k_37 k_80 k_697) rfl rfl rfl (by decide +kernel) ⟨(Nat.le_of_ble_eq_true rfl), (Nat.le_of_ble_eq_true rfl)⟩) ⟨fb_X, va_recv hK hP (ci := 4) (q0 := 0) rfl rfl, pre_X hE hS hFc hP hK hD⟩ rfl rfl hl.1 rfl (lv_room (Nat.le_of_ble_eq_true rfl)) d_M_list_67 ⟨(Nat.le_of_ble_eq_true rfl), (Nat.le_of_ble_eq_true rfl)⟩) hS (fun q _ h9 => hFc q h9) hFc (fun u_136 t H locs het hvm hw hB hz1 hk1 hS => ?_)
            obtain ⟨sa_128, so_129, pl_130, fa_131, op_132, si_133, le_134, tx_135⟩ := u_136
            try dsimp only at hw
            obtain ⟨p_138, p_139, p_140, p_141, p_142, p_143, p_144, p_145, p_146, p_147, p_148⟩ := hw
            obtain ⟨hP1, hK1, hD1⟩ := hB
            rw [het] at hP1
            have hP : va_P (dC, dI) cls (ME h g ss sa_128 so_129 pl_130 si_133 fa_131 li co st_51 rq_119 bl te op_132 wo wz sr le_134 tx_135 ro) H := hP1
            have hD : va_D A (ME h g ss sa_128 so_129 pl_130 si_133 fa_131 li co st_51 rq_119 bl te op_132 wo wz sr le_134 tx_135 ro) := hD1.weaken (fun _ _ _ h9 => hFc _ h9)
            have rl_149 := p_148.resolve_right (by omega)
            have rl_150 := rRS rl_127 rl_149
            refine lv_iload_n hx hb d_M_list_70 rfl (lv_at hl 1 rfl) ?_
            refine lv_iconst (v := 1) hx hb d_M_list_71 (by decide) ?_
            refine lv_iadd hx hb d_M_list_72 ?_
            refine lv_istore_n (lv' := [(3, .int (n + 1)), (2, .int my), (4, .int mr), (0, .ref (h 0)), (1, .int rb)]) hx hb d_M_list_73 rfl hl (by decide) rfl (fun ls hl => ?_)
            refine lv_iload_n hx hb d_M_list_74 rfl (lv_at hl 1 rfl) ?_
            refine lv_if_eq (tgt := 91) hx hb d_M_list_75 (by decide) (fun c_151 => ?_) (fun c_151 => ?_)
            · refine lv_iconst (v := 0) hx hb d_M_list_91 (by decide) ?_
              refine lv_istore (lv' := [(4, .int 0), (3, .int (n + 1)), (2, .int my), (0, .ref (h 0)), (1, .int rb)]) hx hb d_M_list_92 hl (by decide) rfl (fun ls hl => ?_)
              refine lv_iload hx hb d_M_list_94 (lv_at hl 0 rfl) ?_
              refine lv_if_eq (tgt := 20) hx hb d_M_list_96 (by decide) (fun _ => ?_) (fun cn => absurd (by decide) cn)
              have hc_0 : Int32.toInt 0 = 0 := by decide
              obtain ⟨ym_152a, ym_152b⟩ := PS.yd rl_150 (by omega)
              exact ih my (n + 1) 0 sa_128 so_129 pl_130 fa_131 op_132 si_133 le_134 tx_135 st_51 rq_119 (by omega) (by omega) (Or.inl (rRS hbase rl_150)) (by omega) (by omega) (by omega) (by omega) (by omega) (by omega) (by omega) (by omega) (by omega) (by omega) _ _ ls hP hD hS (lv_sub hl [2, 1, 0, 3, 4] rfl)
            · refine lv_aload_n hx hb d_M_list_78 rfl (lv_at hl 3 rfl) ?_
              refine lv_bipush (v := 44) hx hb d_M_list_79 (by decide) ?_
              have hc_44 : Int32.toInt 44 = 44 := by decide
              have hFc := va_free (wc := (ME h g ss sa_128 so_129 pl_130 si_133 fa_131 li co st_51 rq_119 bl te op_132 wo wz sr le_134 tx_135 ro)) hD hS hA [0, 1, 2, 3, 4, 5, 6] rfl
              refine va_calli (va_runV (As := [.int 44]) (rest := []) ⟨hx, hb, hml, hown, ht⟩ (c_M_isSign l dC dI k h g ss sa_128 so_129 pl_130 si_133 fa_131 li co st_51 rq_119 bl te op_132 wo le_134 wz sr tx_135 ro 44 _ (by omega) (by omega) (by omega) (by omega) ) (cwV 1 ht (g_V k_779 k_781 k_54 k_80 k_782) rfl rfl rfl (by decide +kernel) ⟨(Nat.le_of_ble_eq_true rfl), (Nat.le_of_ble_eq_true rfl)⟩) ⟨fb_X, va_recv hK hP (ci := 4) (q0 := 0) rfl rfl, pre_X hE hS hFc hP hK hD⟩ rfl rfl hl.1 rfl (lv_room (Nat.le_of_ble_eq_true rfl)) d_M_list_81 ⟨(Nat.le_of_ble_eq_true rfl), (Nat.le_of_ble_eq_true rfl)⟩) hS (fun q _ h9 => hFc q h9) hFc (fun r_154 u_153 t H locs het hvm hw hB hz1 hk1 hS => ?_)
              obtain ⟨p_155, p_156⟩ := hw
              obtain ⟨hP1, hK1, hD1⟩ := hB
              rw [het] at hP1
              have hP : va_P (dC, dI) cls (ME h g ss sa_128 so_129 pl_130 si_133 fa_131 li co st_51 rq_119 bl te op_132 wo wz sr le_134 tx_135 ro) H := hP1
              have hD : va_D A (ME h g ss sa_128 so_129 pl_130 si_133 fa_131 li co st_51 rq_119 bl te op_132 wo wz sr le_134 tx_135 ro) := hD1.weaken (fun _ _ _ h9 => hFc _ h9)
              refine lv_if_eq (tgt := 91) hx hb d_M_list_84 (by decide) (fun c_157 => ?_) (fun c_157 => ?_)
              · have dc_157 := i_eq c_157 rfl (show Int32.toInt 0 = 0 by decide)
                refine lv_iconst (v := 0) hx hb d_M_list_91 (by decide) ?_
                refine lv_istore (lv' := [(4, .int 0), (3, .int (n + 1)), (2, .int my), (0, .ref (h 0)), (1, .int rb)]) hx hb d_M_list_92 hl (by decide) rfl (fun ls hl => ?_)
                refine lv_iload hx hb d_M_list_94 (lv_at hl 0 rfl) ?_
                refine lv_if_eq (tgt := 20) hx hb d_M_list_96 (by decide) (fun _ => ?_) (fun cn => absurd (by decide) cn)
                have hc_0 : Int32.toInt 0 = 0 := by decide
                obtain ⟨ym_158a, ym_158b⟩ := PS.yd rl_150 (by omega)
                exact ih my (n + 1) 0 sa_128 so_129 pl_130 fa_131 op_132 si_133 le_134 tx_135 st_51 rq_119 (by omega) (by omega) (Or.inl (rRS hbase rl_150)) (by omega) (by omega) (by omega) (by omega) (by omega) (by omega) (by omega) (by omega) (by omega) (by omega) _ _ ls hP hD hS (lv_sub hl [2, 1, 0, 3, 4] rfl)
              · have dc_157 := i_ne c_157 rfl (show Int32.toInt 0 = 0 by decide)
                refine lv_iconst (v := 1) hx hb d_M_list_87 (by decide) ?_
                refine lv_goto (tgt := 92) hx hb d_M_list_88 (by decide) ?_
                refine lv_istore (lv' := [(4, .int 1), (3, .int (n + 1)), (2, .int my), (0, .ref (h 0)), (1, .int rb)]) hx hb d_M_list_92 hl (by decide) rfl (fun ls hl => ?_)
                refine lv_iload hx hb d_M_list_94 (lv_at hl 0 rfl) ?_
                refine lv_if_eq (tgt := 20) hx hb d_M_list_96 (by decide) (fun cn => absurd cn (by decide)) (fun _ => ?_)
                refine lv_aload_n hx hb d_M_list_99 rfl (lv_at hl 3 rfl) ?_
                have hFc := va_free (wc := (ME h g ss sa_128 so_129 pl_130 si_133 fa_131 li co st_51 rq_119 bl te op_132 wo wz sr le_134 tx_135 ro)) hD hS hA [0, 1, 2, 3, 4, 5, 6] rfl
                refine va_callv (va_runV (As := []) (rest := []) ⟨hx, hb, hml, hown, ht⟩ (c_M_next l dC dI k h g ss sa_128 so_129 pl_130 si_133 fa_131 li co st_51 rq_119 bl te op_132 wo le_134 wz sr tx_135 ro  _ (by omega) (by omega) (by omega) (by omega) (by omega) (by omega) (by omega) (by omega) (by omega) (by omega) (by omega)) (cwV 0 ht (g_V k_694 k_696 k_37 k_80 k_697) rfl rfl rfl (by decide +kernel) ⟨(Nat.le_of_ble_eq_true rfl), (Nat.le_of_ble_eq_true rfl)⟩) ⟨fb_X, va_recv hK hP (ci := 4) (q0 := 0) rfl rfl, pre_X hE hS hFc hP hK hD⟩ rfl rfl hl.1 rfl (lv_room (Nat.le_of_ble_eq_true rfl)) d_M_list_100 ⟨(Nat.le_of_ble_eq_true rfl), (Nat.le_of_ble_eq_true rfl)⟩) hS (fun q _ h9 => hFc q h9) hFc (fun u_167 t H locs het hvm hw hB hz1 hk1 hS => ?_)
                obtain ⟨sa_159, so_160, pl_161, fa_162, op_163, si_164, le_165, tx_166⟩ := u_167
                try dsimp only at hw
                obtain ⟨p_169, p_170, p_171, p_172, p_173, p_174, p_175, p_176, p_177, p_178, p_179⟩ := hw
                obtain ⟨hP1, hK1, hD1⟩ := hB
                rw [het] at hP1
                have hP : va_P (dC, dI) cls (ME h g ss sa_159 so_160 pl_161 si_164 fa_162 li co st_51 rq_119 bl te op_163 wo wz sr le_165 tx_166 ro) H := hP1
                have hD : va_D A (ME h g ss sa_159 so_160 pl_161 si_164 fa_162 li co st_51 rq_119 bl te op_163 wo wz sr le_165 tx_166 ro) := hD1.weaken (fun _ _ _ h9 => hFc _ h9)
                have rl_180 := p_179.resolve_right (by omega)
                have rl_181 := rSS rl_150 rl_180
                refine lv_goto (tgt := 20) hx hb d_M_list_103 (by decide) ?_
                have hc_1 : Int32.toInt 1 = 1 := by decide
                obtain ⟨ym_182a, ym_182b⟩ := PS.yd rl_181 (by omega)
                exact ih my (n + 1) 1 sa_159 so_160 pl_161 fa_162 op_163 si_164 le_165 tx_166 st_51 rq_119 (by omega) (by omega) (Or.inl (rRS hbase rl_181)) (by omega) (by omega) (by omega) (by omega) (by omega) (by omega) (by omega) (by omega) (by omega) (by omega) _ _ ls hP hD hS (lv_sub hl [2, 1, 0, 3, 4] rfl)
        · refine lv_aload_n hx hb d_M_list_36 rfl (lv_at hl 3 rfl) ?_
          refine lv_iconst (v := 4) hx hb d_M_list_37 (by decide) ?_
          have hc_4 : Int32.toInt 4 = 4 := by decide
          have hFc := va_free (wc := (ME h g ss sa so pl si fa li co st rq bl te op wo wz sr le tx ro)) hD hS hA [0, 1, 2, 3, 4, 5, 6] rfl
          refine va_calli (va_runV (As := [.int 4]) (rest := []) ⟨hx, hb, hml, hown, ht⟩ (c_M_is l dC dI k h g ss sa so pl si fa li co st rq bl te op wo le wz sr tx ro 4 _ (by omega) (by omega) ) (cwV 1 ht (g_V k_771 k_773 k_52 k_80 k_774) rfl rfl rfl (by decide +kernel) ⟨(Nat.le_of_ble_eq_true rfl), (Nat.le_of_ble_eq_true rfl)⟩) ⟨fb_X, va_recv hK hP (ci := 4) (q0 := 0) rfl rfl, pre_X hE hS hFc hP hK hD⟩ rfl rfl hl.1 rfl (lv_room (Nat.le_of_ble_eq_true rfl)) d_M_list_38 ⟨(Nat.le_of_ble_eq_true rfl), (Nat.le_of_ble_eq_true rfl)⟩) hS (fun q _ h9 => hFc q h9) hFc (fun r_184 u_183 t H locs het hvm hw hB hz1 hk1 hS => ?_)
          obtain ⟨p_185, p_186⟩ := hw
          obtain ⟨hP1, hK1, hD1⟩ := hB
          rw [het] at hP1
          have hP : va_P (dC, dI) cls (ME h g ss sa so pl si fa li co st rq bl te op wo wz sr le tx ro) H := hP1
          have hD : va_D A (ME h g ss sa so pl si fa li co st rq bl te op wo wz sr le tx ro) := hD1.weaken (fun _ _ _ h9 => hFc _ h9)
          refine lv_if_eq (tgt := 54) hx hb d_M_list_41 (by decide) (fun c_187 => ?_) (fun c_187 => ?_)
          · have dc_187 := i_eq c_187 rfl (show Int32.toInt 0 = 0 by decide)
            refine lv_aload_n hx hb d_M_list_54 rfl (lv_at hl 3 rfl) ?_
            have hFc := va_free (wc := (ME h g ss sa so pl si fa li co st rq bl te op wo wz sr le tx ro)) hD hS hA [0, 1, 2, 3, 4, 5, 6] rfl
            refine va_callv (va_runV (As := []) (rest := []) ⟨hx, hb, hml, hown, ht⟩ (c_M_string l dC dI k h g ss sa so pl si fa li co st rq bl te op wo le wz sr tx ro  _ (by omega) (by omega) (by omega) (by omega) (by omega)) (cwV 0 ht (g_V k_783 k_785 k_55 k_80 k_786) rfl rfl rfl (by decide +kernel) ⟨(Nat.le_of_ble_eq_true rfl), (Nat.le_of_ble_eq_true rfl)⟩) ⟨fb_X, va_recv hK hP (ci := 4) (q0 := 0) rfl rfl, pre_X hE hS hFc hP hK hD⟩ rfl rfl hl.1 rfl (lv_room (Nat.le_of_ble_eq_true rfl)) d_M_list_55 ⟨(Nat.le_of_ble_eq_true rfl), (Nat.le_of_ble_eq_true rfl)⟩) hS (fun q _ h9 => hFc q h9) hFc (fun u_192 t H locs het hvm hw hB hz1 hk1 hS => ?_)
            obtain ⟨so_188, fa_189, op_190, st_191⟩ := u_192
            try dsimp only at hw
            obtain ⟨p_194, p_195, p_196, p_197, p_198, p_199⟩ := hw
            obtain ⟨hP1, hK1, hD1⟩ := hB
            rw [het] at hP1
            have hP : va_P (dC, dI) cls (ME h g ss sa so_188 pl si fa_189 li co st_191 rq bl te op_190 wo wz sr le tx ro) H := hP1
            have hD : va_D A (ME h g ss sa so_188 pl si fa_189 li co st_191 rq bl te op_190 wo wz sr le tx ro) := hD1.weaken (fun _ _ _ h9 => hFc _ h9)
            refine lv_iload_n hx hb d_M_list_58 rfl (lv_at hl 4 rfl) ?_
            refine lv_if_eq (tgt := 66) hx hb d_M_list_59 (by decide) (fun c_200 => ?_) (fun c_200 => ?_)
            · refine lv_aload_n hx hb d_M_list_66 rfl (lv_at hl 3 rfl) ?_
              have hFc := va_free (wc := (ME h g ss sa so_188 pl si fa_189 li co st_191 rq bl te op_190 wo wz sr le tx ro)) hD hS hA [0, 1, 2, 3, 4, 5, 6] rfl
              refine va_callv (va_runV (As := []) (rest := []) ⟨hx, hb, hml, hown, ht⟩ (c_M_next l dC dI k h g ss sa so_188 pl si fa_189 li co st_191 rq bl te op_190 wo le wz sr tx ro  _ (by omega) (by omega) (by omega) (by omega) (by omega) (by omega) (by omega) (by omega) (by omega) (by omega) (by omega)) (cwV 0 ht (g_V k_694 k_696 k_37 k_80 k_697) rfl rfl rfl (by decide +kernel) ⟨(Nat.le_of_ble_eq_true rfl), (Nat.le_of_ble_eq_true rfl)⟩) ⟨fb_X, va_recv hK hP (ci := 4) (q0 := 0) rfl rfl, pre_X hE hS hFc hP hK hD⟩ rfl rfl hl.1 rfl (lv_room (Nat.le_of_ble_eq_true rfl)) d_M_list_67 ⟨(Nat.le_of_ble_eq_true rfl), (Nat.le_of_ble_eq_true rfl)⟩) hS (fun q _ h9 => hFc q h9) hFc (fun u_209 t H locs het hvm hw hB hz1 hk1 hS => ?_)
              obtain ⟨sa_201, so_202, pl_203, fa_204, op_205, si_206, le_207, tx_208⟩ := u_209
              try dsimp only at hw
              obtain ⟨p_211, p_212, p_213, p_214, p_215, p_216, p_217, p_218, p_219, p_220, p_221⟩ := hw
              obtain ⟨hP1, hK1, hD1⟩ := hB
              rw [het] at hP1
              have hP : va_P (dC, dI) cls (ME h g ss sa_201 so_202 pl_203 si_206 fa_204 li co st_191 rq bl te op_205 wo wz sr le_207 tx_208 ro) H := hP1
              have hD : va_D A (ME h g ss sa_201 so_202 pl_203 si_206 fa_204 li co st_191 rq bl te op_205 wo wz sr le_207 tx_208 ro) := hD1.weaken (fun _ _ _ h9 => hFc _ h9)
              have rl_222 := p_221.resolve_right (by omega)
              have rl_223 := rRS p_197 rl_222
              refine lv_iload_n hx hb d_M_list_70 rfl (lv_at hl 1 rfl) ?_
              refine lv_iconst (v := 1) hx hb d_M_list_71 (by decide) ?_
              refine lv_iadd hx hb d_M_list_72 ?_
              refine lv_istore_n (lv' := [(3, .int (n + 1)), (2, .int my), (4, .int mr), (0, .ref (h 0)), (1, .int rb)]) hx hb d_M_list_73 rfl hl (by decide) rfl (fun ls hl => ?_)
              refine lv_iload_n hx hb d_M_list_74 rfl (lv_at hl 1 rfl) ?_
              refine lv_if_eq (tgt := 91) hx hb d_M_list_75 (by decide) (fun c_224 => ?_) (fun c_224 => ?_)
              · refine lv_iconst (v := 0) hx hb d_M_list_91 (by decide) ?_
                refine lv_istore (lv' := [(4, .int 0), (3, .int (n + 1)), (2, .int my), (0, .ref (h 0)), (1, .int rb)]) hx hb d_M_list_92 hl (by decide) rfl (fun ls hl => ?_)
                refine lv_iload hx hb d_M_list_94 (lv_at hl 0 rfl) ?_
                refine lv_if_eq (tgt := 20) hx hb d_M_list_96 (by decide) (fun _ => ?_) (fun cn => absurd (by decide) cn)
                have hc_0 : Int32.toInt 0 = 0 := by decide
                obtain ⟨ym_225a, ym_225b⟩ := PS.yd rl_223 (by omega)
                exact ih my (n + 1) 0 sa_201 so_202 pl_203 fa_204 op_205 si_206 le_207 tx_208 st_191 rq (by omega) (by omega) (Or.inl (rRS hbase rl_223)) (by omega) (by omega) (by omega) (by omega) (by omega) (by omega) (by omega) (by omega) (by omega) (by omega) _ _ ls hP hD hS (lv_sub hl [2, 1, 0, 3, 4] rfl)
              · refine lv_aload_n hx hb d_M_list_78 rfl (lv_at hl 3 rfl) ?_
                refine lv_bipush (v := 44) hx hb d_M_list_79 (by decide) ?_
                have hc_44 : Int32.toInt 44 = 44 := by decide
                have hFc := va_free (wc := (ME h g ss sa_201 so_202 pl_203 si_206 fa_204 li co st_191 rq bl te op_205 wo wz sr le_207 tx_208 ro)) hD hS hA [0, 1, 2, 3, 4, 5, 6] rfl
                refine va_calli (va_runV (As := [.int 44]) (rest := []) ⟨hx, hb, hml, hown, ht⟩ (c_M_isSign l dC dI k h g ss sa_201 so_202 pl_203 si_206 fa_204 li co st_191 rq bl te op_205 wo le_207 wz sr tx_208 ro 44 _ (by omega) (by omega) (by omega) (by omega) ) (cwV 1 ht (g_V k_779 k_781 k_54 k_80 k_782) rfl rfl rfl (by decide +kernel) ⟨(Nat.le_of_ble_eq_true rfl), (Nat.le_of_ble_eq_true rfl)⟩) ⟨fb_X, va_recv hK hP (ci := 4) (q0 := 0) rfl rfl, pre_X hE hS hFc hP hK hD⟩ rfl rfl hl.1 rfl (lv_room (Nat.le_of_ble_eq_true rfl)) d_M_list_81 ⟨(Nat.le_of_ble_eq_true rfl), (Nat.le_of_ble_eq_true rfl)⟩) hS (fun q _ h9 => hFc q h9) hFc (fun r_227 u_226 t H locs het hvm hw hB hz1 hk1 hS => ?_)
                obtain ⟨p_228, p_229⟩ := hw
                obtain ⟨hP1, hK1, hD1⟩ := hB
                rw [het] at hP1
                have hP : va_P (dC, dI) cls (ME h g ss sa_201 so_202 pl_203 si_206 fa_204 li co st_191 rq bl te op_205 wo wz sr le_207 tx_208 ro) H := hP1
                have hD : va_D A (ME h g ss sa_201 so_202 pl_203 si_206 fa_204 li co st_191 rq bl te op_205 wo wz sr le_207 tx_208 ro) := hD1.weaken (fun _ _ _ h9 => hFc _ h9)
                refine lv_if_eq (tgt := 91) hx hb d_M_list_84 (by decide) (fun c_230 => ?_) (fun c_230 => ?_)
                · have dc_230 := i_eq c_230 rfl (show Int32.toInt 0 = 0 by decide)
                  refine lv_iconst (v := 0) hx hb d_M_list_91 (by decide) ?_
                  refine lv_istore (lv' := [(4, .int 0), (3, .int (n + 1)), (2, .int my), (0, .ref (h 0)), (1, .int rb)]) hx hb d_M_list_92 hl (by decide) rfl (fun ls hl => ?_)
                  refine lv_iload hx hb d_M_list_94 (lv_at hl 0 rfl) ?_
                  refine lv_if_eq (tgt := 20) hx hb d_M_list_96 (by decide) (fun _ => ?_) (fun cn => absurd (by decide) cn)
                  have hc_0 : Int32.toInt 0 = 0 := by decide
                  obtain ⟨ym_231a, ym_231b⟩ := PS.yd rl_223 (by omega)
                  exact ih my (n + 1) 0 sa_201 so_202 pl_203 fa_204 op_205 si_206 le_207 tx_208 st_191 rq (by omega) (by omega) (Or.inl (rRS hbase rl_223)) (by omega) (by omega) (by omega) (by omega) (by omega) (by omega) (by omega) (by omega) (by omega) (by omega) _ _ ls hP hD hS (lv_sub hl [2, 1, 0, 3, 4] rfl)
                · have dc_230 := i_ne c_230 rfl (show Int32.toInt 0 = 0 by decide)
                  refine lv_iconst (v := 1) hx hb d_M_list_87 (by decide) ?_
                  refine lv_goto (tgt := 92) hx hb d_M_list_88 (by decide) ?_
                  refine lv_istore (lv' := [(4, .int 1), (3, .int (n + 1)), (2, .int my), (0, .ref (h 0)), (1, .int rb)]) hx hb d_M_list_92 hl (by decide) rfl (fun ls hl => ?_)
                  refine lv_iload hx hb d_M_list_94 (lv_at hl 0 rfl) ?_
                  refine lv_if_eq (tgt := 20) hx hb d_M_list_96 (by decide) (fun cn => absurd cn (by decide)) (fun _ => ?_)
                  refine lv_aload_n hx hb d_M_list_99 rfl (lv_at hl 3 rfl) ?_
                  have hFc := va_free (wc := (ME h g ss sa_201 so_202 pl_203 si_206 fa_204 li co st_191 rq bl te op_205 wo wz sr le_207 tx_208 ro)) hD hS hA [0, 1, 2, 3, 4, 5, 6] rfl
                  refine va_callv (va_runV (As := []) (rest := []) ⟨hx, hb, hml, hown, ht⟩ (c_M_next l dC dI k h g ss sa_201 so_202 pl_203 si_206 fa_204 li co st_191 rq bl te op_205 wo le_207 wz sr tx_208 ro  _ (by omega) (by omega) (by omega) (by omega) (by omega) (by omega) (by omega) (by omega) (by omega) (by omega) (by omega)) (cwV 0 ht (g_V k_694 k_696 k_37 k_80 k_697) rfl rfl rfl (by decide +kernel) ⟨(Nat.le_of_ble_eq_true rfl), (Nat.le_of_ble_eq_true rfl)⟩) ⟨fb_X, va_recv hK hP (ci := 4) (q0 := 0) rfl rfl, pre_X hE hS hFc hP hK hD⟩ rfl rfl hl.1 rfl (lv_room (Nat.le_of_ble_eq_true rfl)) d_M_list_100 ⟨(Nat.le_of_ble_eq_true rfl), (Nat.le_of_ble_eq_true rfl)⟩) hS (fun q _ h9 => hFc q h9) hFc (fun u_240 t H locs het hvm hw hB hz1 hk1 hS => ?_)
                  obtain ⟨sa_232, so_233, pl_234, fa_235, op_236, si_237, le_238, tx_239⟩ := u_240
                  try dsimp only at hw
                  obtain ⟨p_242, p_243, p_244, p_245, p_246, p_247, p_248, p_249, p_250, p_251, p_252⟩ := hw
                  obtain ⟨hP1, hK1, hD1⟩ := hB
                  rw [het] at hP1
                  have hP : va_P (dC, dI) cls (ME h g ss sa_232 so_233 pl_234 si_237 fa_235 li co st_191 rq bl te op_236 wo wz sr le_238 tx_239 ro) H := hP1
                  have hD : va_D A (ME h g ss sa_232 so_233 pl_234 si_237 fa_235 li co st_191 rq bl te op_236 wo wz sr le_238 tx_239 ro) := hD1.weaken (fun _ _ _ h9 => hFc _ h9)
                  have rl_253 := p_252.resolve_right (by omega)
                  have rl_254 := rSS rl_223 rl_253
                  refine lv_goto (tgt := 20) hx hb d_M_list_103 (by decide) ?_
                  have hc_1 : Int32.toInt 1 = 1 := by decide
                  obtain ⟨ym_255a, ym_255b⟩ := PS.yd rl_254 (by omega)
                  exact ih my (n + 1) 1 sa_232 so_233 pl_234 fa_235 op_236 si_237 le_238 tx_239 st_191 rq (by omega) (by omega) (Or.inl (rRS hbase rl_254)) (by omega) (by omega) (by omega) (by omega) (by omega) (by omega) (by omega) (by omega) (by omega) (by omega) _ _ ls hP hD hS (lv_sub hl [2, 1, 0, 3, 4] rfl)
            · refine lv_aload_n hx hb d_M_list_62 rfl (lv_at hl 3 rfl) ?_
              have hFc := va_free (wc := (ME h g ss sa so_188 pl si fa_189 li co st_191 rq bl te op_190 wo wz sr le tx ro)) hD hS hA [0, 1, 2, 3, 4, 5, 6] rfl
              refine va_callv (va_runV (As := []) (rest := []) ⟨hx, hb, hml, hown, ht⟩ (c_M_require l dC dI k h g ss sa so_188 pl si fa_189 li co st_191 rq bl te op_190 wo le wz sr tx ro  _ (by omega) (by omega) (by omega) (by omega) (by omega)) (cwV 0 ht (g_V k_787 k_789 k_56 k_80 k_790) rfl rfl rfl (by decide +kernel) ⟨(Nat.le_of_ble_eq_true rfl), (Nat.le_of_ble_eq_true rfl)⟩) ⟨fb_X, va_recv hK hP (ci := 4) (q0 := 0) rfl rfl, pre_X hE hS hFc hP hK hD⟩ rfl rfl hl.1 rfl (lv_room (Nat.le_of_ble_eq_true rfl)) d_M_list_63 ⟨(Nat.le_of_ble_eq_true rfl), (Nat.le_of_ble_eq_true rfl)⟩) hS (fun q _ h9 => hFc q h9) hFc (fun u_260 t H locs het hvm hw hB hz1 hk1 hS => ?_)
              obtain ⟨so_256, fa_257, op_258, rq_259⟩ := u_260
              try dsimp only at hw
              obtain ⟨p_262, p_263, p_264, p_265, p_266⟩ := hw
              obtain ⟨hP1, hK1, hD1⟩ := hB
              rw [het] at hP1
              have hP : va_P (dC, dI) cls (ME h g ss sa so_256 pl si fa_257 li co st_191 rq_259 bl te op_258 wo wz sr le tx ro) H := hP1
              have hD : va_D A (ME h g ss sa so_256 pl si fa_257 li co st_191 rq_259 bl te op_258 wo wz sr le tx ro) := hD1.weaken (fun _ _ _ h9 => hFc _ h9)
              have rl_267 := rRR p_197 p_265
              refine lv_aload_n hx hb d_M_list_66 rfl (lv_at hl 3 rfl) ?_
              have hFc := va_free (wc := (ME h g ss sa so_256 pl si fa_257 li co st_191 rq_259 bl te op_258 wo wz sr le tx ro)) hD hS hA [0, 1, 2, 3, 4, 5, 6] rfl
              refine va_callv (va_runV (As := []) (rest := []) ⟨hx, hb, hml, hown, ht⟩ (c_M_next l dC dI k h g ss sa so_256 pl si fa_257 li co st_191 rq_259 bl te op_258 wo le wz sr tx ro  _ (by omega) (by omega) (by omega) (by omega) (by omega) (by omega) (by omega) (by omega) (by omega) (by omega) (by omega)) (cwV 0 ht (g_V k_694 k_696 k_37 k_80 k_697) rfl rfl rfl (by decide +kernel) ⟨(Nat.le_of_ble_eq_true rfl), (Nat.le_of_ble_eq_true rfl)⟩) ⟨fb_X, va_recv hK hP (ci := 4) (q0 := 0) rfl rfl, pre_X hE hS hFc hP hK hD⟩ rfl rfl hl.1 rfl (lv_room (Nat.le_of_ble_eq_true rfl)) d_M_list_67 ⟨(Nat.le_of_ble_eq_true rfl), (Nat.le_of_ble_eq_true rfl)⟩) hS (fun q _ h9 => hFc q h9) hFc (fun u_276 t H locs het hvm hw hB hz1 hk1 hS => ?_)
              obtain ⟨sa_268, so_269, pl_270, fa_271, op_272, si_273, le_274, tx_275⟩ := u_276
              try dsimp only at hw
              obtain ⟨p_278, p_279, p_280, p_281, p_282, p_283, p_284, p_285, p_286, p_287, p_288⟩ := hw
              obtain ⟨hP1, hK1, hD1⟩ := hB
              rw [het] at hP1
              have hP : va_P (dC, dI) cls (ME h g ss sa_268 so_269 pl_270 si_273 fa_271 li co st_191 rq_259 bl te op_272 wo wz sr le_274 tx_275 ro) H := hP1
              have hD : va_D A (ME h g ss sa_268 so_269 pl_270 si_273 fa_271 li co st_191 rq_259 bl te op_272 wo wz sr le_274 tx_275 ro) := hD1.weaken (fun _ _ _ h9 => hFc _ h9)
              have rl_289 := p_288.resolve_right (by omega)
              have rl_290 := rRS rl_267 rl_289
              refine lv_iload_n hx hb d_M_list_70 rfl (lv_at hl 1 rfl) ?_
              refine lv_iconst (v := 1) hx hb d_M_list_71 (by decide) ?_
              refine lv_iadd hx hb d_M_list_72 ?_
              refine lv_istore_n (lv' := [(3, .int (n + 1)), (2, .int my), (4, .int mr), (0, .ref (h 0)), (1, .int rb)]) hx hb d_M_list_73 rfl hl (by decide) rfl (fun ls hl => ?_)
              refine lv_iload_n hx hb d_M_list_74 rfl (lv_at hl 1 rfl) ?_
              refine lv_if_eq (tgt := 91) hx hb d_M_list_75 (by decide) (fun c_291 => ?_) (fun c_291 => ?_)
              · refine lv_iconst (v := 0) hx hb d_M_list_91 (by decide) ?_
                refine lv_istore (lv' := [(4, .int 0), (3, .int (n + 1)), (2, .int my), (0, .ref (h 0)), (1, .int rb)]) hx hb d_M_list_92 hl (by decide) rfl (fun ls hl => ?_)
                refine lv_iload hx hb d_M_list_94 (lv_at hl 0 rfl) ?_
                refine lv_if_eq (tgt := 20) hx hb d_M_list_96 (by decide) (fun _ => ?_) (fun cn => absurd (by decide) cn)
                have hc_0 : Int32.toInt 0 = 0 := by decide
                obtain ⟨ym_292a, ym_292b⟩ := PS.yd rl_290 (by omega)
                exact ih my (n + 1) 0 sa_268 so_269 pl_270 fa_271 op_272 si_273 le_274 tx_275 st_191 rq_259 (by omega) (by omega) (Or.inl (rRS hbase rl_290)) (by omega) (by omega) (by omega) (by omega) (by omega) (by omega) (by omega) (by omega) (by omega) (by omega) _ _ ls hP hD hS (lv_sub hl [2, 1, 0, 3, 4] rfl)
              · refine lv_aload_n hx hb d_M_list_78 rfl (lv_at hl 3 rfl) ?_
                refine lv_bipush (v := 44) hx hb d_M_list_79 (by decide) ?_
                have hc_44 : Int32.toInt 44 = 44 := by decide
                have hFc := va_free (wc := (ME h g ss sa_268 so_269 pl_270 si_273 fa_271 li co st_191 rq_259 bl te op_272 wo wz sr le_274 tx_275 ro)) hD hS hA [0, 1, 2, 3, 4, 5, 6] rfl
                refine va_calli (va_runV (As := [.int 44]) (rest := []) ⟨hx, hb, hml, hown, ht⟩ (c_M_isSign l dC dI k h g ss sa_268 so_269 pl_270 si_273 fa_271 li co st_191 rq_259 bl te op_272 wo le_274 wz sr tx_275 ro 44 _ (by omega) (by omega) (by omega) (by omega) ) (cwV 1 ht (g_V k_779 k_781 k_54 k_80 k_782) rfl rfl rfl (by decide +kernel) ⟨(Nat.le_of_ble_eq_true rfl), (Nat.le_of_ble_eq_true rfl)⟩) ⟨fb_X, va_recv hK hP (ci := 4) (q0 := 0) rfl rfl, pre_X hE hS hFc hP hK hD⟩ rfl rfl hl.1 rfl (lv_room (Nat.le_of_ble_eq_true rfl)) d_M_list_81 ⟨(Nat.le_of_ble_eq_true rfl), (Nat.le_of_ble_eq_true rfl)⟩) hS (fun q _ h9 => hFc q h9) hFc (fun r_294 u_293 t H locs het hvm hw hB hz1 hk1 hS => ?_)
                obtain ⟨p_295, p_296⟩ := hw
                obtain ⟨hP1, hK1, hD1⟩ := hB
                rw [het] at hP1
                have hP : va_P (dC, dI) cls (ME h g ss sa_268 so_269 pl_270 si_273 fa_271 li co st_191 rq_259 bl te op_272 wo wz sr le_274 tx_275 ro) H := hP1
                have hD : va_D A (ME h g ss sa_268 so_269 pl_270 si_273 fa_271 li co st_191 rq_259 bl te op_272 wo wz sr le_274 tx_275 ro) := hD1.weaken (fun _ _ _ h9 => hFc _ h9)
                refine lv_if_eq (tgt := 91) hx hb d_M_list_84 (by decide) (fun c_297 => ?_) (fun c_297 => ?_)
                · have dc_297 := i_eq c_297 rfl (show Int32.toInt 0 = 0 by decide)
                  refine lv_iconst (v := 0) hx hb d_M_list_91 (by decide) ?_
                  refine lv_istore (lv' := [(4, .int 0), (3, .int (n + 1)), (2, .int my), (0, .ref (h 0)), (1, .int rb)]) hx hb d_M_list_92 hl (by decide) rfl (fun ls hl => ?_)
                  refine lv_iload hx hb d_M_list_94 (lv_at hl 0 rfl) ?_
                  refine lv_if_eq (tgt := 20) hx hb d_M_list_96 (by decide) (fun _ => ?_) (fun cn => absurd (by decide) cn)
                  have hc_0 : Int32.toInt 0 = 0 := by decide
                  obtain ⟨ym_298a, ym_298b⟩ := PS.yd rl_290 (by omega)
                  exact ih my (n + 1) 0 sa_268 so_269 pl_270 fa_271 op_272 si_273 le_274 tx_275 st_191 rq_259 (by omega) (by omega) (Or.inl (rRS hbase rl_290)) (by omega) (by omega) (by omega) (by omega) (by omega) (by omega) (by omega) (by omega) (by omega) (by omega) _ _ ls hP hD hS (lv_sub hl [2, 1, 0, 3, 4] rfl)
                · have dc_297 := i_ne c_297 rfl (show Int32.toInt 0 = 0 by decide)
                  refine lv_iconst (v := 1) hx hb d_M_list_87 (by decide) ?_
                  refine lv_goto (tgt := 92) hx hb d_M_list_88 (by decide) ?_
                  refine lv_istore (lv' := [(4, .int 1), (3, .int (n + 1)), (2, .int my), (0, .ref (h 0)), (1, .int rb)]) hx hb d_M_list_92 hl (by decide) rfl (fun ls hl => ?_)
                  refine lv_iload hx hb d_M_list_94 (lv_at hl 0 rfl) ?_
                  refine lv_if_eq (tgt := 20) hx hb d_M_list_96 (by decide) (fun cn => absurd cn (by decide)) (fun _ => ?_)
                  refine lv_aload_n hx hb d_M_list_99 rfl (lv_at hl 3 rfl) ?_
                  have hFc := va_free (wc := (ME h g ss sa_268 so_269 pl_270 si_273 fa_271 li co st_191 rq_259 bl te op_272 wo wz sr le_274 tx_275 ro)) hD hS hA [0, 1, 2, 3, 4, 5, 6] rfl
                  refine va_callv (va_runV (As := []) (rest := []) ⟨hx, hb, hml, hown, ht⟩ (c_M_next l dC dI k h g ss sa_268 so_269 pl_270 si_273 fa_271 li co st_191 rq_259 bl te op_272 wo le_274 wz sr tx_275 ro  _ (by omega) (by omega) (by omega) (by omega) (by omega) (by omega) (by omega) (by omega) (by omega) (by omega) (by omega)) (cwV 0 ht (g_V k_694 k_696 k_37 k_80 k_697) rfl rfl rfl (by decide +kernel) ⟨(Nat.le_of_ble_eq_true rfl), (Nat.le_of_ble_eq_true rfl)⟩) ⟨fb_X, va_recv hK hP (ci := 4) (q0 := 0) rfl rfl, pre_X hE hS hFc hP hK hD⟩ rfl rfl hl.1 rfl (lv_room (Nat.le_of_ble_eq_true rfl)) d_M_list_100 ⟨(Nat.le_of_ble_eq_true rfl), (Nat.le_of_ble_eq_true rfl)⟩) hS (fun q _ h9 => hFc q h9) hFc (fun u_307 t H locs het hvm hw hB hz1 hk1 hS => ?_)
                  obtain ⟨sa_299, so_300, pl_301, fa_302, op_303, si_304, le_305, tx_306⟩ := u_307
                  try dsimp only at hw
                  obtain ⟨p_309, p_310, p_311, p_312, p_313, p_314, p_315, p_316, p_317, p_318, p_319⟩ := hw
                  obtain ⟨hP1, hK1, hD1⟩ := hB
                  rw [het] at hP1
                  have hP : va_P (dC, dI) cls (ME h g ss sa_299 so_300 pl_301 si_304 fa_302 li co st_191 rq_259 bl te op_303 wo wz sr le_305 tx_306 ro) H := hP1
                  have hD : va_D A (ME h g ss sa_299 so_300 pl_301 si_304 fa_302 li co st_191 rq_259 bl te op_303 wo wz sr le_305 tx_306 ro) := hD1.weaken (fun _ _ _ h9 => hFc _ h9)
                  have rl_320 := p_319.resolve_right (by omega)
                  have rl_321 := rSS rl_290 rl_320
                  refine lv_goto (tgt := 20) hx hb d_M_list_103 (by decide) ?_
                  have hc_1 : Int32.toInt 1 = 1 := by decide
                  obtain ⟨ym_322a, ym_322b⟩ := PS.yd rl_321 (by omega)
                  exact ih my (n + 1) 1 sa_299 so_300 pl_301 fa_302 op_303 si_304 le_305 tx_306 st_191 rq_259 (by omega) (by omega) (Or.inl (rRS hbase rl_321)) (by omega) (by omega) (by omega) (by omega) (by omega) (by omega) (by omega) (by omega) (by omega) (by omega) _ _ ls hP hD hS (lv_sub hl [2, 1, 0, 3, 4] rfl)
          · have dc_187 := i_ne c_187 rfl (show Int32.toInt 0 = 0 by decide)
            refine lv_iload_n hx hb d_M_list_44 rfl (lv_at hl 1 rfl) ?_
            refine lv_bipush (v := 10) hx hb d_M_list_45 (by decide) ?_
            refine lv_icmp_ne (tgt := 54) hx hb d_M_list_47 (by decide) (fun c_323 => ?_) (fun c_323 => ?_)
            · refine lv_aload_n hx hb d_M_list_54 rfl (lv_at hl 3 rfl) ?_
              have hFc := va_free (wc := (ME h g ss sa so pl si fa li co st rq bl te op wo wz sr le tx ro)) hD hS hA [0, 1, 2, 3, 4, 5, 6] rfl
              refine va_callv (va_runV (As := []) (rest := []) ⟨hx, hb, hml, hown, ht⟩ (c_M_string l dC dI k h g ss sa so pl si fa li co st rq bl te op wo le wz sr tx ro  _ (by omega) (by omega) (by omega) (by omega) (by omega)) (cwV 0 ht (g_V k_783 k_785 k_55 k_80 k_786) rfl rfl rfl (by decide +kernel) ⟨(Nat.le_of_ble_eq_true rfl), (Nat.le_of_ble_eq_true rfl)⟩) ⟨fb_X, va_recv hK hP (ci := 4) (q0 := 0) rfl rfl, pre_X hE hS hFc hP hK hD⟩ rfl rfl hl.1 rfl (lv_room (Nat.le_of_ble_eq_true rfl)) d_M_list_55 ⟨(Nat.le_of_ble_eq_true rfl), (Nat.le_of_ble_eq_true rfl)⟩) hS (fun q _ h9 => hFc q h9) hFc (fun u_328 t H locs het hvm hw hB hz1 hk1 hS => ?_)
              obtain ⟨so_324, fa_325, op_326, st_327⟩ := u_328
              try dsimp only at hw
              obtain ⟨p_330, p_331, p_332, p_333, p_334, p_335⟩ := hw
              obtain ⟨hP1, hK1, hD1⟩ := hB
              rw [het] at hP1
              have hP : va_P (dC, dI) cls (ME h g ss sa so_324 pl si fa_325 li co st_327 rq bl te op_326 wo wz sr le tx ro) H := hP1
              have hD : va_D A (ME h g ss sa so_324 pl si fa_325 li co st_327 rq bl te op_326 wo wz sr le tx ro) := hD1.weaken (fun _ _ _ h9 => hFc _ h9)
              refine lv_iload_n hx hb d_M_list_58 rfl (lv_at hl 4 rfl) ?_
              refine lv_if_eq (tgt := 66) hx hb d_M_list_59 (by decide) (fun c_336 => ?_) (fun c_336 => ?_)
              · refine lv_aload_n hx hb d_M_list_66 rfl (lv_at hl 3 rfl) ?_
                have hFc := va_free (wc := (ME h g ss sa so_324 pl si fa_325 li co st_327 rq bl te op_326 wo wz sr le tx ro)) hD hS hA [0, 1, 2, 3, 4, 5, 6] rfl
                refine va_callv (va_runV (As := []) (rest := []) ⟨hx, hb, hml, hown, ht⟩ (c_M_next l dC dI k h g ss sa so_324 pl si fa_325 li co st_327 rq bl te op_326 wo le wz sr tx ro  _ (by omega) (by omega) (by omega) (by omega) (by omega) (by omega) (by omega) (by omega) (by omega) (by omega) (by omega)) (cwV 0 ht (g_V k_694 k_696 k_37 k_80 k_697) rfl rfl rfl (by decide +kernel) ⟨(Nat.le_of_ble_eq_true rfl), (Nat.le_of_ble_eq_true rfl)⟩) ⟨fb_X, va_recv hK hP (ci := 4) (q0 := 0) rfl rfl, pre_X hE hS hFc hP hK hD⟩ rfl rfl hl.1 rfl (lv_room (Nat.le_of_ble_eq_true rfl)) d_M_list_67 ⟨(Nat.le_of_ble_eq_true rfl), (Nat.le_of_ble_eq_true rfl)⟩) hS (fun q _ h9 => hFc q h9) hFc (fun u_345 t H locs het hvm hw hB hz1 hk1 hS => ?_)
                obtain ⟨sa_337, so_338, pl_339, fa_340, op_341, si_342, le_343, tx_344⟩ := u_345
                try dsimp only at hw
                obtain ⟨p_347, p_348, p_349, p_350, p_351, p_352, p_353, p_354, p_355, p_356, p_357⟩ := hw
                obtain ⟨hP1, hK1, hD1⟩ := hB
                rw [het] at hP1
                have hP : va_P (dC, dI) cls (ME h g ss sa_337 so_338 pl_339 si_342 fa_340 li co st_327 rq bl te op_341 wo wz sr le_343 tx_344 ro) H := hP1
                have hD : va_D A (ME h g ss sa_337 so_338 pl_339 si_342 fa_340 li co st_327 rq bl te op_341 wo wz sr le_343 tx_344 ro) := hD1.weaken (fun _ _ _ h9 => hFc _ h9)
                have rl_358 := p_357.resolve_right (by omega)
                have rl_359 := rRS p_333 rl_358
                refine lv_iload_n hx hb d_M_list_70 rfl (lv_at hl 1 rfl) ?_
                refine lv_iconst (v := 1) hx hb d_M_list_71 (by decide) ?_
                refine lv_iadd hx hb d_M_list_72 ?_
                refine lv_istore_n (lv' := [(3, .int (n + 1)), (2, .int my), (4, .int mr), (0, .ref (h 0)), (1, .int rb)]) hx hb d_M_list_73 rfl hl (by decide) rfl (fun ls hl => ?_)
                refine lv_iload_n hx hb d_M_list_74 rfl (lv_at hl 1 rfl) ?_
                refine lv_if_eq (tgt := 91) hx hb d_M_list_75 (by decide) (fun c_360 => ?_) (fun c_360 => ?_)
                · refine lv_iconst (v := 0) hx hb d_M_list_91 (by decide) ?_
                  refine lv_istore (lv' := [(4, .int 0), (3, .int (n + 1)), (2, .int my), (0, .ref (h 0)), (1, .int rb)]) hx hb d_M_list_92 hl (by decide) rfl (fun ls hl => ?_)
                  refine lv_iload hx hb d_M_list_94 (lv_at hl 0 rfl) ?_
                  refine lv_if_eq (tgt := 20) hx hb d_M_list_96 (by decide) (fun _ => ?_) (fun cn => absurd (by decide) cn)
                  have hc_0 : Int32.toInt 0 = 0 := by decide
                  obtain ⟨ym_361a, ym_361b⟩ := PS.yd rl_359 (by omega)
                  exact ih my (n + 1) 0 sa_337 so_338 pl_339 fa_340 op_341 si_342 le_343 tx_344 st_327 rq (by omega) (by omega) (Or.inl (rRS hbase rl_359)) (by omega) (by omega) (by omega) (by omega) (by omega) (by omega) (by omega) (by omega) (by omega) (by omega) _ _ ls hP hD hS (lv_sub hl [2, 1, 0, 3, 4] rfl)
                · refine lv_aload_n hx hb d_M_list_78 rfl (lv_at hl 3 rfl) ?_
                  refine lv_bipush (v := 44) hx hb d_M_list_79 (by decide) ?_
                  have hc_44 : Int32.toInt 44 = 44 := by decide
                  have hFc := va_free (wc := (ME h g ss sa_337 so_338 pl_339 si_342 fa_340 li co st_327 rq bl te op_341 wo wz sr le_343 tx_344 ro)) hD hS hA [0, 1, 2, 3, 4, 5, 6] rfl
                  refine va_calli (va_runV (As := [.int 44]) (rest := []) ⟨hx, hb, hml, hown, ht⟩ (c_M_isSign l dC dI k h g ss sa_337 so_338 pl_339 si_342 fa_340 li co st_327 rq bl te op_341 wo le_343 wz sr tx_344 ro 44 _ (by omega) (by omega) (by omega) (by omega) ) (cwV 1 ht (g_V k_779 k_781 k_54 k_80 k_782) rfl rfl rfl (by decide +kernel) ⟨(Nat.le_of_ble_eq_true rfl), (Nat.le_of_ble_eq_true rfl)⟩) ⟨fb_X, va_recv hK hP (ci := 4) (q0 := 0) rfl rfl, pre_X hE hS hFc hP hK hD⟩ rfl rfl hl.1 rfl (lv_room (Nat.le_of_ble_eq_true rfl)) d_M_list_81 ⟨(Nat.le_of_ble_eq_true rfl), (Nat.le_of_ble_eq_true rfl)⟩) hS (fun q _ h9 => hFc q h9) hFc (fun r_363 u_362 t H locs het hvm hw hB hz1 hk1 hS => ?_)
                  obtain ⟨p_364, p_365⟩ := hw
                  obtain ⟨hP1, hK1, hD1⟩ := hB
                  rw [het] at hP1
                  have hP : va_P (dC, dI) cls (ME h g ss sa_337 so_338 pl_339 si_342 fa_340 li co st_327 rq bl te op_341 wo wz sr le_343 tx_344 ro) H := hP1
                  have hD : va_D A (ME h g ss sa_337 so_338 pl_339 si_342 fa_340 li co st_327 rq bl te op_341 wo wz sr le_343 tx_344 ro) := hD1.weaken (fun _ _ _ h9 => hFc _ h9)
                  refine lv_if_eq (tgt := 91) hx hb d_M_list_84 (by decide) (fun c_366 => ?_) (fun c_366 => ?_)
                  · have dc_366 := i_eq c_366 rfl (show Int32.toInt 0 = 0 by decide)
                    refine lv_iconst (v := 0) hx hb d_M_list_91 (by decide) ?_
                    refine lv_istore (lv' := [(4, .int 0), (3, .int (n + 1)), (2, .int my), (0, .ref (h 0)), (1, .int rb)]) hx hb d_M_list_92 hl (by decide) rfl (fun ls hl => ?_)
                    refine lv_iload hx hb d_M_list_94 (lv_at hl 0 rfl) ?_
                    refine lv_if_eq (tgt := 20) hx hb d_M_list_96 (by decide) (fun _ => ?_) (fun cn => absurd (by decide) cn)
                    have hc_0 : Int32.toInt 0 = 0 := by decide
                    obtain ⟨ym_367a, ym_367b⟩ := PS.yd rl_359 (by omega)
                    exact ih my (n + 1) 0 sa_337 so_338 pl_339 fa_340 op_341 si_342 le_343 tx_344 st_327 rq (by omega) (by omega) (Or.inl (rRS hbase rl_359)) (by omega) (by omega) (by omega) (by omega) (by omega) (by omega) (by omega) (by omega) (by omega) (by omega) _ _ ls hP hD hS (lv_sub hl [2, 1, 0, 3, 4] rfl)
                  · have dc_366 := i_ne c_366 rfl (show Int32.toInt 0 = 0 by decide)
                    refine lv_iconst (v := 1) hx hb d_M_list_87 (by decide) ?_
                    refine lv_goto (tgt := 92) hx hb d_M_list_88 (by decide) ?_
                    refine lv_istore (lv' := [(4, .int 1), (3, .int (n + 1)), (2, .int my), (0, .ref (h 0)), (1, .int rb)]) hx hb d_M_list_92 hl (by decide) rfl (fun ls hl => ?_)
                    refine lv_iload hx hb d_M_list_94 (lv_at hl 0 rfl) ?_
                    refine lv_if_eq (tgt := 20) hx hb d_M_list_96 (by decide) (fun cn => absurd cn (by decide)) (fun _ => ?_)
                    refine lv_aload_n hx hb d_M_list_99 rfl (lv_at hl 3 rfl) ?_
                    have hFc := va_free (wc := (ME h g ss sa_337 so_338 pl_339 si_342 fa_340 li co st_327 rq bl te op_341 wo wz sr le_343 tx_344 ro)) hD hS hA [0, 1, 2, 3, 4, 5, 6] rfl
                    refine va_callv (va_runV (As := []) (rest := []) ⟨hx, hb, hml, hown, ht⟩ (c_M_next l dC dI k h g ss sa_337 so_338 pl_339 si_342 fa_340 li co st_327 rq bl te op_341 wo le_343 wz sr tx_344 ro  _ (by omega) (by omega) (by omega) (by omega) (by omega) (by omega) (by omega) (by omega) (by omega) (by omega) (by omega)) (cwV 0 ht (g_V k_694 k_696 k_37 k_80 k_697) rfl rfl rfl (by decide +kernel) ⟨(Nat.le_of_ble_eq_true rfl), (Nat.le_of_ble_eq_true rfl)⟩) ⟨fb_X, va_recv hK hP (ci := 4) (q0 := 0) rfl rfl, pre_X hE hS hFc hP hK hD⟩ rfl rfl hl.1 rfl (lv_room (Nat.le_of_ble_eq_true rfl)) d_M_list_100 ⟨(Nat.le_of_ble_eq_true rfl), (Nat.le_of_ble_eq_true rfl)⟩) hS (fun q _ h9 => hFc q h9) hFc (fun u_376 t H locs het hvm hw hB hz1 hk1 hS => ?_)
                    obtain ⟨sa_368, so_369, pl_370, fa_371, op_372, si_373, le_374, tx_375⟩ := u_376
                    try dsimp only at hw
                    obtain ⟨p_378, p_379, p_380, p_381, p_382, p_383, p_384, p_385, p_386, p_387, p_388⟩ := hw
                    obtain ⟨hP1, hK1, hD1⟩ := hB
                    rw [het] at hP1
                    have hP : va_P (dC, dI) cls (ME h g ss sa_368 so_369 pl_370 si_373 fa_371 li co st_327 rq bl te op_372 wo wz sr le_374 tx_375 ro) H := hP1
                    have hD : va_D A (ME h g ss sa_368 so_369 pl_370 si_373 fa_371 li co st_327 rq bl te op_372 wo wz sr le_374 tx_375 ro) := hD1.weaken (fun _ _ _ h9 => hFc _ h9)
                    have rl_389 := p_388.resolve_right (by omega)
                    have rl_390 := rSS rl_359 rl_389
                    refine lv_goto (tgt := 20) hx hb d_M_list_103 (by decide) ?_
                    have hc_1 : Int32.toInt 1 = 1 := by decide
                    obtain ⟨ym_391a, ym_391b⟩ := PS.yd rl_390 (by omega)
                    exact ih my (n + 1) 1 sa_368 so_369 pl_370 fa_371 op_372 si_373 le_374 tx_375 st_327 rq (by omega) (by omega) (Or.inl (rRS hbase rl_390)) (by omega) (by omega) (by omega) (by omega) (by omega) (by omega) (by omega) (by omega) (by omega) (by omega) _ _ ls hP hD hS (lv_sub hl [2, 1, 0, 3, 4] rfl)
              · refine lv_aload_n hx hb d_M_list_62 rfl (lv_at hl 3 rfl) ?_
                have hFc := va_free (wc := (ME h g ss sa so_324 pl si fa_325 li co st_327 rq bl te op_326 wo wz sr le tx ro)) hD hS hA [0, 1, 2, 3, 4, 5, 6] rfl
                refine va_callv (va_runV (As := []) (rest := []) ⟨hx, hb, hml, hown, ht⟩ (c_M_require l dC dI k h g ss sa so_324 pl si fa_325 li co st_327 rq bl te op_326 wo le wz sr tx ro  _ (by omega) (by omega) (by omega) (by omega) (by omega)) (cwV 0 ht (g_V k_787 k_789 k_56 k_80 k_790) rfl rfl rfl (by decide +kernel) ⟨(Nat.le_of_ble_eq_true rfl), (Nat.le_of_ble_eq_true rfl)⟩) ⟨fb_X, va_recv hK hP (ci := 4) (q0 := 0) rfl rfl, pre_X hE hS hFc hP hK hD⟩ rfl rfl hl.1 rfl (lv_room (Nat.le_of_ble_eq_true rfl)) d_M_list_63 ⟨(Nat.le_of_ble_eq_true rfl), (Nat.le_of_ble_eq_true rfl)⟩) hS (fun q _ h9 => hFc q h9) hFc (fun u_396 t H locs het hvm hw hB hz1 hk1 hS => ?_)
                obtain ⟨so_392, fa_393, op_394, rq_395⟩ := u_396
                try dsimp only at hw
                obtain ⟨p_398, p_399, p_400, p_401, p_402⟩ := hw
                obtain ⟨hP1, hK1, hD1⟩ := hB
                rw [het] at hP1
                have hP : va_P (dC, dI) cls (ME h g ss sa so_392 pl si fa_393 li co st_327 rq_395 bl te op_394 wo wz sr le tx ro) H := hP1
                have hD : va_D A (ME h g ss sa so_392 pl si fa_393 li co st_327 rq_395 bl te op_394 wo wz sr le tx ro) := hD1.weaken (fun _ _ _ h9 => hFc _ h9)
                have rl_403 := rRR p_333 p_401
                refine lv_aload_n hx hb d_M_list_66 rfl (lv_at hl 3 rfl) ?_
                have hFc := va_free (wc := (ME h g ss sa so_392 pl si fa_393 li co st_327 rq_395 bl te op_394 wo wz sr le tx ro)) hD hS hA [0, 1, 2, 3, 4, 5, 6] rfl
                refine va_callv (va_runV (As := []) (rest := []) ⟨hx, hb, hml, hown, ht⟩ (c_M_next l dC dI k h g ss sa so_392 pl si fa_393 li co st_327 rq_395 bl te op_394 wo le wz sr tx ro  _ (by omega) (by omega) (by omega) (by omega) (by omega) (by omega) (by omega) (by omega) (by omega) (by omega) (by omega)) (cwV 0 ht (g_V k_694 k_696 k_37 k_80 k_697) rfl rfl rfl (by decide +kernel) ⟨(Nat.le_of_ble_eq_true rfl), (Nat.le_of_ble_eq_true rfl)⟩) ⟨fb_X, va_recv hK hP (ci := 4) (q0 := 0) rfl rfl, pre_X hE hS hFc hP hK hD⟩ rfl rfl hl.1 rfl (lv_room (Nat.le_of_ble_eq_true rfl)) d_M_list_67 ⟨(Nat.le_of_ble_eq_true rfl), (Nat.le_of_ble_eq_true rfl)⟩) hS (fun q _ h9 => hFc q h9) hFc (fun u_412 t H locs het hvm hw hB hz1 hk1 hS => ?_)
                obtain ⟨sa_404, so_405, pl_406, fa_407, op_408, si_409, le_410, tx_411⟩ := u_412
                try dsimp only at hw
                obtain ⟨p_414, p_415, p_416, p_417, p_418, p_419, p_420, p_421, p_422, p_423, p_424⟩ := hw
                obtain ⟨hP1, hK1, hD1⟩ := hB
                rw [het] at hP1
                have hP : va_P (dC, dI) cls (ME h g ss sa_404 so_405 pl_406 si_409 fa_407 li co st_327 rq_395 bl te op_408 wo wz sr le_410 tx_411 ro) H := hP1
                have hD : va_D A (ME h g ss sa_404 so_405 pl_406 si_409 fa_407 li co st_327 rq_395 bl te op_408 wo wz sr le_410 tx_411 ro) := hD1.weaken (fun _ _ _ h9 => hFc _ h9)
                have rl_425 := p_424.resolve_right (by omega)
                have rl_426 := rRS rl_403 rl_425
                refine lv_iload_n hx hb d_M_list_70 rfl (lv_at hl 1 rfl) ?_
                refine lv_iconst (v := 1) hx hb d_M_list_71 (by decide) ?_
                refine lv_iadd hx hb d_M_list_72 ?_
                refine lv_istore_n (lv' := [(3, .int (n + 1)), (2, .int my), (4, .int mr), (0, .ref (h 0)), (1, .int rb)]) hx hb d_M_list_73 rfl hl (by decide) rfl (fun ls hl => ?_)
                refine lv_iload_n hx hb d_M_list_74 rfl (lv_at hl 1 rfl) ?_
                refine lv_if_eq (tgt := 91) hx hb d_M_list_75 (by decide) (fun c_427 => ?_) (fun c_427 => ?_)
                · refine lv_iconst (v := 0) hx hb d_M_list_91 (by decide) ?_
                  refine lv_istore (lv' := [(4, .int 0), (3, .int (n + 1)), (2, .int my), (0, .ref (h 0)), (1, .int rb)]) hx hb d_M_list_92 hl (by decide) rfl (fun ls hl => ?_)
                  refine lv_iload hx hb d_M_list_94 (lv_at hl 0 rfl) ?_
                  refine lv_if_eq (tgt := 20) hx hb d_M_list_96 (by decide) (fun _ => ?_) (fun cn => absurd (by decide) cn)
                  have hc_0 : Int32.toInt 0 = 0 := by decide
                  obtain ⟨ym_428a, ym_428b⟩ := PS.yd rl_426 (by omega)
                  exact ih my (n + 1) 0 sa_404 so_405 pl_406 fa_407 op_408 si_409 le_410 tx_411 st_327 rq_395 (by omega) (by omega) (Or.inl (rRS hbase rl_426)) (by omega) (by omega) (by omega) (by omega) (by omega) (by omega) (by omega) (by omega) (by omega) (by omega) _ _ ls hP hD hS (lv_sub hl [2, 1, 0, 3, 4] rfl)
                · refine lv_aload_n hx hb d_M_list_78 rfl (lv_at hl 3 rfl) ?_
                  refine lv_bipush (v := 44) hx hb d_M_list_79 (by decide) ?_
                  have hc_44 : Int32.toInt 44 = 44 := by decide
                  have hFc := va_free (wc := (ME h g ss sa_404 so_405 pl_406 si_409 fa_407 li co st_327 rq_395 bl te op_408 wo wz sr le_410 tx_411 ro)) hD hS hA [0, 1, 2, 3, 4, 5, 6] rfl
                  refine va_calli (va_runV (As := [.int 44]) (rest := []) ⟨hx, hb, hml, hown, ht⟩ (c_M_isSign l dC dI k h g ss sa_404 so_405 pl_406 si_409 fa_407 li co st_327 rq_395 bl te op_408 wo le_410 wz sr tx_411 ro 44 _ (by omega) (by omega) (by omega) (by omega) ) (cwV 1 ht (g_V k_779 k_781 k_54 k_80 k_782) rfl rfl rfl (by decide +kernel) ⟨(Nat.le_of_ble_eq_true rfl), (Nat.le_of_ble_eq_true rfl)⟩) ⟨fb_X, va_recv hK hP (ci := 4) (q0 := 0) rfl rfl, pre_X hE hS hFc hP hK hD⟩ rfl rfl hl.1 rfl (lv_room (Nat.le_of_ble_eq_true rfl)) d_M_list_81 ⟨(Nat.le_of_ble_eq_true rfl), (Nat.le_of_ble_eq_true rfl)⟩) hS (fun q _ h9 => hFc q h9) hFc (fun r_430 u_429 t H locs het hvm hw hB hz1 hk1 hS => ?_)
                  obtain ⟨p_431, p_432⟩ := hw
                  obtain ⟨hP1, hK1, hD1⟩ := hB
                  rw [het] at hP1
                  have hP : va_P (dC, dI) cls (ME h g ss sa_404 so_405 pl_406 si_409 fa_407 li co st_327 rq_395 bl te op_408 wo wz sr le_410 tx_411 ro) H := hP1
                  have hD : va_D A (ME h g ss sa_404 so_405 pl_406 si_409 fa_407 li co st_327 rq_395 bl te op_408 wo wz sr le_410 tx_411 ro) := hD1.weaken (fun _ _ _ h9 => hFc _ h9)
                  refine lv_if_eq (tgt := 91) hx hb d_M_list_84 (by decide) (fun c_433 => ?_) (fun c_433 => ?_)
                  · have dc_433 := i_eq c_433 rfl (show Int32.toInt 0 = 0 by decide)
                    refine lv_iconst (v := 0) hx hb d_M_list_91 (by decide) ?_
                    refine lv_istore (lv' := [(4, .int 0), (3, .int (n + 1)), (2, .int my), (0, .ref (h 0)), (1, .int rb)]) hx hb d_M_list_92 hl (by decide) rfl (fun ls hl => ?_)
                    refine lv_iload hx hb d_M_list_94 (lv_at hl 0 rfl) ?_
                    refine lv_if_eq (tgt := 20) hx hb d_M_list_96 (by decide) (fun _ => ?_) (fun cn => absurd (by decide) cn)
                    have hc_0 : Int32.toInt 0 = 0 := by decide
                    obtain ⟨ym_434a, ym_434b⟩ := PS.yd rl_426 (by omega)
                    exact ih my (n + 1) 0 sa_404 so_405 pl_406 fa_407 op_408 si_409 le_410 tx_411 st_327 rq_395 (by omega) (by omega) (Or.inl (rRS hbase rl_426)) (by omega) (by omega) (by omega) (by omega) (by omega) (by omega) (by omega) (by omega) (by omega) (by omega) _ _ ls hP hD hS (lv_sub hl [2, 1, 0, 3, 4] rfl)
                  · have dc_433 := i_ne c_433 rfl (show Int32.toInt 0 = 0 by decide)
                    refine lv_iconst (v := 1) hx hb d_M_list_87 (by decide) ?_
                    refine lv_goto (tgt := 92) hx hb d_M_list_88 (by decide) ?_
                    refine lv_istore (lv' := [(4, .int 1), (3, .int (n + 1)), (2, .int my), (0, .ref (h 0)), (1, .int rb)]) hx hb d_M_list_92 hl (by decide) rfl (fun ls hl => ?_)
                    refine lv_iload hx hb d_M_list_94 (lv_at hl 0 rfl) ?_
                    refine lv_if_eq (tgt := 20) hx hb d_M_list_96 (by decide) (fun cn => absurd cn (by decide)) (fun _ => ?_)
                    refine lv_aload_n hx hb d_M_list_99 rfl (lv_at hl 3 rfl) ?_
                    have hFc := va_free (wc := (ME h g ss sa_404 so_405 pl_406 si_409 fa_407 li co st_327 rq_395 bl te op_408 wo wz sr le_410 tx_411 ro)) hD hS hA [0, 1, 2, 3, 4, 5, 6] rfl
                    refine va_callv (va_runV (As := []) (rest := []) ⟨hx, hb, hml, hown, ht⟩ (c_M_next l dC dI k h g ss sa_404 so_405 pl_406 si_409 fa_407 li co st_327 rq_395 bl te op_408 wo le_410 wz sr tx_411 ro  _ (by omega) (by omega) (by omega) (by omega) (by omega) (by omega) (by omega) (by omega) (by omega) (by omega) (by omega)) (cwV 0 ht (g_V k_694 k_696 k_37 k_80 k_697) rfl rfl rfl (by decide +kernel) ⟨(Nat.le_of_ble_eq_true rfl), (Nat.le_of_ble_eq_true rfl)⟩) ⟨fb_X, va_recv hK hP (ci := 4) (q0 := 0) rfl rfl, pre_X hE hS hFc hP hK hD⟩ rfl rfl hl.1 rfl (lv_room (Nat.le_of_ble_eq_true rfl)) d_M_list_100 ⟨(Nat.le_of_ble_eq_true rfl), (Nat.le_of_ble_eq_true rfl)⟩) hS (fun q _ h9 => hFc q h9) hFc (fun u_443 t H locs het hvm hw hB hz1 hk1 hS => ?_)
                    obtain ⟨sa_435, so_436, pl_437, fa_438, op_439, si_440, le_441, tx_442⟩ := u_443
                    try dsimp only at hw
                    obtain ⟨p_445, p_446, p_447, p_448, p_449, p_450, p_451, p_452, p_453, p_454, p_455⟩ := hw
                    obtain ⟨hP1, hK1, hD1⟩ := hB
                    rw [het] at hP1
                    have hP : va_P (dC, dI) cls (ME h g ss sa_435 so_436 pl_437 si_440 fa_438 li co st_327 rq_395 bl te op_439 wo wz sr le_441 tx_442 ro) H := hP1
                    have hD : va_D A (ME h g ss sa_435 so_436 pl_437 si_440 fa_438 li co st_327 rq_395 bl te op_439 wo wz sr le_441 tx_442 ro) := hD1.weaken (fun _ _ _ h9 => hFc _ h9)
                    have rl_456 := p_455.resolve_right (by omega)
                    have rl_457 := rSS rl_426 rl_456
                    refine lv_goto (tgt := 20) hx hb d_M_list_103 (by decide) ?_
                    have hc_1 : Int32.toInt 1 = 1 := by decide
                    obtain ⟨ym_458a, ym_458b⟩ := PS.yd rl_457 (by omega)
                    exact ih my (n + 1) 1 sa_435 so_436 pl_437 fa_438 op_439 si_440 le_441 tx_442 st_327 rq_395 (by omega) (by omega) (Or.inl (rRS hbase rl_457)) (by omega) (by omega) (by omega) (by omega) (by omega) (by omega) (by omega) (by omega) (by omega) (by omega) _ _ ls hP hD hS (lv_sub hl [2, 1, 0, 3, 4] rfl)
            · refine lv_aload_n hx hb d_M_list_50 rfl (lv_at hl 3 rfl) ?_
              have hFc := va_free (wc := (ME h g ss sa so pl si fa li co st rq bl te op wo wz sr le tx ro)) hD hS hA [0, 1, 2, 3, 4, 5, 6] rfl
              refine va_callv (va_runV (As := []) (rest := []) ⟨hx, hb, hml, hown, ht⟩ (c_M_fail l dC dI k h g ss sa so pl si fa li co st rq bl te op wo le wz sr tx ro  _ (by omega) (by omega) (by omega) (by omega)) (cwV 0 ht (g_V k_763 k_765 k_50 k_80 k_766) rfl rfl rfl (by decide +kernel) ⟨(Nat.le_of_ble_eq_true rfl), (Nat.le_of_ble_eq_true rfl)⟩) ⟨fb_X, va_recv hK hP (ci := 4) (q0 := 0) rfl rfl, pre_X hE hS hFc hP hK hD⟩ rfl rfl hl.1 rfl (lv_room (Nat.le_of_ble_eq_true rfl)) d_M_list_51 ⟨(Nat.le_of_ble_eq_true rfl), (Nat.le_of_ble_eq_true rfl)⟩) hS (fun q _ h9 => hFc q h9) hFc (fun u_462 t H locs het hvm hw hB hz1 hk1 hS => ?_)
              obtain ⟨so_459, fa_460, op_461⟩ := u_462
              try dsimp only at hw
              obtain ⟨p_464, p_465, p_466, p_467, p_468, p_469⟩ := hw
              obtain ⟨hP1, hK1, hD1⟩ := hB
              rw [het] at hP1
              have hP : va_P (dC, dI) cls (ME h g ss sa so_459 pl si fa_460 li co st rq bl te op_461 wo wz sr le tx ro) H := hP1
              have hD : va_D A (ME h g ss sa so_459 pl si fa_460 li co st rq bl te op_461 wo wz sr le tx ro) := hD1.weaken (fun _ _ _ h9 => hFc _ h9)
              have rl_470 : PS ss sa so fa op sa so_459 fa_460 op_461 := pr_out (by omega) (by omega) (by omega) _ _ _ _ (by omega)
              refine lv_aload_n hx hb d_M_list_54 rfl (lv_at hl 3 rfl) ?_
              have hFc := va_free (wc := (ME h g ss sa so_459 pl si fa_460 li co st rq bl te op_461 wo wz sr le tx ro)) hD hS hA [0, 1, 2, 3, 4, 5, 6] rfl
              refine va_callv (va_runV (As := []) (rest := []) ⟨hx, hb, hml, hown, ht⟩ (c_M_string l dC dI k h g ss sa so_459 pl si fa_460 li co st rq bl te op_461 wo le wz sr tx ro  _ (by omega) (by omega) (by omega) (by omega) (by omega)) (cwV 0 ht (g_V k_783 k_785 k_55 k_80 k_786) rfl rfl rfl (by decide +kernel) ⟨(Nat.le_of_ble_eq_true rfl), (Nat.le_of_ble_eq_true rfl)⟩) ⟨fb_X, va_recv hK hP (ci := 4) (q0 := 0) rfl rfl, pre_X hE hS hFc hP hK hD⟩ rfl rfl hl.1 rfl (lv_room (Nat.le_of_ble_eq_true rfl)) d_M_list_55 ⟨(Nat.le_of_ble_eq_true rfl), (Nat.le_of_ble_eq_true rfl)⟩) hS (fun q _ h9 => hFc q h9) hFc (fun u_475 t H locs het hvm hw hB hz1 hk1 hS => ?_)
              obtain ⟨so_471, fa_472, op_473, st_474⟩ := u_475
              try dsimp only at hw
              obtain ⟨p_477, p_478, p_479, p_480, p_481, p_482⟩ := hw
              obtain ⟨hP1, hK1, hD1⟩ := hB
              rw [het] at hP1
              have hP : va_P (dC, dI) cls (ME h g ss sa so_471 pl si fa_472 li co st_474 rq bl te op_473 wo wz sr le tx ro) H := hP1
              have hD : va_D A (ME h g ss sa so_471 pl si fa_472 li co st_474 rq bl te op_473 wo wz sr le tx ro) := hD1.weaken (fun _ _ _ h9 => hFc _ h9)
              have rl_483 := rSR rl_470 p_480
              refine lv_iload_n hx hb d_M_list_58 rfl (lv_at hl 4 rfl) ?_
              refine lv_if_eq (tgt := 66) hx hb d_M_list_59 (by decide) (fun c_484 => ?_) (fun c_484 => ?_)
              · refine lv_aload_n hx hb d_M_list_66 rfl (lv_at hl 3 rfl) ?_
                have hFc := va_free (wc := (ME h g ss sa so_471 pl si fa_472 li co st_474 rq bl te op_473 wo wz sr le tx ro)) hD hS hA [0, 1, 2, 3, 4, 5, 6] rfl
                refine va_callv (va_runV (As := []) (rest := []) ⟨hx, hb, hml, hown, ht⟩ (c_M_next l dC dI k h g ss sa so_471 pl si fa_472 li co st_474 rq bl te op_473 wo le wz sr tx ro  _ (by omega) (by omega) (by omega) (by omega) (by omega) (by omega) (by omega) (by omega) (by omega) (by omega) (by omega)) (cwV 0 ht (g_V k_694 k_696 k_37 k_80 k_697) rfl rfl rfl (by decide +kernel) ⟨(Nat.le_of_ble_eq_true rfl), (Nat.le_of_ble_eq_true rfl)⟩) ⟨fb_X, va_recv hK hP (ci := 4) (q0 := 0) rfl rfl, pre_X hE hS hFc hP hK hD⟩ rfl rfl hl.1 rfl (lv_room (Nat.le_of_ble_eq_true rfl)) d_M_list_67 ⟨(Nat.le_of_ble_eq_true rfl), (Nat.le_of_ble_eq_true rfl)⟩) hS (fun q _ h9 => hFc q h9) hFc (fun u_493 t H locs het hvm hw hB hz1 hk1 hS => ?_)
                obtain ⟨sa_485, so_486, pl_487, fa_488, op_489, si_490, le_491, tx_492⟩ := u_493
                try dsimp only at hw
                obtain ⟨p_495, p_496, p_497, p_498, p_499, p_500, p_501, p_502, p_503, p_504, p_505⟩ := hw
                obtain ⟨hP1, hK1, hD1⟩ := hB
                rw [het] at hP1
                have hP : va_P (dC, dI) cls (ME h g ss sa_485 so_486 pl_487 si_490 fa_488 li co st_474 rq bl te op_489 wo wz sr le_491 tx_492 ro) H := hP1
                have hD : va_D A (ME h g ss sa_485 so_486 pl_487 si_490 fa_488 li co st_474 rq bl te op_489 wo wz sr le_491 tx_492 ro) := hD1.weaken (fun _ _ _ h9 => hFc _ h9)
                have rl_506 := p_505.resolve_right (by omega)
                have rl_507 := rSS rl_483 rl_506
                refine lv_iload_n hx hb d_M_list_70 rfl (lv_at hl 1 rfl) ?_
                refine lv_iconst (v := 1) hx hb d_M_list_71 (by decide) ?_
                refine lv_iadd hx hb d_M_list_72 ?_
                refine lv_istore_n (lv' := [(3, .int (n + 1)), (2, .int my), (4, .int mr), (0, .ref (h 0)), (1, .int rb)]) hx hb d_M_list_73 rfl hl (by decide) rfl (fun ls hl => ?_)
                refine lv_iload_n hx hb d_M_list_74 rfl (lv_at hl 1 rfl) ?_
                refine lv_if_eq (tgt := 91) hx hb d_M_list_75 (by decide) (fun c_508 => ?_) (fun c_508 => ?_)
                · refine lv_iconst (v := 0) hx hb d_M_list_91 (by decide) ?_
                  refine lv_istore (lv' := [(4, .int 0), (3, .int (n + 1)), (2, .int my), (0, .ref (h 0)), (1, .int rb)]) hx hb d_M_list_92 hl (by decide) rfl (fun ls hl => ?_)
                  refine lv_iload hx hb d_M_list_94 (lv_at hl 0 rfl) ?_
                  refine lv_if_eq (tgt := 20) hx hb d_M_list_96 (by decide) (fun _ => ?_) (fun cn => absurd (by decide) cn)
                  have hc_0 : Int32.toInt 0 = 0 := by decide
                  obtain ⟨ym_509a, ym_509b⟩ := PS.yd rl_507 (by omega)
                  exact ih my (n + 1) 0 sa_485 so_486 pl_487 fa_488 op_489 si_490 le_491 tx_492 st_474 rq (by omega) (by omega) (Or.inl (rRS hbase rl_507)) (by omega) (by omega) (by omega) (by omega) (by omega) (by omega) (by omega) (by omega) (by omega) (by omega) _ _ ls hP hD hS (lv_sub hl [2, 1, 0, 3, 4] rfl)
                · refine lv_aload_n hx hb d_M_list_78 rfl (lv_at hl 3 rfl) ?_
                  refine lv_bipush (v := 44) hx hb d_M_list_79 (by decide) ?_
                  have hc_44 : Int32.toInt 44 = 44 := by decide
                  have hFc := va_free (wc := (ME h g ss sa_485 so_486 pl_487 si_490 fa_488 li co st_474 rq bl te op_489 wo wz sr le_491 tx_492 ro)) hD hS hA [0, 1, 2, 3, 4, 5, 6] rfl
                  refine va_calli (va_runV (As := [.int 44]) (rest := []) ⟨hx, hb, hml, hown, ht⟩ (c_M_isSign l dC dI k h g ss sa_485 so_486 pl_487 si_490 fa_488 li co st_474 rq bl te op_489 wo le_491 wz sr tx_492 ro 44 _ (by omega) (by omega) (by omega) (by omega) ) (cwV 1 ht (g_V k_779 k_781 k_54 k_80 k_782) rfl rfl rfl (by decide +kernel) ⟨(Nat.le_of_ble_eq_true rfl), (Nat.le_of_ble_eq_true rfl)⟩) ⟨fb_X, va_recv hK hP (ci := 4) (q0 := 0) rfl rfl, pre_X hE hS hFc hP hK hD⟩ rfl rfl hl.1 rfl (lv_room (Nat.le_of_ble_eq_true rfl)) d_M_list_81 ⟨(Nat.le_of_ble_eq_true rfl), (Nat.le_of_ble_eq_true rfl)⟩) hS (fun q _ h9 => hFc q h9) hFc (fun r_511 u_510 t H locs het hvm hw hB hz1 hk1 hS => ?_)
                  obtain ⟨p_512, p_513⟩ := hw
                  obtain ⟨hP1, hK1, hD1⟩ := hB
                  rw [het] at hP1
                  have hP : va_P (dC, dI) cls (ME h g ss sa_485 so_486 pl_487 si_490 fa_488 li co st_474 rq bl te op_489 wo wz sr le_491 tx_492 ro) H := hP1
                  have hD : va_D A (ME h g ss sa_485 so_486 pl_487 si_490 fa_488 li co st_474 rq bl te op_489 wo wz sr le_491 tx_492 ro) := hD1.weaken (fun _ _ _ h9 => hFc _ h9)
                  refine lv_if_eq (tgt := 91) hx hb d_M_list_84 (by decide) (fun c_514 => ?_) (fun c_514 => ?_)
                  · have dc_514 := i_eq c_514 rfl (show Int32.toInt 0 = 0 by decide)
                    refine lv_iconst (v := 0) hx hb d_M_list_91 (by decide) ?_
                    refine lv_istore (lv' := [(4, .int 0), (3, .int (n + 1)), (2, .int my), (0, .ref (h 0)), (1, .int rb)]) hx hb d_M_list_92 hl (by decide) rfl (fun ls hl => ?_)
                    refine lv_iload hx hb d_M_list_94 (lv_at hl 0 rfl) ?_
                    refine lv_if_eq (tgt := 20) hx hb d_M_list_96 (by decide) (fun _ => ?_) (fun cn => absurd (by decide) cn)
                    have hc_0 : Int32.toInt 0 = 0 := by decide
                    obtain ⟨ym_515a, ym_515b⟩ := PS.yd rl_507 (by omega)
                    exact ih my (n + 1) 0 sa_485 so_486 pl_487 fa_488 op_489 si_490 le_491 tx_492 st_474 rq (by omega) (by omega) (Or.inl (rRS hbase rl_507)) (by omega) (by omega) (by omega) (by omega) (by omega) (by omega) (by omega) (by omega) (by omega) (by omega) _ _ ls hP hD hS (lv_sub hl [2, 1, 0, 3, 4] rfl)
                  · have dc_514 := i_ne c_514 rfl (show Int32.toInt 0 = 0 by decide)
                    refine lv_iconst (v := 1) hx hb d_M_list_87 (by decide) ?_
                    refine lv_goto (tgt := 92) hx hb d_M_list_88 (by decide) ?_
                    refine lv_istore (lv' := [(4, .int 1), (3, .int (n + 1)), (2, .int my), (0, .ref (h 0)), (1, .int rb)]) hx hb d_M_list_92 hl (by decide) rfl (fun ls hl => ?_)
                    refine lv_iload hx hb d_M_list_94 (lv_at hl 0 rfl) ?_
                    refine lv_if_eq (tgt := 20) hx hb d_M_list_96 (by decide) (fun cn => absurd cn (by decide)) (fun _ => ?_)
                    refine lv_aload_n hx hb d_M_list_99 rfl (lv_at hl 3 rfl) ?_
                    have hFc := va_free (wc := (ME h g ss sa_485 so_486 pl_487 si_490 fa_488 li co st_474 rq bl te op_489 wo wz sr le_491 tx_492 ro)) hD hS hA [0, 1, 2, 3, 4, 5, 6] rfl
                    refine va_callv (va_runV (As := []) (rest := []) ⟨hx, hb, hml, hown, ht⟩ (c_M_next l dC dI k h g ss sa_485 so_486 pl_487 si_490 fa_488 li co st_474 rq bl te op_489 wo le_491 wz sr tx_492 ro  _ (by omega) (by omega) (by omega) (by omega) (by omega) (by omega) (by omega) (by omega) (by omega) (by omega) (by omega)) (cwV 0 ht (g_V k_694 k_696 k_37 k_80 k_697) rfl rfl rfl (by decide +kernel) ⟨(Nat.le_of_ble_eq_true rfl), (Nat.le_of_ble_eq_true rfl)⟩) ⟨fb_X, va_recv hK hP (ci := 4) (q0 := 0) rfl rfl, pre_X hE hS hFc hP hK hD⟩ rfl rfl hl.1 rfl (lv_room (Nat.le_of_ble_eq_true rfl)) d_M_list_100 ⟨(Nat.le_of_ble_eq_true rfl), (Nat.le_of_ble_eq_true rfl)⟩) hS (fun q _ h9 => hFc q h9) hFc (fun u_524 t H locs het hvm hw hB hz1 hk1 hS => ?_)
                    obtain ⟨sa_516, so_517, pl_518, fa_519, op_520, si_521, le_522, tx_523⟩ := u_524
                    try dsimp only at hw
                    obtain ⟨p_526, p_527, p_528, p_529, p_530, p_531, p_532, p_533, p_534, p_535, p_536⟩ := hw
                    obtain ⟨hP1, hK1, hD1⟩ := hB
                    rw [het] at hP1
                    have hP : va_P (dC, dI) cls (ME h g ss sa_516 so_517 pl_518 si_521 fa_519 li co st_474 rq bl te op_520 wo wz sr le_522 tx_523 ro) H := hP1
                    have hD : va_D A (ME h g ss sa_516 so_517 pl_518 si_521 fa_519 li co st_474 rq bl te op_520 wo wz sr le_522 tx_523 ro) := hD1.weaken (fun _ _ _ h9 => hFc _ h9)
                    have rl_537 := p_536.resolve_right (by omega)
                    have rl_538 := rSS rl_507 rl_537
                    refine lv_goto (tgt := 20) hx hb d_M_list_103 (by decide) ?_
                    have hc_1 : Int32.toInt 1 = 1 := by decide
                    obtain ⟨ym_539a, ym_539b⟩ := PS.yd rl_538 (by omega)
                    exact ih my (n + 1) 1 sa_516 so_517 pl_518 fa_519 op_520 si_521 le_522 tx_523 st_474 rq (by omega) (by omega) (Or.inl (rRS hbase rl_538)) (by omega) (by omega) (by omega) (by omega) (by omega) (by omega) (by omega) (by omega) (by omega) (by omega) _ _ ls hP hD hS (lv_sub hl [2, 1, 0, 3, 4] rfl)
              · refine lv_aload_n hx hb d_M_list_62 rfl (lv_at hl 3 rfl) ?_
                have hFc := va_free (wc := (ME h g ss sa so_471 pl si fa_472 li co st_474 rq bl te op_473 wo wz sr le tx ro)) hD hS hA [0, 1, 2, 3, 4, 5, 6] rfl
                refine va_callv (va_runV (As := []) (rest := []) ⟨hx, hb, hml, hown, ht⟩ (c_M_require l dC dI k h g ss sa so_471 pl si fa_472 li co st_474 rq bl te op_473 wo le wz sr tx ro  _ (by omega) (by omega) (by omega) (by omega) (by omega)) (cwV 0 ht (g_V k_787 k_789 k_56 k_80 k_790) rfl rfl rfl (by decide +kernel) ⟨(Nat.le_of_ble_eq_true rfl), (Nat.le_of_ble_eq_true rfl)⟩) ⟨fb_X, va_recv hK hP (ci := 4) (q0 := 0) rfl rfl, pre_X hE hS hFc hP hK hD⟩ rfl rfl hl.1 rfl (lv_room (Nat.le_of_ble_eq_true rfl)) d_M_list_63 ⟨(Nat.le_of_ble_eq_true rfl), (Nat.le_of_ble_eq_true rfl)⟩) hS (fun q _ h9 => hFc q h9) hFc (fun u_544 t H locs het hvm hw hB hz1 hk1 hS => ?_)
                obtain ⟨so_540, fa_541, op_542, rq_543⟩ := u_544
                try dsimp only at hw
                obtain ⟨p_546, p_547, p_548, p_549, p_550⟩ := hw
                obtain ⟨hP1, hK1, hD1⟩ := hB
                rw [het] at hP1
                have hP : va_P (dC, dI) cls (ME h g ss sa so_540 pl si fa_541 li co st_474 rq_543 bl te op_542 wo wz sr le tx ro) H := hP1
                have hD : va_D A (ME h g ss sa so_540 pl si fa_541 li co st_474 rq_543 bl te op_542 wo wz sr le tx ro) := hD1.weaken (fun _ _ _ h9 => hFc _ h9)
                have rl_551 := rSR rl_483 p_549
                refine lv_aload_n hx hb d_M_list_66 rfl (lv_at hl 3 rfl) ?_
                have hFc := va_free (wc := (ME h g ss sa so_540 pl si fa_541 li co st_474 rq_543 bl te op_542 wo wz sr le tx ro)) hD hS hA [0, 1, 2, 3, 4, 5, 6] rfl
                refine va_callv (va_runV (As := []) (rest := []) ⟨hx, hb, hml, hown, ht⟩ (c_M_next l dC dI k h g ss sa so_540 pl si fa_541 li co st_474 rq_543 bl te op_542 wo le wz sr tx ro  _ (by omega) (by omega) (by omega) (by omega) (by omega) (by omega) (by omega) (by omega) (by omega) (by omega) (by omega)) (cwV 0 ht (g_V k_694 k_696 k_37 k_80 k_697) rfl rfl rfl (by decide +kernel) ⟨(Nat.le_of_ble_eq_true rfl), (Nat.le_of_ble_eq_true rfl)⟩) ⟨fb_X, va_recv hK hP (ci := 4) (q0 := 0) rfl rfl, pre_X hE hS hFc hP hK hD⟩ rfl rfl hl.1 rfl (lv_room (Nat.le_of_ble_eq_true rfl)) d_M_list_67 ⟨(Nat.le_of_ble_eq_true rfl), (Nat.le_of_ble_eq_true rfl)⟩) hS (fun q _ h9 => hFc q h9) hFc (fun u_560 t H locs het hvm hw hB hz1 hk1 hS => ?_)
                obtain ⟨sa_552, so_553, pl_554, fa_555, op_556, si_557, le_558, tx_559⟩ := u_560
                try dsimp only at hw
                obtain ⟨p_562, p_563, p_564, p_565, p_566, p_567, p_568, p_569, p_570, p_571, p_572⟩ := hw
                obtain ⟨hP1, hK1, hD1⟩ := hB
                rw [het] at hP1
                have hP : va_P (dC, dI) cls (ME h g ss sa_552 so_553 pl_554 si_557 fa_555 li co st_474 rq_543 bl te op_556 wo wz sr le_558 tx_559 ro) H := hP1
                have hD : va_D A (ME h g ss sa_552 so_553 pl_554 si_557 fa_555 li co st_474 rq_543 bl te op_556 wo wz sr le_558 tx_559 ro) := hD1.weaken (fun _ _ _ h9 => hFc _ h9)
                have rl_573 := p_572.resolve_right (by omega)
                have rl_574 := rSS rl_551 rl_573
                refine lv_iload_n hx hb d_M_list_70 rfl (lv_at hl 1 rfl) ?_
                refine lv_iconst (v := 1) hx hb d_M_list_71 (by decide) ?_
                refine lv_iadd hx hb d_M_list_72 ?_
                refine lv_istore_n (lv' := [(3, .int (n + 1)), (2, .int my), (4, .int mr), (0, .ref (h 0)), (1, .int rb)]) hx hb d_M_list_73 rfl hl (by decide) rfl (fun ls hl => ?_)
                refine lv_iload_n hx hb d_M_list_74 rfl (lv_at hl 1 rfl) ?_
                refine lv_if_eq (tgt := 91) hx hb d_M_list_75 (by decide) (fun c_575 => ?_) (fun c_575 => ?_)
                · refine lv_iconst (v := 0) hx hb d_M_list_91 (by decide) ?_
                  refine lv_istore (lv' := [(4, .int 0), (3, .int (n + 1)), (2, .int my), (0, .ref (h 0)), (1, .int rb)]) hx hb d_M_list_92 hl (by decide) rfl (fun ls hl => ?_)
                  refine lv_iload hx hb d_M_list_94 (lv_at hl 0 rfl) ?_
                  refine lv_if_eq (tgt := 20) hx hb d_M_list_96 (by decide) (fun _ => ?_) (fun cn => absurd (by decide) cn)
                  have hc_0 : Int32.toInt 0 = 0 := by decide
                  obtain ⟨ym_576a, ym_576b⟩ := PS.yd rl_574 (by omega)
                  exact ih my (n + 1) 0 sa_552 so_553 pl_554 fa_555 op_556 si_557 le_558 tx_559 st_474 rq_543 (by omega) (by omega) (Or.inl (rRS hbase rl_574)) (by omega) (by omega) (by omega) (by omega) (by omega) (by omega) (by omega) (by omega) (by omega) (by omega) _ _ ls hP hD hS (lv_sub hl [2, 1, 0, 3, 4] rfl)
                · refine lv_aload_n hx hb d_M_list_78 rfl (lv_at hl 3 rfl) ?_
                  refine lv_bipush (v := 44) hx hb d_M_list_79 (by decide) ?_
                  have hc_44 : Int32.toInt 44 = 44 := by decide
                  have hFc := va_free (wc := (ME h g ss sa_552 so_553 pl_554 si_557 fa_555 li co st_474 rq_543 bl te op_556 wo wz sr le_558 tx_559 ro)) hD hS hA [0, 1, 2, 3, 4, 5, 6] rfl
                  refine va_calli (va_runV (As := [.int 44]) (rest := []) ⟨hx, hb, hml, hown, ht⟩ (c_M_isSign l dC dI k h g ss sa_552 so_553 pl_554 si_557 fa_555 li co st_474 rq_543 bl te op_556 wo le_558 wz sr tx_559 ro 44 _ (by omega) (by omega) (by omega) (by omega) ) (cwV 1 ht (g_V k_779 k_781 k_54 k_80 k_782) rfl rfl rfl (by decide +kernel) ⟨(Nat.le_of_ble_eq_true rfl), (Nat.le_of_ble_eq_true rfl)⟩) ⟨fb_X, va_recv hK hP (ci := 4) (q0 := 0) rfl rfl, pre_X hE hS hFc hP hK hD⟩ rfl rfl hl.1 rfl (lv_room (Nat.le_of_ble_eq_true rfl)) d_M_list_81 ⟨(Nat.le_of_ble_eq_true rfl), (Nat.le_of_ble_eq_true rfl)⟩) hS (fun q _ h9 => hFc q h9) hFc (fun r_578 u_577 t H locs het hvm hw hB hz1 hk1 hS => ?_)
                  obtain ⟨p_579, p_580⟩ := hw
                  obtain ⟨hP1, hK1, hD1⟩ := hB
                  rw [het] at hP1
                  have hP : va_P (dC, dI) cls (ME h g ss sa_552 so_553 pl_554 si_557 fa_555 li co st_474 rq_543 bl te op_556 wo wz sr le_558 tx_559 ro) H := hP1
                  have hD : va_D A (ME h g ss sa_552 so_553 pl_554 si_557 fa_555 li co st_474 rq_543 bl te op_556 wo wz sr le_558 tx_559 ro) := hD1.weaken (fun _ _ _ h9 => hFc _ h9)
                  refine lv_if_eq (tgt := 91) hx hb d_M_list_84 (by decide) (fun c_581 => ?_) (fun c_581 => ?_)
                  · have dc_581 := i_eq c_581 rfl (show Int32.toInt 0 = 0 by decide)
                    refine lv_iconst (v := 0) hx hb d_M_list_91 (by decide) ?_
                    refine lv_istore (lv' := [(4, .int 0), (3, .int (n + 1)), (2, .int my), (0, .ref (h 0)), (1, .int rb)]) hx hb d_M_list_92 hl (by decide) rfl (fun ls hl => ?_)
                    refine lv_iload hx hb d_M_list_94 (lv_at hl 0 rfl) ?_
                    refine lv_if_eq (tgt := 20) hx hb d_M_list_96 (by decide) (fun _ => ?_) (fun cn => absurd (by decide) cn)
                    have hc_0 : Int32.toInt 0 = 0 := by decide
                    obtain ⟨ym_582a, ym_582b⟩ := PS.yd rl_574 (by omega)
                    exact ih my (n + 1) 0 sa_552 so_553 pl_554 fa_555 op_556 si_557 le_558 tx_559 st_474 rq_543 (by omega) (by omega) (Or.inl (rRS hbase rl_574)) (by omega) (by omega) (by omega) (by omega) (by omega) (by omega) (by omega) (by omega) (by omega) (by omega) _ _ ls hP hD hS (lv_sub hl [2, 1, 0, 3, 4] rfl)
                  · have dc_581 := i_ne c_581 rfl (show Int32.toInt 0 = 0 by decide)
                    refine lv_iconst (v := 1) hx hb d_M_list_87 (by decide) ?_
                    refine lv_goto (tgt := 92) hx hb d_M_list_88 (by decide) ?_
                    refine lv_istore (lv' := [(4, .int 1), (3, .int (n + 1)), (2, .int my), (0, .ref (h 0)), (1, .int rb)]) hx hb d_M_list_92 hl (by decide) rfl (fun ls hl => ?_)
                    refine lv_iload hx hb d_M_list_94 (lv_at hl 0 rfl) ?_
                    refine lv_if_eq (tgt := 20) hx hb d_M_list_96 (by decide) (fun cn => absurd cn (by decide)) (fun _ => ?_)
                    refine lv_aload_n hx hb d_M_list_99 rfl (lv_at hl 3 rfl) ?_
                    have hFc := va_free (wc := (ME h g ss sa_552 so_553 pl_554 si_557 fa_555 li co st_474 rq_543 bl te op_556 wo wz sr le_558 tx_559 ro)) hD hS hA [0, 1, 2, 3, 4, 5, 6] rfl
                    refine va_callv (va_runV (As := []) (rest := []) ⟨hx, hb, hml, hown, ht⟩ (c_M_next l dC dI k h g ss sa_552 so_553 pl_554 si_557 fa_555 li co st_474 rq_543 bl te op_556 wo le_558 wz sr tx_559 ro  _ (by omega) (by omega) (by omega) (by omega) (by omega) (by omega) (by omega) (by omega) (by omega) (by omega) (by omega)) (cwV 0 ht (g_V k_694 k_696 k_37 k_80 k_697) rfl rfl rfl (by decide +kernel) ⟨(Nat.le_of_ble_eq_true rfl), (Nat.le_of_ble_eq_true rfl)⟩) ⟨fb_X, va_recv hK hP (ci := 4) (q0 := 0) rfl rfl, pre_X hE hS hFc hP hK hD⟩ rfl rfl hl.1 rfl (lv_room (Nat.le_of_ble_eq_true rfl)) d_M_list_100 ⟨(Nat.le_of_ble_eq_true rfl), (Nat.le_of_ble_eq_true rfl)⟩) hS (fun q _ h9 => hFc q h9) hFc (fun u_591 t H locs het hvm hw hB hz1 hk1 hS => ?_)
                    obtain ⟨sa_583, so_584, pl_585, fa_586, op_587, si_588, le_589, tx_590⟩ := u_591
                    try dsimp only at hw
                    obtain ⟨p_593, p_594, p_595, p_596, p_597, p_598, p_599, p_600, p_601, p_602, p_603⟩ := hw
                    obtain ⟨hP1, hK1, hD1⟩ := hB
                    rw [het] at hP1
                    have hP : va_P (dC, dI) cls (ME h g ss sa_583 so_584 pl_585 si_588 fa_586 li co st_474 rq_543 bl te op_587 wo wz sr le_589 tx_590 ro) H := hP1
                    have hD : va_D A (ME h g ss sa_583 so_584 pl_585 si_588 fa_586 li co st_474 rq_543 bl te op_587 wo wz sr le_589 tx_590 ro) := hD1.weaken (fun _ _ _ h9 => hFc _ h9)
                    have rl_604 := p_603.resolve_right (by omega)
                    have rl_605 := rSS rl_574 rl_604
                    refine lv_goto (tgt := 20) hx hb d_M_list_103 (by decide) ?_
                    have hc_1 : Int32.toInt 1 = 1 := by decide
                    obtain ⟨ym_606a, ym_606b⟩ := PS.yd rl_605 (by omega)
                    exact ih my (n + 1) 1 sa_583 so_584 pl_585 fa_586 op_587 si_588 le_589 tx_590 st_474 rq_543 (by omega) (by omega) (Or.inl (rRS hbase rl_605)) (by omega) (by omega) (by omega) (by omega) (by omega) (by omega) (by omega) (by omega) (by omega) (by omega) _ _ ls hP hD hS (lv_sub hl [2, 1, 0, 3, 4] rfl)
set_option maxHeartbeats 4000000 in
set_option maxRecDepth 100000 in
theorem bd_M_list_0 {p : Program} {l : Launch} {e : Env} {s : State} {m : MethodId} {args : Array Value} {below : List Frame} {meth : Method} {c : Code} {Q : State → Prop} {A : Nat → Prop} {dC : Nat → ClassId} {dI : Nat → Nat → Nat} {k h : Nat → Nat} {g : Nat → ClassId} {ss : Int32} {li : Int32} {co : Int32} {bl : Int32} {te : Int32} {wo : Nat → Int64} {wz : Nat → Int32} {sr : Nat → Int32} {ro : Nat → Int32} {sa0 : Int32} {so0 : Int32} {fa0 : Int32} {op0 : Int32} (hx : p.tables.exec = Jvm.exec) (hb : c.code = b_M_list) (hml : c.maxLocals = 5) (hown : s.vm.findClass "SieveDeskModel" = some m.cls) (ht : ∀ w ∈ TT, w.before args s = true) (hE : KE k A s s.heap) (hA : ∀ q : Nat, s.heap.size ≤ q → A q) (hK : va_K (dC, dI) cls (TM g) s) {rb : Int32} (h_0 : 0 ≤ Int32.toInt ss) (h_1 : Int32.toInt ss ≤ 400) (fin : ∀ (u : Int32 × Int32 × Int32 × Int32 × Int32 × Int32 × (Nat → Int64) × (Nat → Int32) × Int32 × Int32) (H : Heap) (locs : List Loc) (pc : Nat) (ls : Array Slot), decode b_M_list pc = .ok (.return_, 1) → (0 ≤ Int32.toInt u.1 ∧ Int32.toInt u.1 ≤ Int32.toInt ss ∧ 0 ≤ Int32.toInt u.2.2.1 ∧ Int32.toInt u.2.2.1 ≤ 400 ∧ -1 ≤ Int32.toInt u.2.2.2.1 ∧ Int32.toInt u.2.2.2.1 ≤ 400 ∧ (Int32.toInt u.2.2.2.1 < 0 ∨ (Int32.toInt u.2.1 = 0 ∧ Int32.toInt u.2.2.2.2.1 = 0)) ∧ 0 ≤ Int32.toInt u.2.2.2.2.2.1 ∧ Int32.toInt u.2.2.2.2.2.1 ≤ 400 ∧ PS ss sa0 so0 fa0 op0 u.1 u.2.1 u.2.2.2.1 u.2.2.2.2.1) → va_P (dC, dI) cls (ME h g ss u.1 u.2.1 u.2.2.1 u.2.2.2.2.2.1 u.2.2.2.1 li co u.2.2.2.2.2.2.2.2.1 u.2.2.2.2.2.2.2.2.2 bl te u.2.2.2.2.1 wo wz sr u.2.2.2.2.2.2.1 u.2.2.2.2.2.2.2.1 ro) H → va_D A (ME h g ss u.1 u.2.1 u.2.2.1 u.2.2.2.2.2.1 u.2.2.2.1 li co u.2.2.2.2.2.2.2.2.1 u.2.2.2.2.2.2.2.2.2 bl te u.2.2.2.2.1 wo wz sr u.2.2.2.2.2.2.1 u.2.2.2.2.2.2.2.1 ro) → va_S A s.heap H locs → W p l e ({ frames := 6, cells := 0, slots := 0, locals := 127 } : Room) s m args below meth c H locs 0 0 Q (F0 m pc ls [])) : ∀ (sa : Int32) (so : Int32) (pl : Int32) (fa : Int32) (op : Int32) (si : Int32) (le : Nat → Int64) (tx : Nat → Int32) (st : Int32) (rq : Int32), sa = sa0 → so = so0 → fa = fa0 → op = op0 → 0 ≤ Int32.toInt sa → Int32.toInt sa ≤ Int32.toInt ss → 0 ≤ Int32.toInt pl → Int32.toInt pl ≤ 400 → -1 ≤ Int32.toInt fa → Int32.toInt fa ≤ 400 → (Int32.toInt fa < 0 ∨ (Int32.toInt so = 0 ∧ Int32.toInt op = 0)) → 0 ≤ Int32.toInt si → Int32.toInt si ≤ 400 → ∀ (H : Heap) (locs : List Loc) (ls : Array Slot), va_P (dC, dI) cls (ME h g ss sa so pl si fa li co st rq bl te op wo wz sr le tx ro) H → va_D A (ME h g ss sa so pl si fa li co st rq bl te op wo wz sr le tx ro) → va_S A s.heap H locs → lv_has ls 5 [(0, .ref (h 0)), (1, .int rb)] → W p l e ({ frames := 6, cells := 0, slots := 0, locals := 127 } : Room) s m args below meth c H locs 0 0 Q (F0 m 0 ls []) := by
  intro sa so pl fa op si le tx st rq v_0 v_1 v_2 v_3 v_4 v_5 v_6 v_7 v_8 v_9 v_10 v_11 v_12 H locs ls hP hD hS hl
  subst v_0
  subst v_1
  subst v_2
  subst v_3
  refine lv_aload_n hx hb d_M_list_0 rfl (lv_at hl 0 rfl) ?_
  refine lv_bipush (v := 91) hx hb d_M_list_1 (by decide) ?_
  have hc_91 : Int32.toInt 91 = 91 := by decide
  have hFc := va_free (wc := (ME h g ss sa so pl si fa li co st rq bl te op wo wz sr le tx ro)) hD hS hA [0, 1, 2, 3, 4, 5, 6] rfl
  refine va_calli (va_runV (As := [.int 91]) (rest := []) ⟨hx, hb, hml, hown, ht⟩ (c_M_isSign l dC dI k h g ss sa so pl si fa li co st rq bl te op wo le wz sr tx ro 91 _ (by omega) (by omega) (by omega) (by omega) ) (cwV 1 ht (g_V k_779 k_781 k_54 k_80 k_782) rfl rfl rfl (by decide +kernel) ⟨(Nat.le_of_ble_eq_true rfl), (Nat.le_of_ble_eq_true rfl)⟩) ⟨fb_X, va_recv hK hP (ci := 4) (q0 := 0) rfl rfl, pre_X hE hS hFc hP hK hD⟩ rfl rfl hl.1 rfl (lv_room (Nat.le_of_ble_eq_true rfl)) d_M_list_3 ⟨(Nat.le_of_ble_eq_true rfl), (Nat.le_of_ble_eq_true rfl)⟩) hS (fun q _ h9 => hFc q h9) hFc (fun r_608 u_607 t H locs het hvm hw hB hz1 hk1 hS => ?_)
  obtain ⟨p_609, p_610⟩ := hw
  obtain ⟨hP1, hK1, hD1⟩ := hB
  rw [het] at hP1
  have hP : va_P (dC, dI) cls (ME h g ss sa so pl si fa li co st rq bl te op wo wz sr le tx ro) H := hP1
  have hD : va_D A (ME h g ss sa so pl si fa li co st rq bl te op wo wz sr le tx ro) := hD1.weaken (fun _ _ _ h9 => hFc _ h9)
  refine lv_istore_n (lv' := [(2, .int r_608), (0, .ref (h 0)), (1, .int rb)]) hx hb d_M_list_6 rfl hl (by decide) rfl (fun ls hl => ?_)
  refine lv_iload_n hx hb d_M_list_7 rfl (lv_at hl 0 rfl) ?_
  refine lv_if_eq (tgt := 15) hx hb d_M_list_8 (by decide) (fun c_611 => ?_) (fun c_611 => ?_)
  · have dc_611 := i_eq c_611 rfl (show Int32.toInt 0 = 0 by decide)
    refine lv_iconst (v := 0) hx hb d_M_list_15 (by decide) ?_
    refine lv_istore_n (lv' := [(3, .int 0), (2, .int r_608), (0, .ref (h 0)), (1, .int rb)]) hx hb d_M_list_16 rfl hl (by decide) rfl (fun ls hl => ?_)
    refine lv_iconst (v := 1) hx hb d_M_list_17 (by decide) ?_
    refine lv_istore (lv' := [(4, .int 1), (3, .int 0), (2, .int r_608), (0, .ref (h 0)), (1, .int rb)]) hx hb d_M_list_18 hl (by decide) rfl (fun ls hl => ?_)
    have hc_0 : Int32.toInt 0 = 0 := by decide
    have hc_1 : Int32.toInt 1 = 1 := by decide
    exact (lp_M_list_20 (rb := rb) hx hb hml hown ht hE hA hK h_0 h_1 fin _) r_608 0 1 sa so pl fa op si le tx st rq (by omega) (by omega) (Or.inr ⟨(PR.refl (by omega)), by omega⟩) (by omega) (by omega) (by omega) (by omega) (by omega) (by omega) (by omega) (by omega) (by omega) (Nat.lt_succ_self _) _ _ ls hP hD hS (lv_sub hl [2, 1, 0, 3, 4] rfl)
  · have dc_611 := i_ne c_611 rfl (show Int32.toInt 0 = 0 by decide)
    refine lv_aload_n hx hb d_M_list_11 rfl (lv_at hl 1 rfl) ?_
    have hFc := va_free (wc := (ME h g ss sa so pl si fa li co st rq bl te op wo wz sr le tx ro)) hD hS hA [0, 1, 2, 3, 4, 5, 6] rfl
    refine va_callv (va_runV (As := []) (rest := []) ⟨hx, hb, hml, hown, ht⟩ (c_M_next l dC dI k h g ss sa so pl si fa li co st rq bl te op wo le wz sr tx ro  _ (by omega) (by omega) (by omega) (by omega) (by omega) (by omega) (by omega) (by omega) (by omega) (by omega) (by omega)) (cwV 0 ht (g_V k_694 k_696 k_37 k_80 k_697) rfl rfl rfl (by decide +kernel) ⟨(Nat.le_of_ble_eq_true rfl), (Nat.le_of_ble_eq_true rfl)⟩) ⟨fb_X, va_recv hK hP (ci := 4) (q0 := 0) rfl rfl, pre_X hE hS hFc hP hK hD⟩ rfl rfl hl.1 rfl (lv_room (Nat.le_of_ble_eq_true rfl)) d_M_list_12 ⟨(Nat.le_of_ble_eq_true rfl), (Nat.le_of_ble_eq_true rfl)⟩) hS (fun q _ h9 => hFc q h9) hFc (fun u_620 t H locs het hvm hw hB hz1 hk1 hS => ?_)
    obtain ⟨sa_612, so_613, pl_614, fa_615, op_616, si_617, le_618, tx_619⟩ := u_620
    try dsimp only at hw
    obtain ⟨p_622, p_623, p_624, p_625, p_626, p_627, p_628, p_629, p_630, p_631, p_632⟩ := hw
    obtain ⟨hP1, hK1, hD1⟩ := hB
    rw [het] at hP1
    have hP : va_P (dC, dI) cls (ME h g ss sa_612 so_613 pl_614 si_617 fa_615 li co st rq bl te op_616 wo wz sr le_618 tx_619 ro) H := hP1
    have hD : va_D A (ME h g ss sa_612 so_613 pl_614 si_617 fa_615 li co st rq bl te op_616 wo wz sr le_618 tx_619 ro) := hD1.weaken (fun _ _ _ h9 => hFc _ h9)
    have rl_633 := p_632.resolve_right (by omega)
    refine lv_iconst (v := 0) hx hb d_M_list_15 (by decide) ?_
    refine lv_istore_n (lv' := [(3, .int 0), (2, .int r_608), (0, .ref (h 0)), (1, .int rb)]) hx hb d_M_list_16 rfl hl (by decide) rfl (fun ls hl => ?_)
    refine lv_iconst (v := 1) hx hb d_M_list_17 (by decide) ?_
    refine lv_istore (lv' := [(4, .int 1), (3, .int 0), (2, .int r_608), (0, .ref (h 0)), (1, .int rb)]) hx hb d_M_list_18 hl (by decide) rfl (fun ls hl => ?_)
    have hc_0 : Int32.toInt 0 = 0 := by decide
    have hc_1 : Int32.toInt 1 = 1 := by decide
    exact (lp_M_list_20 (rb := rb) hx hb hml hown ht hE hA hK h_0 h_1 fin _) r_608 0 1 sa_612 so_613 pl_614 fa_615 op_616 si_617 le_618 tx_619 st rq (by omega) (by omega) (Or.inl rl_633) (by omega) (by omega) (by omega) (by omega) (by omega) (by omega) (by omega) (by omega) (by omega) (Nat.lt_succ_self _) _ _ ls hP hD hS (lv_sub hl [2, 1, 0, 3, 4] rfl)
set_option maxHeartbeats 4000000 in
set_option maxRecDepth 100000 in
theorem c_M_list (l : Launch) (dC : Nat → ClassId) (dI : Nat → Nat → Nat) (k : Nat → Nat) (h : Nat → Nat) (g : Nat → ClassId) (ss : Int32) (sa : Int32) (so : Int32) (pl : Int32) (si : Int32) (fa : Int32) (li : Int32) (co : Int32) (st : Int32) (rq : Int32) (bl : Int32) (te : Int32) (op : Int32) (wo : Nat → Int64) (le : Nat → Int64) (wz : Nat → Int32) (sr : Nat → Int32) (tx : Nat → Int32) (ro : Nat → Int32) (rb : Int32) (sz : Nat) (h_0 : 0 ≤ Int32.toInt ss) (h_1 : Int32.toInt ss ≤ 400) (v_0 : 0 ≤ Int32.toInt sa) (v_1 : Int32.toInt sa ≤ Int32.toInt ss) (v_2 : 0 ≤ Int32.toInt pl) (v_3 : Int32.toInt pl ≤ 400) (v_4 : -1 ≤ Int32.toInt fa) (v_5 : Int32.toInt fa ≤ 400) (v_6 : Int32.toInt fa < 0 ∨ (Int32.toInt so = 0 ∧ Int32.toInt op = 0)) (v_7 : 0 ≤ Int32.toInt si) (v_8 : Int32.toInt si ≤ 400) : Met l y_M_list (.code y_M_list b_M_list 5 none :: TT) ({ frames := 6, cells := 0, slots := 0, locals := 127 }) (va_Pc [.ref (h 0), .int rb] (PX dC dI k (TM g) (ME h g ss sa so pl si fa li co st rq bl te op wo wz sr le tx ro) sz)) (va_Qv (fun u : Int32 × Int32 × Int32 × Int32 × Int32 × Int32 × (Nat → Int64) × (Nat → Int32) × Int32 × Int32 => 0 ≤ Int32.toInt u.1 ∧ Int32.toInt u.1 ≤ Int32.toInt ss ∧ 0 ≤ Int32.toInt u.2.2.1 ∧ Int32.toInt u.2.2.1 ≤ 400 ∧ -1 ≤ Int32.toInt u.2.2.2.1 ∧ Int32.toInt u.2.2.2.1 ≤ 400 ∧ (Int32.toInt u.2.2.2.1 < 0 ∨ (Int32.toInt u.2.1 = 0 ∧ Int32.toInt u.2.2.2.2.1 = 0)) ∧ 0 ≤ Int32.toInt u.2.2.2.2.2.1 ∧ Int32.toInt u.2.2.2.2.2.1 ≤ 400 ∧ PS ss sa so fa op u.1 u.2.1 u.2.2.2.1 u.2.2.2.2.1) (fun u t => BX dC dI (TM g) (va_A (ME h g ss sa so pl si fa li co st rq bl te op wo wz sr le tx ro) sz) (ME h g ss u.1 u.2.1 u.2.2.1 u.2.2.2.2.2.1 u.2.2.2.1 li co u.2.2.2.2.2.2.2.2.1 u.2.2.2.2.2.2.2.2.2 bl te u.2.2.2.2.1 wo wz sr u.2.2.2.2.2.2.1 u.2.2.2.2.2.2.2.1 ro) t) (va_A (ME h g ss sa so pl si fa li co st rq bl te op wo wz sr le tx ro) sz)) 0 0 (va_A (ME h g ss sa so pl si fa li co st rq bl te op wo wz sr le tx ro) sz) := by
  refine Met.ofW (cc := b_M_list) (maxL := 5) (ret := none) (by decide) rfl ?_
  intro p e s m args below meth c s₁ B hml hv
  obtain ⟨rfl, hsz, hE, hP, hK, hD0⟩ := hv
  have hx := B.exec
  have hb := B.bytes
  have hr := B.returns
  have ht : ∀ w ∈ TT, w.before _ s = true := fun w hw => atoms_spec (ws := .code y_M_list b_M_list 5 none :: TT) B.pre w (List.mem_cons_of_mem _ hw)
  have hown : s.vm.findClass "SieveDeskModel" = some m.cls := findClass_of_methodNamed B.named
  have hlocks := B.notSynchronized
  subst hsz
  have hD := hD0.self (sz := s.heap.size)
  generalize hAe : va_A (ME h g ss sa so pl si fa li co st rq bl te op wo wz sr le tx ro) s.heap.size = A at hE hD ⊢
  have hA : ∀ q : Nat, s.heap.size ≤ q → A q := fun q h9 => by rw [← hAe]; exact Or.inr h9
  have hS : va_S A s.heap s.heap [] := va_S.rf
  have hl := lv_entry ([.ref (h 0), .int rb]) (n := 5) (Nat.le_of_ble_eq_true rfl)
  rw [lg_entry_eq]
  generalize (lg_sl ([.ref (h 0), .int rb]) ++ List.replicate (5 - (lg_sl ([.ref (h 0), .int rb])).length) Slot.unset).toArray = ls at hl ⊢
  have hl : lv_has ls 5 [(0, .ref (h 0)), (1, .int rb)] := hl
  exact bd_M_list_0 (rb := rb) hx hb hml hown ht hE hA hK h_0 h_1 (fun u H locs pc ls hd hp hP hD hS => W.vret hx hb hr (fun t het hW => ⟨⟨u, rfl, hp, by rw [het]; exact hP, va_K.moved hW.alike hK, hD⟩, hS.F het⟩) hS.2.2 hd) sa so pl fa op si le tx st rq rfl rfl rfl rfl v_0 v_1 v_2 v_3 v_4 v_5 v_6 v_7 v_8 _ _ ls hP hD hS hl

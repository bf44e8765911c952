set_option maxHeartbeats 4000000 in
set_option maxRecDepth 100000 in
theorem bd_G_take_0 {p : Program} {l : Launch} {e : Env} {s : State} {m : MethodId} {args : Array Value} {below : List Frame} {meth : Method} {c : Code} {Q : State → Prop} {A : Nat → Prop} {dC : Nat → ClassId} {dI : Nat → Nat → Nat} {k h : Nat → Nat} {g : Nat → ClassId} {len : Int32} {fp : Int32} {many : Int32} {tlen : Int32} {tat : Int32} {qlen : Int32} {sc : Nat → Int32} {kd : Nat → Int32} {sr : Nat → Int32} {sa : Nat → Int32} {qb : Nat → Int32} {wo : Nat → Option Nat} (hx : p.tables.exec = Jvm.exec) (hb : c.code = b_G_take) (hml : c.maxLocals = 2) (hown : s.vm.findClass "SieveDesk$Grammar" = some m.cls) (ht : ∀ w ∈ TT, w.before args s = true) (hE : KE k A s s.heap) (hA : ∀ q : Nat, s.heap.size ≤ q → A q) (hK : va_K (dC, dI) cls (TE g) s) {sg : Int32} (h_0 : 0 ≤ Int32.toInt many) (h_1 : Int32.toInt many ≤ 401) (h_2 : WOk k wo) (fin : ∀ (r : Int32) (u : Int32 × (Nat → Int32) × Int32 × Int32 × Nat × Nat × Int32 × Int32 × Int32 × Int32 × Int32 × Int32 × Int32) (H : Heap) (locs : List Loc) (pc : Nat) (ls : Array Slot), decode b_G_take pc = .ok (.ireturn, 1) → narrow .boolean (.int r) = .int r → (0 ≤ Int32.toInt u.1 ∧ Int32.toInt u.1 ≤ 200 ∧ -1 ≤ Int32.toInt u.2.2.1 ∧ Int32.toInt u.2.2.1 ≤ 400 ∧ u.2.2.2.2.1 < 43 ∧ u.2.2.2.2.2.1 < 43 ∧ narrow .boolean (.int r) = .int r) → va_P (dC, dI) cls (WE h g len fp many tlen tat qlen u.1 u.2.2.1 u.2.2.2.1 (.ref (k u.2.2.2.2.1)) (.ref (k u.2.2.2.2.2.1)) u.2.2.2.2.2.2.1 u.2.2.2.2.2.2.2.1 u.2.2.2.2.2.2.2.2.1 u.2.2.2.2.2.2.2.2.2.1 u.2.2.2.2.2.2.2.2.2.2.1 u.2.2.2.2.2.2.2.2.2.2.2.1 u.2.2.2.2.2.2.2.2.2.2.2.2 sc kd sr wo sa qb u.2.1) H → va_D A (WE h g len fp many tlen tat qlen u.1 u.2.2.1 u.2.2.2.1 (.ref (k u.2.2.2.2.1)) (.ref (k u.2.2.2.2.2.1)) u.2.2.2.2.2.2.1 u.2.2.2.2.2.2.2.1 u.2.2.2.2.2.2.2.2.1 u.2.2.2.2.2.2.2.2.2.1 u.2.2.2.2.2.2.2.2.2.2.1 u.2.2.2.2.2.2.2.2.2.2.2.1 u.2.2.2.2.2.2.2.2.2.2.2.2 sc kd sr wo sa qb u.2.1) → va_S A s.heap H locs → W p l e ({ frames := 8, cells := 0, slots := 0, locals := 168 } : Room) s m args below meth c H locs 0 0 Q (F0 m pc ls [.int r])) : ∀ (md : Int32) (du : Nat → Int32) (gat : Int32) (kind : Int32) (wi : Nat) (ti : Nat) (gs : Int32) (th : Int32) (st : Int32) (rq : Int32) (bl : Int32) (te : Int32) (og : Int32), 0 ≤ Int32.toInt md → Int32.toInt md ≤ 200 → -1 ≤ Int32.toInt gat → Int32.toInt gat ≤ 400 → wi < 43 → ti < 43 → ∀ (H : Heap) (locs : List Loc) (ls : Array Slot), va_P (dC, dI) cls (WE h g len fp many tlen tat qlen md gat kind (.ref (k wi)) (.ref (k ti)) gs th st rq bl te og sc kd sr wo sa qb du) H → va_D A (WE h g len fp many tlen tat qlen md gat kind (.ref (k wi)) (.ref (k ti)) gs th st rq bl te og sc kd sr wo sa qb du) → va_S A s.heap H locs → lv_has ls 2 [(0, .ref (h 9)), (1, .int sg)] → W p l e ({ frames := 8, cells := 0, slots := 0, locals := 168 } : Room) s m args below meth c H locs 0 0 Q (F0 m 0 ls []) := by
  intro md du gat kind wi ti gs th st rq bl te og v_0 v_1 v_2 v_3 v_4 v_5 H locs ls hP hD hS hl
  refine lv_iload_n hx hb d_G_take_0 rfl (lv_at hl 1 rfl) ?_
  by_cases hlo : Int32.toInt sg < 46
  · refine lv_tableOut (tgt := 533) hx hb d_G_take_1 (Or.inl hlo) (by decide) ?_
    refine lv_aload_n hx hb d_G_take_533 rfl (lv_at hl 0 rfl) ?_
    refine lv_iload_n hx hb d_G_take_534 rfl (lv_at hl 1 rfl) ?_
    have hFc := va_free (wc := (WE h g len fp many tlen tat qlen md gat kind (.ref (k wi)) (.ref (k ti)) gs th st rq bl te og sc kd sr wo sa qb du)) hD hS hA [0, 1, 2, 3, 4, 5, 6, 7, 8, 9, 10] rfl
    refine va_calli (va_runV (As := [.int sg]) (rest := []) ⟨hx, hb, hml, hown, ht⟩ (c_G_takeSign l dC dI k h g len fp many tlen tat qlen md gat kind gs th st rq bl te og wi ti sc kd sr sa qb du wo sg _ (by omega) (by omega) (by omega) (by omega) h_2 (by omega) (by omega) (by omega) (by omega)) (cwV 1 ht (g_V k_537 k_539 k_34 k_77 k_540) rfl rfl rfl (by decide +kernel) ⟨(Nat.le_of_ble_eq_true rfl), (Nat.le_of_ble_eq_true rfl)⟩) ⟨fb_X, va_recv hK hP (ci := 3) (q0 := 9) rfl rfl, pre_X hE hS hFc hP hK hD⟩ rfl rfl hl.1 rfl (lv_room (Nat.le_of_ble_eq_true rfl)) d_G_take_535 ⟨(Nat.le_of_ble_eq_true rfl), (Nat.le_of_ble_eq_true rfl)⟩) hS (fun q _ h9 => hFc q h9) hFc (fun r_9 u_8 t H locs het hvm hw hB hz1 hk1 hS => ?_)
    obtain ⟨gat_2, kind_3, wi_4, ti_5, gs_6, bl_7⟩ := u_8
    try dsimp only at hw
    obtain ⟨p_10, p_11, p_12, p_13, p_14⟩ := hw
    obtain ⟨hP1, hK1, hD1⟩ := hB
    rw [het] at hP1
    have hP : va_P (dC, dI) cls (WE h g len fp many tlen tat qlen md gat_2 kind_3 (.ref (k wi_4)) (.ref (k ti_5)) gs_6 th st rq bl_7 te og sc kd sr wo sa qb du) H := hP1
    have hD : va_D A (WE h g len fp many tlen tat qlen md gat_2 kind_3 (.ref (k wi_4)) (.ref (k ti_5)) gs_6 th st rq bl_7 te og sc kd sr wo sa qb du) := hD1.weaken (fun _ _ _ h9 => hFc _ h9)
    exact fin r_9 (md, du, gat_2, kind_3, wi_4, ti_5, gs_6, th, st, rq, bl_7, te, og) _ _ _ ls d_G_take_538 p_14 ⟨(by (try dsimp only); omega), (by (try dsimp only); omega), (by (try dsimp only); omega), (by (try dsimp only); omega), (by (try dsimp only); omega), (by (try dsimp only); omega), p_14⟩ hP hD hS
  by_cases hhi : 118 < Int32.toInt sg
  · refine lv_tableOut (tgt := 533) hx hb d_G_take_1 (Or.inr hhi) (by decide) ?_
    refine lv_aload_n hx hb d_G_take_533 rfl (lv_at hl 0 rfl) ?_
    refine lv_iload_n hx hb d_G_take_534 rfl (lv_at hl 1 rfl) ?_
    have hFc := va_free (wc := (WE h g len fp many tlen tat qlen md gat kind (.ref (k wi)) (.ref (k ti)) gs th st rq bl te og sc kd sr wo sa qb du)) hD hS hA [0, 1, 2, 3, 4, 5, 6, 7, 8, 9, 10] rfl
    refine va_calli (va_runV (As := [.int sg]) (rest := []) ⟨hx, hb, hml, hown, ht⟩ (c_G_takeSign l dC dI k h g len fp many tlen tat qlen md gat kind gs th st rq bl te og wi ti sc kd sr sa qb du wo sg _ (by omega) (by omega) (by omega) (by omega) h_2 (by omega) (by omega) (by omega) (by omega)) (cwV 1 ht (g_V k_537 k_539 k_34 k_77 k_540) rfl rfl rfl (by decide +kernel) ⟨(Nat.le_of_ble_eq_true rfl), (Nat.le_of_ble_eq_true rfl)⟩) ⟨fb_X, va_recv hK hP (ci := 3) (q0 := 9) rfl rfl, pre_X hE hS hFc hP hK hD⟩ rfl rfl hl.1 rfl (lv_room (Nat.le_of_ble_eq_true rfl)) d_G_take_535 ⟨(Nat.le_of_ble_eq_true rfl), (Nat.le_of_ble_eq_true rfl)⟩) hS (fun q _ h9 => hFc q h9) hFc (fun r_22 u_21 t H locs het hvm hw hB hz1 hk1 hS => ?_)
    obtain ⟨gat_15, kind_16, wi_17, ti_18, gs_19, bl_20⟩ := u_21
    try dsimp only at hw
    obtain ⟨p_23, p_24, p_25, p_26, p_27⟩ := hw
    obtain ⟨hP1, hK1, hD1⟩ := hB
    rw [het] at hP1
    have hP : va_P (dC, dI) cls (WE h g len fp many tlen tat qlen md gat_15 kind_16 (.ref (k wi_17)) (.ref (k ti_18)) gs_19 th st rq bl_20 te og sc kd sr wo sa qb du) H := hP1
    have hD : va_D A (WE h g len fp many tlen tat qlen md gat_15 kind_16 (.ref (k wi_17)) (.ref (k ti_18)) gs_19 th st rq bl_20 te og sc kd sr wo sa qb du) := hD1.weaken (fun _ _ _ h9 => hFc _ h9)
    exact fin r_22 (md, du, gat_15, kind_16, wi_17, ti_18, gs_19, th, st, rq, bl_20, te, og) _ _ _ ls d_G_take_538 p_27 ⟨(by (try dsimp only); omega), (by (try dsimp only); omega), (by (try dsimp only); omega), (by (try dsimp only); omega), (by (try dsimp only); omega), (by (try dsimp only); omega), p_27⟩ hP hD hS
  obtain ⟨off, ho, hm⟩ := tsw (offs := #[518, 532, 532, 532, 532, 532, 532, 532, 532, 532, 532, 532, 532, 532, 532, 532, 532, 532, 532, 532, 532, 532, 532, 532, 532, 532, 532, 532, 532, 532, 532, 532, 532, 532, 532, 532, 532, 532, 532, 532, 532, 532, 532, 532, 532, 532, 532, 532, 532, 532, 532, 494, 532, 334, 403, 361, 486, 398, 532, 532, 532, 462, 502, 356, 440, 454, 532, 307, 510, 446, 339, 532, 344]) (n := 73) [307, 334, 339, 344, 356, 361, 398, 403, 440, 446, 454, 462, 486, 494, 502, 510, 518, 532] (by decide) (j := (Int32.toInt sg - 46).toNat) (by omega)
  simp only [List.mem_cons, List.not_mem_nil, or_false] at hm
  rcases hm with rfl | rfl | rfl | rfl | rfl | rfl | rfl | rfl | rfl | rfl | rfl | rfl | rfl | rfl | rfl | rfl | rfl | rfl
  · refine lv_tableIn (off := 307) (tgt := 308) hx hb d_G_take_1 hlo hhi ho (by decide) ?_
    refine lv_aload_n hx hb d_G_take_308 rfl (lv_at hl 0 rfl) ?_
    refine va_get (D := (dC, dI)) (ci := 3) (v := .ref (k wi)) (C := "SieveDesk$Grammar") (T := F_G) (N := 14) hx hb ht i_G hown hK hP 9 rfl rfl 5 (by decide) (ht _ k_165) (fun _ h9 => h9) rfl d_G_take_309 ?_
    refine va_gets hx hb (ke_W_REQUIRE hE) hS hown (ht _ k_481) (fun _ h9 => h9) d_G_take_312 ?_
    refine lv_acmp_ne (rx := (some (k wi))) (ry := (some (k 1))) (tgt := 329) hx hb d_G_take_315 (by decide) (fun c_28 => ?_) (fun c_28 => ?_)
    · refine lv_iconst (v := 1) hx hb d_G_take_329 (by decide) ?_
      refine lv_goto (tgt := 334) hx hb d_G_take_330 (by decide) ?_
      have hc_1 : Int32.toInt 1 = 1 := by decide
      exact fin 1 (md, du, gat, kind, wi, ti, gs, th, st, rq, bl, te, og) _ _ _ ls d_G_take_334 rfl ⟨(by (try dsimp only); omega), (by (try dsimp only); omega), (by (try dsimp only); omega), (by (try dsimp only); omega), (by (try dsimp only); omega), (by (try dsimp only); omega), rfl⟩ hP hD hS
    · refine lv_aload_n hx hb d_G_take_318 rfl (lv_at hl 0 rfl) ?_
      refine lv_aload_n hx hb d_G_take_319 rfl (lv_at hl 0 rfl) ?_
      refine va_get (D := (dC, dI)) (ci := 3) (v := .ref (k wi)) (C := "SieveDesk$Grammar") (T := F_G) (N := 14) hx hb ht i_G hown hK hP 9 rfl rfl 5 (by decide) (ht _ k_165) (fun _ h9 => h9) rfl d_G_take_320 ?_
      have hFc := va_free (wc := (WE h g len fp many tlen tat qlen md gat kind (.ref (k wi)) (.ref (k ti)) gs th st rq bl te og sc kd sr wo sa qb du)) hD hS hA [0, 1, 2, 3, 4, 5, 6, 7, 8, 9, 10] rfl
      refine va_calli (va_runV (As := [.ref (k wi)]) (rest := []) ⟨hx, hb, hml, hown, ht⟩ (c_G_follow l dC dI k h g len fp many tlen tat qlen md gat kind gs th st rq bl te og wi ti sc kd sr sa qb du wo wi _ (by omega) (by omega) h_2 (by omega) (by omega) (by omega) (by omega) (by omega) (by omega) (by omega)) (cwV 1 ht (g_V k_483 k_485 k_24 k_77 k_486) rfl rfl rfl (by decide +kernel) ⟨(Nat.le_of_ble_eq_true rfl), (Nat.le_of_ble_eq_true rfl)⟩) ⟨fb_X, va_recv hK hP (ci := 3) (q0 := 9) rfl rfl, pre_X hE hS hFc hP hK hD⟩ rfl rfl hl.1 rfl (lv_room (Nat.le_of_ble_eq_true rfl)) d_G_take_323 ⟨(Nat.le_of_ble_eq_true rfl), (Nat.le_of_ble_eq_true rfl)⟩) hS (fun q _ h9 => hFc q h9) hFc (fun r_37 u_36 t H locs het hvm hw hB hz1 hk1 hS => ?_)
      obtain ⟨md_29, du_30, gat_31, kind_32, wi_33, ti_34, gs_35⟩ := u_36
      try dsimp only at hw
      obtain ⟨p_38, p_39, p_40, p_41, p_42, p_43, p_44⟩ := hw
      obtain ⟨hP1, hK1, hD1⟩ := hB
      rw [het] at hP1
      have hP : va_P (dC, dI) cls (WE h g len fp many tlen tat qlen md_29 gat_31 kind_32 (.ref (k wi_33)) (.ref (k ti_34)) gs_35 th st rq bl te og sc kd sr wo sa qb du_30) H := hP1
      have hD : va_D A (WE h g len fp many tlen tat qlen md_29 gat_31 kind_32 (.ref (k wi_33)) (.ref (k ti_34)) gs_35 th st rq bl te og sc kd sr wo sa qb du_30) := hD1.weaken (fun _ _ _ h9 => hFc _ h9)
      refine lv_if_eq (tgt := 333) hx hb d_G_take_326 (by decide) (fun c_45 => ?_) (fun c_45 => ?_)
      · refine lv_iconst (v := 0) hx hb d_G_take_333 (by decide) ?_
        have hc_0 : Int32.toInt 0 = 0 := by decide
        exact fin 0 (md_29, du_30, gat_31, kind_32, wi_33, ti_34, gs_35, th, st, rq, bl, te, og) _ _ _ ls d_G_take_334 rfl ⟨(by (try dsimp only); omega), (by (try dsimp only); omega), (by (try dsimp only); omega), (by (try dsimp only); omega), (by (try dsimp only); omega), (by (try dsimp only); omega), rfl⟩ hP hD hS
      · refine lv_iconst (v := 1) hx hb d_G_take_329 (by decide) ?_
        refine lv_goto (tgt := 334) hx hb d_G_take_330 (by decide) ?_
        have hc_1 : Int32.toInt 1 = 1 := by decide
        exact fin 1 (md_29, du_30, gat_31, kind_32, wi_33, ti_34, gs_35, th, st, rq, bl, te, og) _ _ _ ls d_G_take_334 rfl ⟨(by (try dsimp only); omega), (by (try dsimp only); omega), (by (try dsimp only); omega), (by (try dsimp only); omega), (by (try dsimp only); omega), (by (try dsimp only); omega), rfl⟩ hP hD hS
  · refine lv_tableIn (off := 334) (tgt := 335) hx hb d_G_take_1 hlo hhi ho (by decide) ?_
    refine lv_aload_n hx hb d_G_take_335 rfl (lv_at hl 0 rfl) ?_
    have hFc := va_free (wc := (WE h g len fp many tlen tat qlen md gat kind (.ref (k wi)) (.ref (k ti)) gs th st rq bl te og sc kd sr wo sa qb du)) hD hS hA [0, 1, 2, 3, 4, 5, 6, 7, 8, 9, 10] rfl
    refine va_calli (va_runV (As := []) (rest := []) ⟨hx, hb, hml, hown, ht⟩ (c_G_takeCommands l dC dI k h g len fp many tlen tat qlen md gat kind gs th st rq bl te og wi ti sc kd sr sa qb du wo  _ (by omega) (by omega) h_2 (by omega) (by omega) (by omega) (by omega) (by omega) (by omega)) (cwV 0 ht (g_V k_487 k_489 k_25 k_77 k_490) rfl rfl rfl (by decide +kernel) ⟨(Nat.le_of_ble_eq_true rfl), (Nat.le_of_ble_eq_true rfl)⟩) ⟨fb_X, va_recv hK hP (ci := 3) (q0 := 9) rfl rfl, pre_X hE hS hFc hP hK hD⟩ rfl rfl hl.1 rfl (lv_room (Nat.le_of_ble_eq_true rfl)) d_G_take_336 ⟨(Nat.le_of_ble_eq_true rfl), (Nat.le_of_ble_eq_true rfl)⟩) hS (fun q _ h9 => hFc q h9) hFc (fun r_56 u_55 t H locs het hvm hw hB hz1 hk1 hS => ?_)
    obtain ⟨md_46, du_47, gat_48, kind_49, wi_50, ti_51, gs_52, th_53, og_54⟩ := u_55
    try dsimp only at hw
    obtain ⟨p_57, p_58, p_59, p_60, p_61, p_62, p_63⟩ := hw
    obtain ⟨hP1, hK1, hD1⟩ := hB
    rw [het] at hP1
    have hP : va_P (dC, dI) cls (WE h g len fp many tlen tat qlen md_46 gat_48 kind_49 (.ref (k wi_50)) (.ref (k ti_51)) gs_52 th_53 st rq bl te og_54 sc kd sr wo sa qb du_47) H := hP1
    have hD : va_D A (WE h g len fp many tlen tat qlen md_46 gat_48 kind_49 (.ref (k wi_50)) (.ref (k ti_51)) gs_52 th_53 st rq bl te og_54 sc kd sr wo sa qb du_47) := hD1.weaken (fun _ _ _ h9 => hFc _ h9)
    exact fin r_56 (md_46, du_47, gat_48, kind_49, wi_50, ti_51, gs_52, th_53, st, rq, bl, te, og_54) _ _ _ ls d_G_take_339 p_63 ⟨(by (try dsimp only); omega), (by (try dsimp only); omega), (by (try dsimp only); omega), (by (try dsimp only); omega), (by (try dsimp only); omega), (by (try dsimp only); omega), p_63⟩ hP hD hS
  · refine lv_tableIn (off := 339) (tgt := 340) hx hb d_G_take_1 hlo hhi ho (by decide) ?_
    refine lv_aload_n hx hb d_G_take_340 rfl (lv_at hl 0 rfl) ?_
    have hFc := va_free (wc := (WE h g len fp many tlen tat qlen md gat kind (.ref (k wi)) (.ref (k ti)) gs th st rq bl te og sc kd sr wo sa qb du)) hD hS hA [0, 1, 2, 3, 4, 5, 6, 7, 8, 9, 10] rfl
    refine va_calli (va_runV (As := []) (rest := []) ⟨hx, hb, hml, hown, ht⟩ (c_G_takeTest l dC dI k h g len fp many tlen tat qlen md gat kind gs th st rq bl te og wi ti sc kd sr sa qb du wo  _ (by omega) (by omega) h_2 (by omega) (by omega) (by omega) (by omega) (by omega) (by omega)) (cwV 0 ht (g_V k_502 k_504 k_28 k_77 k_505) rfl rfl rfl (by decide +kernel) ⟨(Nat.le_of_ble_eq_true rfl), (Nat.le_of_ble_eq_true rfl)⟩) ⟨fb_X, va_recv hK hP (ci := 3) (q0 := 9) rfl rfl, pre_X hE hS hFc hP hK hD⟩ rfl rfl hl.1 rfl (lv_room (Nat.le_of_ble_eq_true rfl)) d_G_take_341 ⟨(Nat.le_of_ble_eq_true rfl), (Nat.le_of_ble_eq_true rfl)⟩) hS (fun q _ h9 => hFc q h9) hFc (fun r_75 u_74 t H locs het hvm hw hB hz1 hk1 hS => ?_)
    obtain ⟨md_64, du_65, gat_66, kind_67, wi_68, ti_69, gs_70, th_71, te_72, og_73⟩ := u_74
    try dsimp only at hw
    obtain ⟨p_76, p_77, p_78, p_79, p_80, p_81, p_82⟩ := hw
    obtain ⟨hP1, hK1, hD1⟩ := hB
    rw [het] at hP1
    have hP : va_P (dC, dI) cls (WE h g len fp many tlen tat qlen md_64 gat_66 kind_67 (.ref (k wi_68)) (.ref (k ti_69)) gs_70 th_71 st rq bl te_72 og_73 sc kd sr wo sa qb du_65) H := hP1
    have hD : va_D A (WE h g len fp many tlen tat qlen md_64 gat_66 kind_67 (.ref (k wi_68)) (.ref (k ti_69)) gs_70 th_71 st rq bl te_72 og_73 sc kd sr wo sa qb du_65) := hD1.weaken (fun _ _ _ h9 => hFc _ h9)
    exact fin r_75 (md_64, du_65, gat_66, kind_67, wi_68, ti_69, gs_70, th_71, st, rq, bl, te_72, og_73) _ _ _ ls d_G_take_344 p_82 ⟨(by (try dsimp only); omega), (by (try dsimp only); omega), (by (try dsimp only); omega), (by (try dsimp only); omega), (by (try dsimp only); omega), (by (try dsimp only); omega), p_82⟩ hP hD hS
  · refine lv_tableIn (off := 344) (tgt := 345) hx hb d_G_take_1 hlo hhi ho (by decide) ?_
    refine lv_aload_n hx hb d_G_take_345 rfl (lv_at hl 0 rfl) ?_
    refine lv_dup hx hb d_G_take_346 rfl ?_
    refine va_get (D := (dC, dI)) (ci := 3) (v := .int te) (C := "SieveDesk$Grammar") (T := F_G) (N := 14) hx hb ht i_G hown hK hP 9 rfl rfl 12 (by decide) (ht _ k_175) (fun _ h9 => h9) rfl d_G_take_347 ?_
    refine lv_iconst (v := 1) hx hb d_G_take_350 (by decide) ?_
    refine lv_isub hx hb d_G_take_351 ?_
    refine va_put (D := (dC, dI)) (ci := 3) (v := .int (te - 1)) (ty := .int) (C := "SieveDesk$Grammar") (T := F_G) (N := 14) hx hb ht i_G ty_G ty_G_ok n_G hown hK hP hD hS 9 rfl rfl 12 (by decide) (ht _ k_175) (fun _ h9 => h9) rfl (ty_G_ok 12 (by decide)) rfl rfl (Nat.le_of_ble_eq_true rfl) d_G_take_352 (fun H locs hP hD hS => ?_)
    have hP : va_P (dC, dI) cls (WE h g len fp many tlen tat qlen md gat kind (.ref (k wi)) (.ref (k ti)) gs th st rq bl (te - 1) og sc kd sr wo sa qb du) H := hP
    have hD : va_D A (WE h g len fp many tlen tat qlen md gat kind (.ref (k wi)) (.ref (k ti)) gs th st rq bl (te - 1) og sc kd sr wo sa qb du) := hD
    refine lv_iconst (v := 1) hx hb d_G_take_355 (by decide) ?_
    have hc_1 : Int32.toInt 1 = 1 := by decide
    exact fin 1 (md, du, gat, kind, wi, ti, gs, th, st, rq, bl, (te - 1), og) _ _ _ ls d_G_take_356 rfl ⟨(by (try dsimp only); omega), (by (try dsimp only); omega), (by (try dsimp only); omega), (by (try dsimp only); omega), (by (try dsimp only); omega), (by (try dsimp only); omega), rfl⟩ hP hD hS
  · refine lv_tableIn (off := 356) (tgt := 357) hx hb d_G_take_1 hlo hhi ho (by decide) ?_
    refine lv_aload_n hx hb d_G_take_357 rfl (lv_at hl 0 rfl) ?_
    have hFc := va_free (wc := (WE h g len fp many tlen tat qlen md gat kind (.ref (k wi)) (.ref (k ti)) gs th st rq bl te og sc kd sr wo sa qb du)) hD hS hA [0, 1, 2, 3, 4, 5, 6, 7, 8, 9, 10] rfl
    refine va_calli (va_runV (As := []) (rest := []) ⟨hx, hb, hml, hown, ht⟩ (c_G_takeMoreTests l dC dI k h g len fp many tlen tat qlen md gat kind gs th st rq bl te og wi ti sc kd sr sa qb du wo  _ (by omega) (by omega) h_2 (by omega) (by omega) (by omega) (by omega) (by omega) (by omega)) (cwV 0 ht (g_V k_507 k_509 k_29 k_77 k_510) rfl rfl rfl (by decide +kernel) ⟨(Nat.le_of_ble_eq_true rfl), (Nat.le_of_ble_eq_true rfl)⟩) ⟨fb_X, va_recv hK hP (ci := 3) (q0 := 9) rfl rfl, pre_X hE hS hFc hP hK hD⟩ rfl rfl hl.1 rfl (lv_room (Nat.le_of_ble_eq_true rfl)) d_G_take_358 ⟨(Nat.le_of_ble_eq_true rfl), (Nat.le_of_ble_eq_true rfl)⟩) hS (fun q _ h9 => hFc q h9) hFc (fun r_91 u_90 t H locs het hvm hw hB hz1 hk1 hS => ?_)
    obtain ⟨md_83, du_84, gat_85, kind_86, wi_87, ti_88, gs_89⟩ := u_90
    try dsimp only at hw
    obtain ⟨p_92, p_93, p_94, p_95, p_96, p_97, p_98⟩ := hw
    obtain ⟨hP1, hK1, hD1⟩ := hB
    rw [het] at hP1
    have hP : va_P (dC, dI) cls (WE h g len fp many tlen tat qlen md_83 gat_85 kind_86 (.ref (k wi_87)) (.ref (k ti_88)) gs_89 th st rq bl te og sc kd sr wo sa qb du_84) H := hP1
    have hD : va_D A (WE h g len fp many tlen tat qlen md_83 gat_85 kind_86 (.ref (k wi_87)) (.ref (k ti_88)) gs_89 th st rq bl te og sc kd sr wo sa qb du_84) := hD1.weaken (fun _ _ _ h9 => hFc _ h9)
    exact fin r_91 (md_83, du_84, gat_85, kind_86, wi_87, ti_88, gs_89, th, st, rq, bl, te, og) _ _ _ ls d_G_take_361 p_98 ⟨(by (try dsimp only); omega), (by (try dsimp only); omega), (by (try dsimp only); omega), (by (try dsimp only); omega), (by (try dsimp only); omega), (by (try dsimp only); omega), p_98⟩ hP hD hS
  · refine lv_tableIn (off := 361) (tgt := 362) hx hb d_G_take_1 hlo hhi ho (by decide) ?_
    refine lv_aload_n hx hb d_G_take_362 rfl (lv_at hl 0 rfl) ?_
    refine va_get (D := (dC, dI)) (ci := 3) (v := .ref (k wi)) (C := "SieveDesk$Grammar") (T := F_G) (N := 14) hx hb ht i_G hown hK hP 9 rfl rfl 5 (by decide) (ht _ k_165) (fun _ h9 => h9) rfl d_G_take_363 ?_
    refine va_gets hx hb (ke_W_ELSIF hE) hS hown (ht _ k_512) (fun _ h9 => h9) d_G_take_366 ?_
    refine lv_acmp_eq (rx := (some (k wi))) (ry := (some (k 2))) (tgt := 382) hx hb d_G_take_369 (by decide) (fun c_99 => ?_) (fun c_99 => ?_)
    · refine lv_aload_n hx hb d_G_take_382 rfl (lv_at hl 0 rfl) ?_
      refine lv_aload_n hx hb d_G_take_383 rfl (lv_at hl 0 rfl) ?_
      refine va_get (D := (dC, dI)) (ci := 3) (v := .ref (k wi)) (C := "SieveDesk$Grammar") (T := F_G) (N := 14) hx hb ht i_G hown hK hP 9 rfl rfl 5 (by decide) (ht _ k_165) (fun _ h9 => h9) rfl d_G_take_384 ?_
      have hFc := va_free (wc := (WE h g len fp many tlen tat qlen md gat kind (.ref (k wi)) (.ref (k ti)) gs th st rq bl te og sc kd sr wo sa qb du)) hD hS hA [0, 1, 2, 3, 4, 5, 6, 7, 8, 9, 10] rfl
      refine va_calli (va_runV (As := [.ref (k wi)]) (rest := []) ⟨hx, hb, hml, hown, ht⟩ (c_G_follow l dC dI k h g len fp many tlen tat qlen md gat kind gs th st rq bl te og wi ti sc kd sr sa qb du wo wi _ (by omega) (by omega) h_2 (by omega) (by omega) (by omega) (by omega) (by omega) (by omega) (by omega)) (cwV 1 ht (g_V k_483 k_485 k_24 k_77 k_486) rfl rfl rfl (by decide +kernel) ⟨(Nat.le_of_ble_eq_true rfl), (Nat.le_of_ble_eq_true rfl)⟩) ⟨fb_X, va_recv hK hP (ci := 3) (q0 := 9) rfl rfl, pre_X hE hS hFc hP hK hD⟩ rfl rfl hl.1 rfl (lv_room (Nat.le_of_ble_eq_true rfl)) d_G_take_387 ⟨(Nat.le_of_ble_eq_true rfl), (Nat.le_of_ble_eq_true rfl)⟩) hS (fun q _ h9 => hFc q h9) hFc (fun r_108 u_107 t H locs het hvm hw hB hz1 hk1 hS => ?_)
      obtain ⟨md_100, du_101, gat_102, kind_103, wi_104, ti_105, gs_106⟩ := u_107
      try dsimp only at hw
      obtain ⟨p_109, p_110, p_111, p_112, p_113, p_114, p_115⟩ := hw
      obtain ⟨hP1, hK1, hD1⟩ := hB
      rw [het] at hP1
      have hP : va_P (dC, dI) cls (WE h g len fp many tlen tat qlen md_100 gat_102 kind_103 (.ref (k wi_104)) (.ref (k ti_105)) gs_106 th st rq bl te og sc kd sr wo sa qb du_101) H := hP1
      have hD : va_D A (WE h g len fp many tlen tat qlen md_100 gat_102 kind_103 (.ref (k wi_104)) (.ref (k ti_105)) gs_106 th st rq bl te og sc kd sr wo sa qb du_101) := hD1.weaken (fun _ _ _ h9 => hFc _ h9)
      refine lv_if_eq (tgt := 397) hx hb d_G_take_390 (by decide) (fun c_116 => ?_) (fun c_116 => ?_)
      · refine lv_iconst (v := 0) hx hb d_G_take_397 (by decide) ?_
        have hc_0 : Int32.toInt 0 = 0 := by decide
        exact fin 0 (md_100, du_101, gat_102, kind_103, wi_104, ti_105, gs_106, th, st, rq, bl, te, og) _ _ _ ls d_G_take_398 rfl ⟨(by (try dsimp only); omega), (by (try dsimp only); omega), (by (try dsimp only); omega), (by (try dsimp only); omega), (by (try dsimp only); omega), (by (try dsimp only); omega), rfl⟩ hP hD hS
      · refine lv_iconst (v := 1) hx hb d_G_take_393 (by decide) ?_
        refine lv_goto (tgt := 398) hx hb d_G_take_394 (by decide) ?_
        have hc_1 : Int32.toInt 1 = 1 := by decide
        exact fin 1 (md_100, du_101, gat_102, kind_103, wi_104, ti_105, gs_106, th, st, rq, bl, te, og) _ _ _ ls d_G_take_398 rfl ⟨(by (try dsimp only); omega), (by (try dsimp only); omega), (by (try dsimp only); omega), (by (try dsimp only); omega), (by (try dsimp only); omega), (by (try dsimp only); omega), rfl⟩ hP hD hS
    · refine lv_aload_n hx hb d_G_take_372 rfl (lv_at hl 0 rfl) ?_
      refine va_get (D := (dC, dI)) (ci := 3) (v := .ref (k wi)) (C := "SieveDesk$Grammar") (T := F_G) (N := 14) hx hb ht i_G hown hK hP 9 rfl rfl 5 (by decide) (ht _ k_165) (fun _ h9 => h9) rfl d_G_take_373 ?_
      refine va_gets hx hb (ke_W_ELSE hE) hS hown (ht _ k_514) (fun _ h9 => h9) d_G_take_376 ?_
      refine lv_acmp_ne (rx := (some (k wi))) (ry := (some (k 3))) (tgt := 393) hx hb d_G_take_379 (by decide) (fun c_117 => ?_) (fun c_117 => ?_)
      · refine lv_iconst (v := 1) hx hb d_G_take_393 (by decide) ?_
        refine lv_goto (tgt := 398) hx hb d_G_take_394 (by decide) ?_
        have hc_1 : Int32.toInt 1 = 1 := by decide
        exact fin 1 (md, du, gat, kind, wi, ti, gs, th, st, rq, bl, te, og) _ _ _ ls d_G_take_398 rfl ⟨(by (try dsimp only); omega), (by (try dsimp only); omega), (by (try dsimp only); omega), (by (try dsimp only); omega), (by (try dsimp only); omega), (by (try dsimp only); omega), rfl⟩ hP hD hS
      · refine lv_aload_n hx hb d_G_take_382 rfl (lv_at hl 0 rfl) ?_
        refine lv_aload_n hx hb d_G_take_383 rfl (lv_at hl 0 rfl) ?_
        refine va_get (D := (dC, dI)) (ci := 3) (v := .ref (k wi)) (C := "SieveDesk$Grammar") (T := F_G) (N := 14) hx hb ht i_G hown hK hP 9 rfl rfl 5 (by decide) (ht _ k_165) (fun _ h9 => h9) rfl d_G_take_384 ?_
        have hFc := va_free (wc := (WE h g len fp many tlen tat qlen md gat kind (.ref (k wi)) (.ref (k ti)) gs th st rq bl te og sc kd sr wo sa qb du)) hD hS hA [0, 1, 2, 3, 4, 5, 6, 7, 8, 9, 10] rfl
        refine va_calli (va_runV (As := [.ref (k wi)]) (rest := []) ⟨hx, hb, hml, hown, ht⟩ (c_G_follow l dC dI k h g len fp many tlen tat qlen md gat kind gs th st rq bl te og wi ti sc kd sr sa qb du wo wi _ (by omega) (by omega) h_2 (by omega) (by omega) (by omega) (by omega) (by omega) (by omega) (by omega)) (cwV 1 ht (g_V k_483 k_485 k_24 k_77 k_486) rfl rfl rfl (by decide +kernel) ⟨(Nat.le_of_ble_eq_true rfl), (Nat.le_of_ble_eq_true rfl)⟩) ⟨fb_X, va_recv hK hP (ci := 3) (q0 := 9) rfl rfl, pre_X hE hS hFc hP hK hD⟩ rfl rfl hl.1 rfl (lv_room (Nat.le_of_ble_eq_true rfl)) d_G_take_387 ⟨(Nat.le_of_ble_eq_true rfl), (Nat.le_of_ble_eq_true rfl)⟩) hS (fun q _ h9 => hFc q h9) hFc (fun r_126 u_125 t H locs het hvm hw hB hz1 hk1 hS => ?_)
        obtain ⟨md_118, du_119, gat_120, kind_121, wi_122, ti_123, gs_124⟩ := u_125
        try dsimp only at hw
        obtain ⟨p_127, p_128, p_129, p_130, p_131, p_132, p_133⟩ := hw
        obtain ⟨hP1, hK1, hD1⟩ := hB
        rw [het] at hP1
        have hP : va_P (dC, dI) cls (WE h g len fp many tlen tat qlen md_118 gat_120 kind_121 (.ref (k wi_122)) (.ref (k ti_123)) gs_124 th st rq bl te og sc kd sr wo sa qb du_119) H := hP1
        have hD : va_D A (WE h g len fp many tlen tat qlen md_118 gat_120 kind_121 (.ref (k wi_122)) (.ref (k ti_123)) gs_124 th st rq bl te og sc kd sr wo sa qb du_119) := hD1.weaken (fun _ _ _ h9 => hFc _ h9)
        refine lv_if_eq (tgt := 397) hx hb d_G_take_390 (by decide) (fun c_134 => ?_) (fun c_134 => ?_)
        · refine lv_iconst (v := 0) hx hb d_G_take_397 (by decide) ?_
          have hc_0 : Int32.toInt 0 = 0 := by decide
          exact fin 0 (md_118, du_119, gat_120, kind_121, wi_122, ti_123, gs_124, th, st, rq, bl, te, og) _ _ _ ls d_G_take_398 rfl ⟨(by (try dsimp only); omega), (by (try dsimp only); omega), (by (try dsimp only); omega), (by (try dsimp only); omega), (by (try dsimp only); omega), (by (try dsimp only); omega), rfl⟩ hP hD hS
        · refine lv_iconst (v := 1) hx hb d_G_take_393 (by decide) ?_
          refine lv_goto (tgt := 398) hx hb d_G_take_394 (by decide) ?_
          have hc_1 : Int32.toInt 1 = 1 := by decide
          exact fin 1 (md_118, du_119, gat_120, kind_121, wi_122, ti_123, gs_124, th, st, rq, bl, te, og) _ _ _ ls d_G_take_398 rfl ⟨(by (try dsimp only); omega), (by (try dsimp only); omega), (by (try dsimp only); omega), (by (try dsimp only); omega), (by (try dsimp only); omega), (by (try dsimp only); omega), rfl⟩ hP hD hS
  · refine lv_tableIn (off := 398) (tgt := 399) hx hb d_G_take_1 hlo hhi ho (by decide) ?_
    refine lv_aload_n hx hb d_G_take_399 rfl (lv_at hl 0 rfl) ?_
    have hFc := va_free (wc := (WE h g len fp many tlen tat qlen md gat kind (.ref (k wi)) (.ref (k ti)) gs th st rq bl te og sc kd sr wo sa qb du)) hD hS hA [0, 1, 2, 3, 4, 5, 6, 7, 8, 9, 10] rfl
    refine va_calli (va_runV (As := []) (rest := []) ⟨hx, hb, hml, hown, ht⟩ (c_G_takeTags l dC dI k h g len fp many tlen tat qlen md gat kind gs th st rq bl te og wi ti sc kd sr sa qb du wo  _ (by omega) (by omega) h_2 (by omega) (by omega) (by omega) (by omega) (by omega) (by omega)) (cwV 0 ht (g_V k_516 k_518 k_30 k_77 k_519) rfl rfl rfl (by decide +kernel) ⟨(Nat.le_of_ble_eq_true rfl), (Nat.le_of_ble_eq_true rfl)⟩) ⟨fb_X, va_recv hK hP (ci := 3) (q0 := 9) rfl rfl, pre_X hE hS hFc hP hK hD⟩ rfl rfl hl.1 rfl (lv_room (Nat.le_of_ble_eq_true rfl)) d_G_take_400 ⟨(Nat.le_of_ble_eq_true rfl), (Nat.le_of_ble_eq_true rfl)⟩) hS (fun q _ h9 => hFc q h9) hFc (fun r_144 u_143 t H locs het hvm hw hB hz1 hk1 hS => ?_)
    obtain ⟨md_135, du_136, gat_137, kind_138, wi_139, ti_140, gs_141, og_142⟩ := u_143
    try dsimp only at hw
    obtain ⟨p_145, p_146, p_147, p_148, p_149, p_150, p_151⟩ := hw
    obtain ⟨hP1, hK1, hD1⟩ := hB
    rw [het] at hP1
    have hP : va_P (dC, dI) cls (WE h g len fp many tlen tat qlen md_135 gat_137 kind_138 (.ref (k wi_139)) (.ref (k ti_140)) gs_141 th st rq bl te og_142 sc kd sr wo sa qb du_136) H := hP1
    have hD : va_D A (WE h g len fp many tlen tat qlen md_135 gat_137 kind_138 (.ref (k wi_139)) (.ref (k ti_140)) gs_141 th st rq bl te og_142 sc kd sr wo sa qb du_136) := hD1.weaken (fun _ _ _ h9 => hFc _ h9)
    exact fin r_144 (md_135, du_136, gat_137, kind_138, wi_139, ti_140, gs_141, th, st, rq, bl, te, og_142) _ _ _ ls d_G_take_403 p_151 ⟨(by (try dsimp only); omega), (by (try dsimp only); omega), (by (try dsimp only); omega), (by (try dsimp only); omega), (by (try dsimp only); omega), (by (try dsimp only); omega), p_151⟩ hP hD hS
  · refine lv_tableIn (off := 403) (tgt := 404) hx hb d_G_take_1 hlo hhi ho (by decide) ?_
    refine lv_aload_n hx hb d_G_take_404 rfl (lv_at hl 0 rfl) ?_
    refine va_get (D := (dC, dI)) (ci := 3) (v := .ref (k ti)) (C := "SieveDesk$Grammar") (T := F_G) (N := 14) hx hb ht i_G hown hK hP 9 rfl rfl 6 (by decide) (ht _ k_166) (fun _ h9 => h9) rfl d_G_take_405 ?_
    refine va_gets hx hb (ke_W_OVER hE) hS hown (ht _ k_521) (fun _ h9 => h9) d_G_take_408 ?_
    refine lv_acmp_eq (rx := (some (k ti))) (ry := (some (k 41))) (tgt := 424) hx hb d_G_take_411 (by decide) (fun c_152 => ?_) (fun c_152 => ?_)
    · refine lv_aload_n hx hb d_G_take_424 rfl (lv_at hl 0 rfl) ?_
      refine lv_aload_n hx hb d_G_take_425 rfl (lv_at hl 0 rfl) ?_
      refine va_get (D := (dC, dI)) (ci := 3) (v := .ref (k ti)) (C := "SieveDesk$Grammar") (T := F_G) (N := 14) hx hb ht i_G hown hK hP 9 rfl rfl 6 (by decide) (ht _ k_166) (fun _ h9 => h9) rfl d_G_take_426 ?_
      have hFc := va_free (wc := (WE h g len fp many tlen tat qlen md gat kind (.ref (k wi)) (.ref (k ti)) gs th st rq bl te og sc kd sr wo sa qb du)) hD hS hA [0, 1, 2, 3, 4, 5, 6, 7, 8, 9, 10] rfl
      refine va_calli (va_runV (As := [.ref (k ti)]) (rest := []) ⟨hx, hb, hml, hown, ht⟩ (c_G_follow l dC dI k h g len fp many tlen tat qlen md gat kind gs th st rq bl te og wi ti sc kd sr sa qb du wo ti _ (by omega) (by omega) h_2 (by omega) (by omega) (by omega) (by omega) (by omega) (by omega) (by omega)) (cwV 1 ht (g_V k_483 k_485 k_24 k_77 k_486) rfl rfl rfl (by decide +kernel) ⟨(Nat.le_of_ble_eq_true rfl), (Nat.le_of_ble_eq_true rfl)⟩) ⟨fb_X, va_recv hK hP (ci := 3) (q0 := 9) rfl rfl, pre_X hE hS hFc hP hK hD⟩ rfl rfl hl.1 rfl (lv_room (Nat.le_of_ble_eq_true rfl)) d_G_take_429 ⟨(Nat.le_of_ble_eq_true rfl), (Nat.le_of_ble_eq_true rfl)⟩) hS (fun q _ h9 => hFc q h9) hFc (fun r_161 u_160 t H locs het hvm hw hB hz1 hk1 hS => ?_)
      obtain ⟨md_153, du_154, gat_155, kind_156, wi_157, ti_158, gs_159⟩ := u_160
      try dsimp only at hw
      obtain ⟨p_162, p_163, p_164, p_165, p_166, p_167, p_168⟩ := hw
      obtain ⟨hP1, hK1, hD1⟩ := hB
      rw [het] at hP1
      have hP : va_P (dC, dI) cls (WE h g len fp many tlen tat qlen md_153 gat_155 kind_156 (.ref (k wi_157)) (.ref (k ti_158)) gs_159 th st rq bl te og sc kd sr wo sa qb du_154) H := hP1
      have hD : va_D A (WE h g len fp many tlen tat qlen md_153 gat_155 kind_156 (.ref (k wi_157)) (.ref (k ti_158)) gs_159 th st rq bl te og sc kd sr wo sa qb du_154) := hD1.weaken (fun _ _ _ h9 => hFc _ h9)
      refine lv_if_eq (tgt := 439) hx hb d_G_take_432 (by decide) (fun c_169 => ?_) (fun c_169 => ?_)
      · refine lv_iconst (v := 0) hx hb d_G_take_439 (by decide) ?_
        have hc_0 : Int32.toInt 0 = 0 := by decide
        exact fin 0 (md_153, du_154, gat_155, kind_156, wi_157, ti_158, gs_159, th, st, rq, bl, te, og) _ _ _ ls d_G_take_440 rfl ⟨(by (try dsimp only); omega), (by (try dsimp only); omega), (by (try dsimp only); omega), (by (try dsimp only); omega), (by (try dsimp only); omega), (by (try dsimp only); omega), rfl⟩ hP hD hS
      · refine lv_iconst (v := 1) hx hb d_G_take_435 (by decide) ?_
        refine lv_goto (tgt := 440) hx hb d_G_take_436 (by decide) ?_
        have hc_1 : Int32.toInt 1 = 1 := by decide
        exact fin 1 (md_153, du_154, gat_155, kind_156, wi_157, ti_158, gs_159, th, st, rq, bl, te, og) _ _ _ ls d_G_take_440 rfl ⟨(by (try dsimp only); omega), (by (try dsimp only); omega), (by (try dsimp only); omega), (by (try dsimp only); omega), (by (try dsimp only); omega), (by (try dsimp only); omega), rfl⟩ hP hD hS
    · refine lv_aload_n hx hb d_G_take_414 rfl (lv_at hl 0 rfl) ?_
      refine va_get (D := (dC, dI)) (ci := 3) (v := .ref (k ti)) (C := "SieveDesk$Grammar") (T := F_G) (N := 14) hx hb ht i_G hown hK hP 9 rfl rfl 6 (by decide) (ht _ k_166) (fun _ h9 => h9) rfl d_G_take_415 ?_
      refine va_gets hx hb (ke_W_UNDER hE) hS hown (ht _ k_523) (fun _ h9 => h9) d_G_take_418 ?_
      refine lv_acmp_ne (rx := (some (k ti))) (ry := (some (k 42))) (tgt := 439) hx hb d_G_take_421 (by decide) (fun c_170 => ?_) (fun c_170 => ?_)
      · refine lv_iconst (v := 0) hx hb d_G_take_439 (by decide) ?_
        have hc_0 : Int32.toInt 0 = 0 := by decide
        exact fin 0 (md, du, gat, kind, wi, ti, gs, th, st, rq, bl, te, og) _ _ _ ls d_G_take_440 rfl ⟨(by (try dsimp only); omega), (by (try dsimp only); omega), (by (try dsimp only); omega), (by (try dsimp only); omega), (by (try dsimp only); omega), (by (try dsimp only); omega), rfl⟩ hP hD hS
      · refine lv_aload_n hx hb d_G_take_424 rfl (lv_at hl 0 rfl) ?_
        refine lv_aload_n hx hb d_G_take_425 rfl (lv_at hl 0 rfl) ?_
        refine va_get (D := (dC, dI)) (ci := 3) (v := .ref (k ti)) (C := "SieveDesk$Grammar") (T := F_G) (N := 14) hx hb ht i_G hown hK hP 9 rfl rfl 6 (by decide) (ht _ k_166) (fun _ h9 => h9) rfl d_G_take_426 ?_
        have hFc := va_free (wc := (WE h g len fp many tlen tat qlen md gat kind (.ref (k wi)) (.ref (k ti)) gs th st rq bl te og sc kd sr wo sa qb du)) hD hS hA [0, 1, 2, 3, 4, 5, 6, 7, 8, 9, 10] rfl
        refine va_calli (va_runV (As := [.ref (k ti)]) (rest := []) ⟨hx, hb, hml, hown, ht⟩ (c_G_follow l dC dI k h g len fp many tlen tat qlen md gat kind gs th st rq bl te og wi ti sc kd sr sa qb du wo ti _ (by omega) (by omega) h_2 (by omega) (by omega) (by omega) (by omega) (by omega) (by omega) (by omega)) (cwV 1 ht (g_V k_483 k_485 k_24 k_77 k_486) rfl rfl rfl (by decide +kernel) ⟨(Nat.le_of_ble_eq_true rfl), (Nat.le_of_ble_eq_true rfl)⟩) ⟨fb_X, va_recv hK hP (ci := 3) (q0 := 9) rfl rfl, pre_X hE hS hFc hP hK hD⟩ rfl rfl hl.1 rfl (lv_room (Nat.le_of_ble_eq_true rfl)) d_G_take_429 ⟨(Nat.le_of_ble_eq_true rfl), (Nat.le_of_ble_eq_true rfl)⟩) hS (fun q _ h9 => hFc q h9) hFc (fun r_179 u_178 t H locs het hvm hw hB hz1 hk1 hS => ?_)
        obtain ⟨md_171, du_172, gat_173, kind_174, wi_175, ti_176, gs_177⟩ := u_178
        try dsimp only at hw
        obtain ⟨p_180, p_181, p_182, p_183, p_184, p_185, p_186⟩ := hw
        obtain ⟨hP1, hK1, hD1⟩ := hB
        rw [het] at hP1
        have hP : va_P (dC, dI) cls (WE h g len fp many tlen tat qlen md_171 gat_173 kind_174 (.ref (k wi_175)) (.ref (k ti_176)) gs_177 th st rq bl te og sc kd sr wo sa qb du_172) H := hP1
        have hD : va_D A (WE h g len fp many tlen tat qlen md_171 gat_173 kind_174 (.ref (k wi_175)) (.ref (k ti_176)) gs_177 th st rq bl te og sc kd sr wo sa qb du_172) := hD1.weaken (fun _ _ _ h9 => hFc _ h9)
        refine lv_if_eq (tgt := 439) hx hb d_G_take_432 (by decide) (fun c_187 => ?_) (fun c_187 => ?_)
        · refine lv_iconst (v := 0) hx hb d_G_take_439 (by decide) ?_
          have hc_0 : Int32.toInt 0 = 0 := by decide
          exact fin 0 (md_171, du_172, gat_173, kind_174, wi_175, ti_176, gs_177, th, st, rq, bl, te, og) _ _ _ ls d_G_take_440 rfl ⟨(by (try dsimp only); omega), (by (try dsimp only); omega), (by (try dsimp only); omega), (by (try dsimp only); omega), (by (try dsimp only); omega), (by (try dsimp only); omega), rfl⟩ hP hD hS
        · refine lv_iconst (v := 1) hx hb d_G_take_435 (by decide) ?_
          refine lv_goto (tgt := 440) hx hb d_G_take_436 (by decide) ?_
          have hc_1 : Int32.toInt 1 = 1 := by decide
          exact fin 1 (md_171, du_172, gat_173, kind_174, wi_175, ti_176, gs_177, th, st, rq, bl, te, og) _ _ _ ls d_G_take_440 rfl ⟨(by (try dsimp only); omega), (by (try dsimp only); omega), (by (try dsimp only); omega), (by (try dsimp only); omega), (by (try dsimp only); omega), (by (try dsimp only); omega), rfl⟩ hP hD hS
  · refine lv_tableIn (off := 440) (tgt := 441) hx hb d_G_take_1 hlo hhi ho (by decide) ?_
    refine lv_aload_n hx hb d_G_take_441 rfl (lv_at hl 0 rfl) ?_
    refine lv_iconst (v := 3) hx hb d_G_take_442 (by decide) ?_
    have hc_3 : Int32.toInt 3 = 3 := by decide
    have hFc := va_free (wc := (WE h g len fp many tlen tat qlen md gat kind (.ref (k wi)) (.ref (k ti)) gs th st rq bl te og sc kd sr wo sa qb du)) hD hS hA [0, 1, 2, 3, 4, 5, 6, 7, 8, 9, 10] rfl
    refine va_calli (va_runV (As := [.int 3]) (rest := []) ⟨hx, hb, hml, hown, ht⟩ (c_G_takeKind l dC dI k h g len fp many tlen tat qlen md gat kind gs th st rq bl te og wi ti sc kd sr sa qb du wo 3 _ (by omega) (by omega) (by omega) (by omega) h_2 (by omega) (by omega) (by omega) (by omega)) (cwV 1 ht (g_V k_525 k_527 k_31 k_77 k_528) rfl rfl rfl (by decide +kernel) ⟨(Nat.le_of_ble_eq_true rfl), (Nat.le_of_ble_eq_true rfl)⟩) ⟨fb_X, va_recv hK hP (ci := 3) (q0 := 9) rfl rfl, pre_X hE hS hFc hP hK hD⟩ rfl rfl hl.1 rfl (lv_room (Nat.le_of_ble_eq_true rfl)) d_G_take_443 ⟨(Nat.le_of_ble_eq_true rfl), (Nat.le_of_ble_eq_true rfl)⟩) hS (fun q _ h9 => hFc q h9) hFc (fun r_194 u_193 t H locs het hvm hw hB hz1 hk1 hS => ?_)
    obtain ⟨gat_188, kind_189, wi_190, ti_191, gs_192⟩ := u_193
    try dsimp only at hw
    obtain ⟨p_195, p_196, p_197, p_198, p_199⟩ := hw
    obtain ⟨hP1, hK1, hD1⟩ := hB
    rw [het] at hP1
    have hP : va_P (dC, dI) cls (WE h g len fp many tlen tat qlen md gat_188 kind_189 (.ref (k wi_190)) (.ref (k ti_191)) gs_192 th st rq bl te og sc kd sr wo sa qb du) H := hP1
    have hD : va_D A (WE h g len fp many tlen tat qlen md gat_188 kind_189 (.ref (k wi_190)) (.ref (k ti_191)) gs_192 th st rq bl te og sc kd sr wo sa qb du) := hD1.weaken (fun _ _ _ h9 => hFc _ h9)
    exact fin r_194 (md, du, gat_188, kind_189, wi_190, ti_191, gs_192, th, st, rq, bl, te, og) _ _ _ ls d_G_take_446 p_199 ⟨(by (try dsimp only); omega), (by (try dsimp only); omega), (by (try dsimp only); omega), (by (try dsimp only); omega), (by (try dsimp only); omega), (by (try dsimp only); omega), p_199⟩ hP hD hS
  · refine lv_tableIn (off := 446) (tgt := 447) hx hb d_G_take_1 hlo hhi ho (by decide) ?_
    refine lv_aload_n hx hb d_G_take_447 rfl (lv_at hl 0 rfl) ?_
    refine lv_sipush (v := 256) hx hb d_G_take_448 (by decide) ?_
    have hc_256 : Int32.toInt 256 = 256 := by decide
    have hFc := va_free (wc := (WE h g len fp many tlen tat qlen md gat kind (.ref (k wi)) (.ref (k ti)) gs th st rq bl te og sc kd sr wo sa qb du)) hD hS hA [0, 1, 2, 3, 4, 5, 6, 7, 8, 9, 10] rfl
    refine va_calli (va_runV (As := [.int 256]) (rest := []) ⟨hx, hb, hml, hown, ht⟩ (c_G_takeString l dC dI k h g len fp many tlen tat qlen md gat kind gs th st rq bl te og wi ti sc kd sr sa qb du wo 256 _ (by omega) (by omega) (by omega) (by omega) h_2 (by omega) (by omega) (by omega) (by omega)) (cwV 1 ht (g_V k_529 k_531 k_32 k_77 k_532) rfl rfl rfl (by decide +kernel) ⟨(Nat.le_of_ble_eq_true rfl), (Nat.le_of_ble_eq_true rfl)⟩) ⟨fb_X, va_recv hK hP (ci := 3) (q0 := 9) rfl rfl, pre_X hE hS hFc hP hK hD⟩ rfl rfl hl.1 rfl (lv_room (Nat.le_of_ble_eq_true rfl)) d_G_take_451 ⟨(Nat.le_of_ble_eq_true rfl), (Nat.le_of_ble_eq_true rfl)⟩) hS (fun q _ h9 => hFc q h9) hFc (fun r_208 u_207 t H locs het hvm hw hB hz1 hk1 hS => ?_)
    obtain ⟨gat_200, kind_201, wi_202, ti_203, gs_204, st_205, rq_206⟩ := u_207
    try dsimp only at hw
    obtain ⟨p_209, p_210, p_211, p_212, p_213⟩ := hw
    obtain ⟨hP1, hK1, hD1⟩ := hB
    rw [het] at hP1
    have hP : va_P (dC, dI) cls (WE h g len fp many tlen tat qlen md gat_200 kind_201 (.ref (k wi_202)) (.ref (k ti_203)) gs_204 th st_205 rq_206 bl te og sc kd sr wo sa qb du) H := hP1
    have hD : va_D A (WE h g len fp many tlen tat qlen md gat_200 kind_201 (.ref (k wi_202)) (.ref (k ti_203)) gs_204 th st_205 rq_206 bl te og sc kd sr wo sa qb du) := hD1.weaken (fun _ _ _ h9 => hFc _ h9)
    exact fin r_208 (md, du, gat_200, kind_201, wi_202, ti_203, gs_204, th, st_205, rq_206, bl, te, og) _ _ _ ls d_G_take_454 p_213 ⟨(by (try dsimp only); omega), (by (try dsimp only); omega), (by (try dsimp only); omega), (by (try dsimp only); omega), (by (try dsimp only); omega), (by (try dsimp only); omega), p_213⟩ hP hD hS
  · refine lv_tableIn (off := 454) (tgt := 455) hx hb d_G_take_1 hlo hhi ho (by decide) ?_
    refine lv_aload_n hx hb d_G_take_455 rfl (lv_at hl 0 rfl) ?_
    refine lv_sipush (v := 512) hx hb d_G_take_456 (by decide) ?_
    have hc_512 : Int32.toInt 512 = 512 := by decide
    have hFc := va_free (wc := (WE h g len fp many tlen tat qlen md gat kind (.ref (k wi)) (.ref (k ti)) gs th st rq bl te og sc kd sr wo sa qb du)) hD hS hA [0, 1, 2, 3, 4, 5, 6, 7, 8, 9, 10] rfl
    refine va_calli (va_runV (As := [.int 512]) (rest := []) ⟨hx, hb, hml, hown, ht⟩ (c_G_takeString l dC dI k h g len fp many tlen tat qlen md gat kind gs th st rq bl te og wi ti sc kd sr sa qb du wo 512 _ (by omega) (by omega) (by omega) (by omega) h_2 (by omega) (by omega) (by omega) (by omega)) (cwV 1 ht (g_V k_529 k_531 k_32 k_77 k_532) rfl rfl rfl (by decide +kernel) ⟨(Nat.le_of_ble_eq_true rfl), (Nat.le_of_ble_eq_true rfl)⟩) ⟨fb_X, va_recv hK hP (ci := 3) (q0 := 9) rfl rfl, pre_X hE hS hFc hP hK hD⟩ rfl rfl hl.1 rfl (lv_room (Nat.le_of_ble_eq_true rfl)) d_G_take_459 ⟨(Nat.le_of_ble_eq_true rfl), (Nat.le_of_ble_eq_true rfl)⟩) hS (fun q _ h9 => hFc q h9) hFc (fun r_222 u_221 t H locs het hvm hw hB hz1 hk1 hS => ?_)
    obtain ⟨gat_214, kind_215, wi_216, ti_217, gs_218, st_219, rq_220⟩ := u_221
    try dsimp only at hw
    obtain ⟨p_223, p_224, p_225, p_226, p_227⟩ := hw
    obtain ⟨hP1, hK1, hD1⟩ := hB
    rw [het] at hP1
    have hP : va_P (dC, dI) cls (WE h g len fp many tlen tat qlen md gat_214 kind_215 (.ref (k wi_216)) (.ref (k ti_217)) gs_218 th st_219 rq_220 bl te og sc kd sr wo sa qb du) H := hP1
    have hD : va_D A (WE h g len fp many tlen tat qlen md gat_214 kind_215 (.ref (k wi_216)) (.ref (k ti_217)) gs_218 th st_219 rq_220 bl te og sc kd sr wo sa qb du) := hD1.weaken (fun _ _ _ h9 => hFc _ h9)
    exact fin r_222 (md, du, gat_214, kind_215, wi_216, ti_217, gs_218, th, st_219, rq_220, bl, te, og) _ _ _ ls d_G_take_462 p_227 ⟨(by (try dsimp only); omega), (by (try dsimp only); omega), (by (try dsimp only); omega), (by (try dsimp only); omega), (by (try dsimp only); omega), (by (try dsimp only); omega), p_227⟩ hP hD hS
  · refine lv_tableIn (off := 462) (tgt := 463) hx hb d_G_take_1 hlo hhi ho (by decide) ?_
    refine lv_aload_n hx hb d_G_take_463 rfl (lv_at hl 0 rfl) ?_
    refine lv_aload_n hx hb d_G_take_464 rfl (lv_at hl 0 rfl) ?_
    refine lv_sipush (v := 128) hx hb d_G_take_465 (by decide) ?_
    have hc_128 : Int32.toInt 128 = 128 := by decide
    have hFc := va_free (wc := (WE h g len fp many tlen tat qlen md gat kind (.ref (k wi)) (.ref (k ti)) gs th st rq bl te og sc kd sr wo sa qb du)) hD hS hA [0, 1, 2, 3, 4, 5, 6, 7, 8, 9, 10] rfl
    refine va_calli (va_runV (As := [.int 128]) (rest := [.ref (h 9)]) ⟨hx, hb, hml, hown, ht⟩ (c_G_lacks l dC dI k h g len fp many tlen tat qlen md gat kind gs th st rq bl te og wi ti sc kd sr sa qb du wo 128 _  ) (cwV 1 ht (g_V k_498 k_500 k_27 k_77 k_501) rfl rfl rfl (by decide +kernel) ⟨(Nat.le_of_ble_eq_true rfl), (Nat.le_of_ble_eq_true rfl)⟩) ⟨fb_X, va_recv hK hP (ci := 3) (q0 := 9) rfl rfl, pre_X hE hS hFc hP hK hD⟩ rfl rfl hl.1 rfl (lv_room (Nat.le_of_ble_eq_true rfl)) d_G_take_468 ⟨(Nat.le_of_ble_eq_true rfl), (Nat.le_of_ble_eq_true rfl)⟩) hS (fun q _ h9 => hFc q h9) hFc (fun r_229 u_228 t H locs het hvm hw hB hz1 hk1 hS => ?_)
    have p_230 := hw
    obtain ⟨hP1, hK1, hD1⟩ := hB
    rw [het] at hP1
    have hP : va_P (dC, dI) cls (WE h g len fp many tlen tat qlen md gat kind (.ref (k wi)) (.ref (k ti)) gs th st rq bl te og sc kd sr wo sa qb du) H := hP1
    have hD : va_D A (WE h g len fp many tlen tat qlen md gat kind (.ref (k wi)) (.ref (k ti)) gs th st rq bl te og sc kd sr wo sa qb du) := hD1.weaken (fun _ _ _ h9 => hFc _ h9)
    refine lv_if_eq (tgt := 480) hx hb d_G_take_471 (by decide) (fun c_231 => ?_) (fun c_231 => ?_)
    · refine lv_sipush (v := 3072) hx hb d_G_take_480 (by decide) ?_
      have hc_3072 : Int32.toInt 3072 = 3072 := by decide
      have hFc := va_free (wc := (WE h g len fp many tlen tat qlen md gat kind (.ref (k wi)) (.ref (k ti)) gs th st rq bl te og sc kd sr wo sa qb du)) hD hS hA [0, 1, 2, 3, 4, 5, 6, 7, 8, 9, 10] rfl
      refine va_calli (va_runV (As := [.int 3072]) (rest := []) ⟨hx, hb, hml, hown, ht⟩ (c_G_takeString l dC dI k h g len fp many tlen tat qlen md gat kind gs th st rq bl te og wi ti sc kd sr sa qb du wo 3072 _ (by omega) (by omega) (by omega) (by omega) h_2 (by omega) (by omega) (by omega) (by omega)) (cwV 1 ht (g_V k_529 k_531 k_32 k_77 k_532) rfl rfl rfl (by decide +kernel) ⟨(Nat.le_of_ble_eq_true rfl), (Nat.le_of_ble_eq_true rfl)⟩) ⟨fb_X, va_recv hK hP (ci := 3) (q0 := 9) rfl rfl, pre_X hE hS hFc hP hK hD⟩ rfl rfl hl.1 rfl (lv_room (Nat.le_of_ble_eq_true rfl)) d_G_take_483 ⟨(Nat.le_of_ble_eq_true rfl), (Nat.le_of_ble_eq_true rfl)⟩) hS (fun q _ h9 => hFc q h9) hFc (fun r_240 u_239 t H locs het hvm hw hB hz1 hk1 hS => ?_)
      obtain ⟨gat_232, kind_233, wi_234, ti_235, gs_236, st_237, rq_238⟩ := u_239
      try dsimp only at hw
      obtain ⟨p_241, p_242, p_243, p_244, p_245⟩ := hw
      obtain ⟨hP1, hK1, hD1⟩ := hB
      rw [het] at hP1
      have hP : va_P (dC, dI) cls (WE h g len fp many tlen tat qlen md gat_232 kind_233 (.ref (k wi_234)) (.ref (k ti_235)) gs_236 th st_237 rq_238 bl te og sc kd sr wo sa qb du) H := hP1
      have hD : va_D A (WE h g len fp many tlen tat qlen md gat_232 kind_233 (.ref (k wi_234)) (.ref (k ti_235)) gs_236 th st_237 rq_238 bl te og sc kd sr wo sa qb du) := hD1.weaken (fun _ _ _ h9 => hFc _ h9)
      exact fin r_240 (md, du, gat_232, kind_233, wi_234, ti_235, gs_236, th, st_237, rq_238, bl, te, og) _ _ _ ls d_G_take_486 p_245 ⟨(by (try dsimp only); omega), (by (try dsimp only); omega), (by (try dsimp only); omega), (by (try dsimp only); omega), (by (try dsimp only); omega), (by (try dsimp only); omega), p_245⟩ hP hD hS
    · refine lv_sipush (v := 1024) hx hb d_G_take_474 (by decide) ?_
      refine lv_goto (tgt := 483) hx hb d_G_take_477 (by decide) ?_
      have hc_1024 : Int32.toInt 1024 = 1024 := by decide
      have hFc := va_free (wc := (WE h g len fp many tlen tat qlen md gat kind (.ref (k wi)) (.ref (k ti)) gs th st rq bl te og sc kd sr wo sa qb du)) hD hS hA [0, 1, 2, 3, 4, 5, 6, 7, 8, 9, 10] rfl
      refine va_calli (va_runV (As := [.int 1024]) (rest := []) ⟨hx, hb, hml, hown, ht⟩ (c_G_takeString l dC dI k h g len fp many tlen tat qlen md gat kind gs th st rq bl te og wi ti sc kd sr sa qb du wo 1024 _ (by omega) (by omega) (by omega) (by omega) h_2 (by omega) (by omega) (by omega) (by omega)) (cwV 1 ht (g_V k_529 k_531 k_32 k_77 k_532) rfl rfl rfl (by decide +kernel) ⟨(Nat.le_of_ble_eq_true rfl), (Nat.le_of_ble_eq_true rfl)⟩) ⟨fb_X, va_recv hK hP (ci := 3) (q0 := 9) rfl rfl, pre_X hE hS hFc hP hK hD⟩ rfl rfl hl.1 rfl (lv_room (Nat.le_of_ble_eq_true rfl)) d_G_take_483 ⟨(Nat.le_of_ble_eq_true rfl), (Nat.le_of_ble_eq_true rfl)⟩) hS (fun q _ h9 => hFc q h9) hFc (fun r_254 u_253 t H locs het hvm hw hB hz1 hk1 hS => ?_)
      obtain ⟨gat_246, kind_247, wi_248, ti_249, gs_250, st_251, rq_252⟩ := u_253
      try dsimp only at hw
      obtain ⟨p_255, p_256, p_257, p_258, p_259⟩ := hw
      obtain ⟨hP1, hK1, hD1⟩ := hB
      rw [het] at hP1
      have hP : va_P (dC, dI) cls (WE h g len fp many tlen tat qlen md gat_246 kind_247 (.ref (k wi_248)) (.ref (k ti_249)) gs_250 th st_251 rq_252 bl te og sc kd sr wo sa qb du) H := hP1
      have hD : va_D A (WE h g len fp many tlen tat qlen md gat_246 kind_247 (.ref (k wi_248)) (.ref (k ti_249)) gs_250 th st_251 rq_252 bl te og sc kd sr wo sa qb du) := hD1.weaken (fun _ _ _ h9 => hFc _ h9)
      exact fin r_254 (md, du, gat_246, kind_247, wi_248, ti_249, gs_250, th, st_251, rq_252, bl, te, og) _ _ _ ls d_G_take_486 p_259 ⟨(by (try dsimp only); omega), (by (try dsimp only); omega), (by (try dsimp only); omega), (by (try dsimp only); omega), (by (try dsimp only); omega), (by (try dsimp only); omega), p_259⟩ hP hD hS
  · refine lv_tableIn (off := 486) (tgt := 487) hx hb d_G_take_1 hlo hhi ho (by decide) ?_
    refine lv_aload_n hx hb d_G_take_487 rfl (lv_at hl 0 rfl) ?_
    refine lv_sipush (v := 4096) hx hb d_G_take_488 (by decide) ?_
    have hc_4096 : Int32.toInt 4096 = 4096 := by decide
    have hFc := va_free (wc := (WE h g len fp many tlen tat qlen md gat kind (.ref (k wi)) (.ref (k ti)) gs th st rq bl te og sc kd sr wo sa qb du)) hD hS hA [0, 1, 2, 3, 4, 5, 6, 7, 8, 9, 10] rfl
    refine va_calli (va_runV (As := [.int 4096]) (rest := []) ⟨hx, hb, hml, hown, ht⟩ (c_G_takeString l dC dI k h g len fp many tlen tat qlen md gat kind gs th st rq bl te og wi ti sc kd sr sa qb du wo 4096 _ (by omega) (by omega) (by omega) (by omega) h_2 (by omega) (by omega) (by omega) (by omega)) (cwV 1 ht (g_V k_529 k_531 k_32 k_77 k_532) rfl rfl rfl (by decide +kernel) ⟨(Nat.le_of_ble_eq_true rfl), (Nat.le_of_ble_eq_true rfl)⟩) ⟨fb_X, va_recv hK hP (ci := 3) (q0 := 9) rfl rfl, pre_X hE hS hFc hP hK hD⟩ rfl rfl hl.1 rfl (lv_room (Nat.le_of_ble_eq_true rfl)) d_G_take_491 ⟨(Nat.le_of_ble_eq_true rfl), (Nat.le_of_ble_eq_true rfl)⟩) hS (fun q _ h9 => hFc q h9) hFc (fun r_268 u_267 t H locs het hvm hw hB hz1 hk1 hS => ?_)
    obtain ⟨gat_260, kind_261, wi_262, ti_263, gs_264, st_265, rq_266⟩ := u_267
    try dsimp only at hw
    obtain ⟨p_269, p_270, p_271, p_272, p_273⟩ := hw
    obtain ⟨hP1, hK1, hD1⟩ := hB
    rw [het] at hP1
    have hP : va_P (dC, dI) cls (WE h g len fp many tlen tat qlen md gat_260 kind_261 (.ref (k wi_262)) (.ref (k ti_263)) gs_264 th st_265 rq_266 bl te og sc kd sr wo sa qb du) H := hP1
    have hD : va_D A (WE h g len fp many tlen tat qlen md gat_260 kind_261 (.ref (k wi_262)) (.ref (k ti_263)) gs_264 th st_265 rq_266 bl te og sc kd sr wo sa qb du) := hD1.weaken (fun _ _ _ h9 => hFc _ h9)
    exact fin r_268 (md, du, gat_260, kind_261, wi_262, ti_263, gs_264, th, st_265, rq_266, bl, te, og) _ _ _ ls d_G_take_494 p_273 ⟨(by (try dsimp only); omega), (by (try dsimp only); omega), (by (try dsimp only); omega), (by (try dsimp only); omega), (by (try dsimp only); omega), (by (try dsimp only); omega), p_273⟩ hP hD hS
  · refine lv_tableIn (off := 494) (tgt := 495) hx hb d_G_take_1 hlo hhi ho (by decide) ?_
    refine lv_aload_n hx hb d_G_take_495 rfl (lv_at hl 0 rfl) ?_
    refine lv_sipush (v := 8192) hx hb d_G_take_496 (by decide) ?_
    have hc_8192 : Int32.toInt 8192 = 8192 := by decide
    have hFc := va_free (wc := (WE h g len fp many tlen tat qlen md gat kind (.ref (k wi)) (.ref (k ti)) gs th st rq bl te og sc kd sr wo sa qb du)) hD hS hA [0, 1, 2, 3, 4, 5, 6, 7, 8, 9, 10] rfl
    refine va_calli (va_runV (As := [.int 8192]) (rest := []) ⟨hx, hb, hml, hown, ht⟩ (c_G_takeString l dC dI k h g len fp many tlen tat qlen md gat kind gs th st rq bl te og wi ti sc kd sr sa qb du wo 8192 _ (by omega) (by omega) (by omega) (by omega) h_2 (by omega) (by omega) (by omega) (by omega)) (cwV 1 ht (g_V k_529 k_531 k_32 k_77 k_532) rfl rfl rfl (by decide +kernel) ⟨(Nat.le_of_ble_eq_true rfl), (Nat.le_of_ble_eq_true rfl)⟩) ⟨fb_X, va_recv hK hP (ci := 3) (q0 := 9) rfl rfl, pre_X hE hS hFc hP hK hD⟩ rfl rfl hl.1 rfl (lv_room (Nat.le_of_ble_eq_true rfl)) d_G_take_499 ⟨(Nat.le_of_ble_eq_true rfl), (Nat.le_of_ble_eq_true rfl)⟩) hS (fun q _ h9 => hFc q h9) hFc (fun r_282 u_281 t H locs het hvm hw hB hz1 hk1 hS => ?_)
    obtain ⟨gat_274, kind_275, wi_276, ti_277, gs_278, st_279, rq_280⟩ := u_281
    try dsimp only at hw
    obtain ⟨p_283, p_284, p_285, p_286, p_287⟩ := hw
    obtain ⟨hP1, hK1, hD1⟩ := hB
    rw [het] at hP1
    have hP : va_P (dC, dI) cls (WE h g len fp many tlen tat qlen md gat_274 kind_275 (.ref (k wi_276)) (.ref (k ti_277)) gs_278 th st_279 rq_280 bl te og sc kd sr wo sa qb du) H := hP1
    have hD : va_D A (WE h g len fp many tlen tat qlen md gat_274 kind_275 (.ref (k wi_276)) (.ref (k ti_277)) gs_278 th st_279 rq_280 bl te og sc kd sr wo sa qb du) := hD1.weaken (fun _ _ _ h9 => hFc _ h9)
    exact fin r_282 (md, du, gat_274, kind_275, wi_276, ti_277, gs_278, th, st_279, rq_280, bl, te, og) _ _ _ ls d_G_take_502 p_287 ⟨(by (try dsimp only); omega), (by (try dsimp only); omega), (by (try dsimp only); omega), (by (try dsimp only); omega), (by (try dsimp only); omega), (by (try dsimp only); omega), p_287⟩ hP hD hS
  · refine lv_tableIn (off := 502) (tgt := 503) hx hb d_G_take_1 hlo hhi ho (by decide) ?_
    refine lv_aload_n hx hb d_G_take_503 rfl (lv_at hl 0 rfl) ?_
    refine lv_sipush (v := 256) hx hb d_G_take_504 (by decide) ?_
    have hc_256 : Int32.toInt 256 = 256 := by decide
    have hFc := va_free (wc := (WE h g len fp many tlen tat qlen md gat kind (.ref (k wi)) (.ref (k ti)) gs th st rq bl te og sc kd sr wo sa qb du)) hD hS hA [0, 1, 2, 3, 4, 5, 6, 7, 8, 9, 10] rfl
    refine va_calli (va_runV (As := [.int 256]) (rest := []) ⟨hx, hb, hml, hown, ht⟩ (c_G_takeStrings l dC dI k h g len fp many tlen tat qlen md gat kind gs th st rq bl te og wi ti sc kd sr sa qb du wo 256 _ (by omega) (by omega) (by omega) (by omega) h_2 (by omega) (by omega) (by omega) (by omega)) (cwV 1 ht (g_V k_533 k_535 k_33 k_77 k_536) rfl rfl rfl (by decide +kernel) ⟨(Nat.le_of_ble_eq_true rfl), (Nat.le_of_ble_eq_true rfl)⟩) ⟨fb_X, va_recv hK hP (ci := 3) (q0 := 9) rfl rfl, pre_X hE hS hFc hP hK hD⟩ rfl rfl hl.1 rfl (lv_room (Nat.le_of_ble_eq_true rfl)) d_G_take_507 ⟨(Nat.le_of_ble_eq_true rfl), (Nat.le_of_ble_eq_true rfl)⟩) hS (fun q _ h9 => hFc q h9) hFc (fun r_296 u_295 t H locs het hvm hw hB hz1 hk1 hS => ?_)
    obtain ⟨gat_288, kind_289, wi_290, ti_291, gs_292, st_293, rq_294⟩ := u_295
    try dsimp only at hw
    obtain ⟨p_297, p_298, p_299, p_300, p_301⟩ := hw
    obtain ⟨hP1, hK1, hD1⟩ := hB
    rw [het] at hP1
    have hP : va_P (dC, dI) cls (WE h g len fp many tlen tat qlen md gat_288 kind_289 (.ref (k wi_290)) (.ref (k ti_291)) gs_292 th st_293 rq_294 bl te og sc kd sr wo sa qb du) H := hP1
    have hD : va_D A (WE h g len fp many tlen tat qlen md gat_288 kind_289 (.ref (k wi_290)) (.ref (k ti_291)) gs_292 th st_293 rq_294 bl te og sc kd sr wo sa qb du) := hD1.weaken (fun _ _ _ h9 => hFc _ h9)
    exact fin r_296 (md, du, gat_288, kind_289, wi_290, ti_291, gs_292, th, st_293, rq_294, bl, te, og) _ _ _ ls d_G_take_510 p_301 ⟨(by (try dsimp only); omega), (by (try dsimp only); omega), (by (try dsimp only); omega), (by (try dsimp only); omega), (by (try dsimp only); omega), (by (try dsimp only); omega), p_301⟩ hP hD hS
  · refine lv_tableIn (off := 510) (tgt := 511) hx hb d_G_take_1 hlo hhi ho (by decide) ?_
    refine lv_aload_n hx hb d_G_take_511 rfl (lv_at hl 0 rfl) ?_
    refine lv_sipush (v := 255) hx hb d_G_take_512 (by decide) ?_
    have hc_255 : Int32.toInt 255 = 255 := by decide
    have hFc := va_free (wc := (WE h g len fp many tlen tat qlen md gat kind (.ref (k wi)) (.ref (k ti)) gs th st rq bl te og sc kd sr wo sa qb du)) hD hS hA [0, 1, 2, 3, 4, 5, 6, 7, 8, 9, 10] rfl
    refine va_calli (va_runV (As := [.int 255]) (rest := []) ⟨hx, hb, hml, hown, ht⟩ (c_G_takeStrings l dC dI k h g len fp many tlen tat qlen md gat kind gs th st rq bl te og wi ti sc kd sr sa qb du wo 255 _ (by omega) (by omega) (by omega) (by omega) h_2 (by omega) (by omega) (by omega) (by omega)) (cwV 1 ht (g_V k_533 k_535 k_33 k_77 k_536) rfl rfl rfl (by decide +kernel) ⟨(Nat.le_of_ble_eq_true rfl), (Nat.le_of_ble_eq_true rfl)⟩) ⟨fb_X, va_recv hK hP (ci := 3) (q0 := 9) rfl rfl, pre_X hE hS hFc hP hK hD⟩ rfl rfl hl.1 rfl (lv_room (Nat.le_of_ble_eq_true rfl)) d_G_take_515 ⟨(Nat.le_of_ble_eq_true rfl), (Nat.le_of_ble_eq_true rfl)⟩) hS (fun q _ h9 => hFc q h9) hFc (fun r_310 u_309 t H locs het hvm hw hB hz1 hk1 hS => ?_)
    obtain ⟨gat_302, kind_303, wi_304, ti_305, gs_306, st_307, rq_308⟩ := u_309
    try dsimp only at hw
    obtain ⟨p_311, p_312, p_313, p_314, p_315⟩ := hw
    obtain ⟨hP1, hK1, hD1⟩ := hB
    rw [het] at hP1
    have hP : va_P (dC, dI) cls (WE h g len fp many tlen tat qlen md gat_302 kind_303 (.ref (k wi_304)) (.ref (k ti_305)) gs_306 th st_307 rq_308 bl te og sc kd sr wo sa qb du) H := hP1
    have hD : va_D A (WE h g len fp many tlen tat qlen md gat_302 kind_303 (.ref (k wi_304)) (.ref (k ti_305)) gs_306 th st_307 rq_308 bl te og sc kd sr wo sa qb du) := hD1.weaken (fun _ _ _ h9 => hFc _ h9)
    exact fin r_310 (md, du, gat_302, kind_303, wi_304, ti_305, gs_306, th, st_307, rq_308, bl, te, og) _ _ _ ls d_G_take_518 p_315 ⟨(by (try dsimp only); omega), (by (try dsimp only); omega), (by (try dsimp only); omega), (by (try dsimp only); omega), (by (try dsimp only); omega), (by (try dsimp only); omega), p_315⟩ hP hD hS
  · refine lv_tableIn (off := 518) (tgt := 519) hx hb d_G_take_1 hlo hhi ho (by decide) ?_
    refine lv_aload_n hx hb d_G_take_519 rfl (lv_at hl 0 rfl) ?_
    refine va_get (D := (dC, dI)) (ci := 3) (v := .int kind) (C := "SieveDesk$Grammar") (T := F_G) (N := 14) hx hb ht i_G hown hK hP 9 rfl rfl 4 (by decide) (ht _ k_164) (fun _ h9 => h9) rfl d_G_take_520 ?_
    refine lv_iconst (v := 5) hx hb d_G_take_523 (by decide) ?_
    refine lv_icmp_ne (tgt := 531) hx hb d_G_take_524 (by decide) (fun c_316 => ?_) (fun c_316 => ?_)
    · refine lv_iconst (v := 0) hx hb d_G_take_531 (by decide) ?_
      have hc_0 : Int32.toInt 0 = 0 := by decide
      exact fin 0 (md, du, gat, kind, wi, ti, gs, th, st, rq, bl, te, og) _ _ _ ls d_G_take_532 rfl ⟨(by (try dsimp only); omega), (by (try dsimp only); omega), (by (try dsimp only); omega), (by (try dsimp only); omega), (by (try dsimp only); omega), (by (try dsimp only); omega), rfl⟩ hP hD hS
    · refine lv_iconst (v := 1) hx hb d_G_take_527 (by decide) ?_
      refine lv_goto (tgt := 532) hx hb d_G_take_528 (by decide) ?_
      have hc_1 : Int32.toInt 1 = 1 := by decide
      exact fin 1 (md, du, gat, kind, wi, ti, gs, th, st, rq, bl, te, og) _ _ _ ls d_G_take_532 rfl ⟨(by (try dsimp only); omega), (by (try dsimp only); omega), (by (try dsimp only); omega), (by (try dsimp only); omega), (by (try dsimp only); omega), (by (try dsimp only); omega), rfl⟩ hP hD hS
  · refine lv_tableIn (off := 532) (tgt := 533) hx hb d_G_take_1 hlo hhi ho (by decide) ?_
    refine lv_aload_n hx hb d_G_take_533 rfl (lv_at hl 0 rfl) ?_
    refine lv_iload_n hx hb d_G_take_534 rfl (lv_at hl 1 rfl) ?_
    have hFc := va_free (wc := (WE h g len fp many tlen tat qlen md gat kind (.ref (k wi)) (.ref (k ti)) gs th st rq bl te og sc kd sr wo sa qb du)) hD hS hA [0, 1, 2, 3, 4, 5, 6, 7, 8, 9, 10] rfl
    refine va_calli (va_runV (As := [.int sg]) (rest := []) ⟨hx, hb, hml, hown, ht⟩ (c_G_takeSign l dC dI k h g len fp many tlen tat qlen md gat kind gs th st rq bl te og wi ti sc kd sr sa qb du wo sg _ (by omega) (by omega) (by omega) (by omega) h_2 (by omega) (by omega) (by omega) (by omega)) (cwV 1 ht (g_V k_537 k_539 k_34 k_77 k_540) rfl rfl rfl (by decide +kernel) ⟨(Nat.le_of_ble_eq_true rfl), (Nat.le_of_ble_eq_true rfl)⟩) ⟨fb_X, va_recv hK hP (ci := 3) (q0 := 9) rfl rfl, pre_X hE hS hFc hP hK hD⟩ rfl rfl hl.1 rfl (lv_room (Nat.le_of_ble_eq_true rfl)) d_G_take_535 ⟨(Nat.le_of_ble_eq_true rfl), (Nat.le_of_ble_eq_true rfl)⟩) hS (fun q _ h9 => hFc q h9) hFc (fun r_324 u_323 t H locs het hvm hw hB hz1 hk1 hS => ?_)
    obtain ⟨gat_317, kind_318, wi_319, ti_320, gs_321, bl_322⟩ := u_323
    try dsimp only at hw
    obtain ⟨p_325, p_326, p_327, p_328, p_329⟩ := hw
    obtain ⟨hP1, hK1, hD1⟩ := hB
    rw [het] at hP1
    have hP : va_P (dC, dI) cls (WE h g len fp many tlen tat qlen md gat_317 kind_318 (.ref (k wi_319)) (.ref (k ti_320)) gs_321 th st rq bl_322 te og sc kd sr wo sa qb du) H := hP1
    have hD : va_D A (WE h g len fp many tlen tat qlen md gat_317 kind_318 (.ref (k wi_319)) (.ref (k ti_320)) gs_321 th st rq bl_322 te og sc kd sr wo sa qb du) := hD1.weaken (fun _ _ _ h9 => hFc _ h9)
    exact fin r_324 (md, du, gat_317, kind_318, wi_319, ti_320, gs_321, th, st, rq, bl_322, te, og) _ _ _ ls d_G_take_538 p_329 ⟨(by (try dsimp only); omega), (by (try dsimp only); omega), (by (try dsimp only); omega), (by (try dsimp only); omega), (by (try dsimp only); omega), (by (try dsimp only); omega), p_329⟩ hP hD hS
set_option maxHeartbeats 4000000 in
set_option maxRecDepth 100000 in
theorem c_G_take (l : Launch) (dC : Nat → ClassId) (dI : Nat → Nat → Nat) (k : Nat → Nat) (h : Nat → Nat) (g : Nat → ClassId) (len : Int32) (fp : Int32) (many : Int32) (tlen : Int32) (tat : Int32) (qlen : Int32) (md : Int32) (gat : Int32) (kind : Int32) (gs : Int32) (th : Int32) (st : Int32) (rq : Int32) (bl : Int32) (te : Int32) (og : Int32) (wi : Nat) (ti : Nat) (sc : Nat → Int32) (kd : Nat → Int32) (sr : Nat → Int32) (sa : Nat → Int32) (qb : Nat → Int32) (du : Nat → Int32) (wo : Nat → Option Nat) (sg : Int32) (sz : Nat) (h_0 : 0 ≤ Int32.toInt many) (h_1 : Int32.toInt many ≤ 401) (h_2 : WOk k wo) (v_0 : 0 ≤ Int32.toInt md) (v_1 : Int32.toInt md ≤ 200) (v_2 : -1 ≤ Int32.toInt gat) (v_3 : Int32.toInt gat ≤ 400) (v_4 : wi < 43) (v_5 : ti < 43) : Met l y_G_take (.code y_G_take b_G_take 2 (some .boolean) :: TT) ({ frames := 8, cells := 0, slots := 0, locals := 168 }) (va_Pc [.ref (h 9), .int sg] (PX dC dI k (TE g) (WE h g len fp many tlen tat qlen md gat kind (.ref (k wi)) (.ref (k ti)) gs th st rq bl te og sc kd sr wo sa qb du) sz)) (va_Qi (fun (r : Int32) (u : Int32 × (Nat → Int32) × Int32 × Int32 × Nat × Nat × Int32 × Int32 × Int32 × Int32 × Int32 × Int32 × Int32) => 0 ≤ Int32.toInt u.1 ∧ Int32.toInt u.1 ≤ 200 ∧ -1 ≤ Int32.toInt u.2.2.1 ∧ Int32.toInt u.2.2.1 ≤ 400 ∧ u.2.2.2.2.1 < 43 ∧ u.2.2.2.2.2.1 < 43 ∧ narrow .boolean (.int r) = .int r) (fun u t => BX dC dI (TE g) (va_A (WE h g len fp many tlen tat qlen md gat kind (.ref (k wi)) (.ref (k ti)) gs th st rq bl te og sc kd sr wo sa qb du) sz) (WE h g len fp many tlen tat qlen u.1 u.2.2.1 u.2.2.2.1 (.ref (k u.2.2.2.2.1)) (.ref (k u.2.2.2.2.2.1)) u.2.2.2.2.2.2.1 u.2.2.2.2.2.2.2.1 u.2.2.2.2.2.2.2.2.1 u.2.2.2.2.2.2.2.2.2.1 u.2.2.2.2.2.2.2.2.2.2.1 u.2.2.2.2.2.2.2.2.2.2.2.1 u.2.2.2.2.2.2.2.2.2.2.2.2 sc kd sr wo sa qb u.2.1) t) (va_A (WE h g len fp many tlen tat qlen md gat kind (.ref (k wi)) (.ref (k ti)) gs th st rq bl te og sc kd sr wo sa qb du) sz)) 0 0 (va_A (WE h g len fp many tlen tat qlen md gat kind (.ref (k wi)) (.ref (k ti)) gs th st rq bl te og sc kd sr wo sa qb du) sz) := by
  refine Met.ofW (cc := b_G_take) (maxL := 2) (ret := (some .boolean)) (by decide) rfl ?_
  intro p e s m args below meth c s₁ B hml hv
  obtain ⟨rfl, hsz, hE, hP, hK, hD0⟩ := hv
  have hx := B.exec
  have hb := B.bytes
  have hr := B.returns
  have ht : ∀ w ∈ TT, w.before _ s = true := fun w hw => atoms_spec (ws := .code y_G_take b_G_take 2 (some .boolean) :: TT) B.pre w (List.mem_cons_of_mem _ hw)
  have hown : s.vm.findClass "SieveDesk$Grammar" = some m.cls := findClass_of_methodNamed B.named
  have hlocks := B.notSynchronized
  subst hsz
  have hD := hD0.self (sz := s.heap.size)
  generalize hAe : va_A (WE h g len fp many tlen tat qlen md gat kind (.ref (k wi)) (.ref (k ti)) gs th st rq bl te og sc kd sr wo sa qb du) s.heap.size = A at hE hD ⊢
  have hA : ∀ q : Nat, s.heap.size ≤ q → A q := fun q h9 => by rw [← hAe]; exact Or.inr h9
  have hS : va_S A s.heap s.heap [] := va_S.rf
  have hl := lv_entry ([.ref (h 9), .int sg]) (n := 2) (Nat.le_of_ble_eq_true rfl)
  rw [lg_entry_eq]
  generalize (lg_sl ([.ref (h 9), .int sg]) ++ List.replicate (2 - (lg_sl ([.ref (h 9), .int sg])).length) Slot.unset).toArray = ls at hl ⊢
  have hl : lv_has ls 2 [(0, .ref (h 9)), (1, .int sg)] := hl
  exact bd_G_take_0 (sg := sg) hx hb hml hown ht hE hA hK h_0 h_1 h_2 (fun r u H locs pc ls hd hn hp hP hD hS => W.zret hx hb hr hn (fun t het hW => ⟨⟨r, u, rfl, hp, by rw [het]; exact hP, va_K.moved hW.alike hK, hD⟩, hS.F het⟩) hS.2.2 hd) md du gat kind wi ti gs th st rq bl te og v_0 v_1 v_2 v_3 v_4 v_5 _ _ ls hP hD hS hl
set_option maxHeartbeats 4000000 in
set_option maxRecDepth 100000 in
theorem lp_G_reads_52 {p : Program} {l : Launch} {e : Env} {s : State} {m : MethodId} {args : Array Value} {below : List Frame} {meth : Method} {c : Code} {Q : State → Prop} {A : Nat → Prop} {dC : Nat → ClassId} {dI : Nat → Nat → Nat} {k h : Nat → Nat} {g : Nat → ClassId} {len : Int32} {fp : Int32} {many : Int32} {tlen : Int32} {tat : Int32} {qlen : Int32} {sc : Nat → Int32} {kd : Nat → Int32} {sr : Nat → Int32} {sa : Nat → Int32} {qb : Nat → Int32} {wo : Nat → Option Nat} (hx : p.tables.exec = Jvm.exec) (hb : c.code = b_G_reads) (hml : c.maxLocals = 2) (hown : s.vm.findClass "SieveDesk$Grammar" = some m.cls) (ht : ∀ w ∈ TT, w.before args s = true) (hE : KE k A s s.heap) (hA : ∀ q : Nat, s.heap.size ≤ q → A q) (hK : va_K (dC, dI) cls (TE g) s)  (h_0 : 0 ≤ Int32.toInt many) (h_1 : Int32.toInt many ≤ 401) (h_2 : WOk k wo) (fin : ∀ (r : Int32) (u : Int32 × (Nat → Int32) × Int32 × Int32 × Nat × Nat × Int32 × Int32 × Int32 × Int32 × Int32 × Int32 × Int32) (H : Heap) (locs : List Loc) (pc : Nat) (ls : Array Slot), decode b_G_reads pc = .ok (.ireturn, 1) → narrow .boolean (.int r) = .int r → (0 ≤ Int32.toInt u.1 ∧ Int32.toInt u.1 ≤ 200 ∧ -1 ≤ Int32.toInt u.2.2.1 ∧ Int32.toInt u.2.2.1 ≤ 400 ∧ u.2.2.2.2.1 < 43 ∧ u.2.2.2.2.2.1 < 43 ∧ narrow .boolean (.int r) = .int r) → va_P (dC, dI) cls (WE h g len fp many tlen tat qlen u.1 u.2.2.1 u.2.2.2.1 (.ref (k u.2.2.2.2.1)) (.ref (k u.2.2.2.2.2.1)) u.2.2.2.2.2.2.1 u.2.2.2.2.2.2.2.1 u.2.2.2.2.2.2.2.2.1 u.2.2.2.2.2.2.2.2.2.1 u.2.2.2.2.2.2.2.2.2.2.1 u.2.2.2.2.2.2.2.2.2.2.2.1 u.2.2.2.2.2.2.2.2.2.2.2.2 sc kd sr wo sa qb u.2.1) H → va_D A (WE h g len fp many tlen tat qlen u.1 u.2.2.1 u.2.2.2.1 (.ref (k u.2.2.2.2.1)) (.ref (k u.2.2.2.2.2.1)) u.2.2.2.2.2.2.1 u.2.2.2.2.2.2.2.1 u.2.2.2.2.2.2.2.2.1 u.2.2.2.2.2.2.2.2.2.1 u.2.2.2.2.2.2.2.2.2.2.1 u.2.2.2.2.2.2.2.2.2.2.2.1 u.2.2.2.2.2.2.2.2.2.2.2.2 sc kd sr wo sa qb u.2.1) → va_S A s.heap H locs → W p l e ({ frames := 9, cells := 0, slots := 0, locals := 189 } : Room) s m args below meth c H locs 0 0 Q (F0 m pc ls [.int r])) : ∀ (nn : Nat), ∀ (sp : Int32) (md : Int32) (du : Nat → Int32) (gat : Int32) (kind : Int32) (wi : Nat) (ti : Nat) (gs : Int32) (th : Int32) (st : Int32) (rq : Int32) (bl : Int32) (te : Int32) (og : Int32), 0 ≤ Int32.toInt sp → Int32.toInt sp ≤ 10000 → 0 ≤ Int32.toInt md → Int32.toInt md ≤ 200 → -1 ≤ Int32.toInt gat → Int32.toInt gat ≤ 400 → wi < 43 → ti < 43 → (10000 - Int32.toInt sp).toNat < nn → ∀ (H : Heap) (locs : List Loc) (ls : Array Slot), va_P (dC, dI) cls (WE h g len fp many tlen tat qlen md gat kind (.ref (k wi)) (.ref (k ti)) gs th st rq bl te og sc kd sr wo sa qb du) H → va_D A (WE h g len fp many tlen tat qlen md gat kind (.ref (k wi)) (.ref (k ti)) gs th st rq bl te og sc kd sr wo sa qb du) → va_S A s.heap H locs → lv_has ls 2 [(1, .int sp), (0, .ref (h 9))] → W p l e ({ frames := 9, cells := 0, slots := 0, locals := 189 } : Room) s m args below meth c H locs 0 0 Q (F0 m 52 ls []) := by
  intro nn
  induction nn with
  | zero =>
    intro _ _ _ _ _ _ _ _ _ _ _ _ _ _ _ _ _ _ _ _ _ _ hm
    exact absurd hm (Nat.not_lt_zero _)
  | succ nn ih =>
    intro sp md du gat kind wi ti gs th st rq bl te og v_0 v_1 v_2 v_3 v_4 v_5 v_6 v_7 hm H locs ls hP hD hS hl
    refine lv_iload_n hx hb d_G_reads_52 rfl (lv_at hl 0 rfl) ?_
    refine lv_sipush (v := 10000) hx hb d_G_reads_53 (by decide) ?_
    refine lv_icmp_ge (tgt := 100) hx hb d_G_reads_56 (by decide) (fun c_1 => ?_) (fun c_1 => ?_)
    · have dc_1 := i_le c_1 (show Int32.toInt 10000 = 10000 by decide) rfl
      refine lv_aload_n hx hb d_G_reads_100 rfl (lv_at hl 1 rfl) ?_
      refine va_get (D := (dC, dI)) (ci := 3) (v := .int md) (C := "SieveDesk$Grammar") (T := F_G) (N := 14) hx hb ht i_G hown hK hP 9 rfl rfl 2 (by decide) (ht _ k_162) (fun _ h9 => h9) rfl d_G_reads_101 ?_
      refine lv_if_ne (tgt := 111) hx hb d_G_reads_104 (by decide) (fun c_2 => ?_) (fun c_2 => ?_)
      · have dc_2 := i_ne c_2 rfl (show Int32.toInt 0 = 0 by decide)
        refine lv_iconst (v := 0) hx hb d_G_reads_111 (by decide) ?_
        have hc_0 : Int32.toInt 0 = 0 := by decide
        exact fin 0 (md, du, gat, kind, wi, ti, gs, th, st, rq, bl, te, og) _ _ _ ls d_G_reads_112 rfl ⟨(by (try dsimp only); omega), (by (try dsimp only); omega), (by (try dsimp only); omega), (by (try dsimp only); omega), (by (try dsimp only); omega), (by (try dsimp only); omega), rfl⟩ hP hD hS
      · have dc_2 := i_eq c_2 rfl (show Int32.toInt 0 = 0 by decide)
        refine lv_iconst (v := 1) hx hb d_G_reads_107 (by decide) ?_
        refine lv_goto (tgt := 112) hx hb d_G_reads_108 (by decide) ?_
        have hc_1 : Int32.toInt 1 = 1 := by decide
        exact fin 1 (md, du, gat, kind, wi, ti, gs, th, st, rq, bl, te, og) _ _ _ ls d_G_reads_112 rfl ⟨(by (try dsimp only); omega), (by (try dsimp only); omega), (by (try dsimp only); omega), (by (try dsimp only); omega), (by (try dsimp only); omega), (by (try dsimp only); omega), rfl⟩ hP hD hS
    · have dc_1 := i_nle c_1 (show Int32.toInt 10000 = 10000 by decide) rfl
      refine lv_aload_n hx hb d_G_reads_59 rfl (lv_at hl 1 rfl) ?_
      refine va_get (D := (dC, dI)) (ci := 3) (v := .int md) (C := "SieveDesk$Grammar") (T := F_G) (N := 14) hx hb ht i_G hown hK hP 9 rfl rfl 2 (by decide) (ht _ k_162) (fun _ h9 => h9) rfl d_G_reads_60 ?_
      refine lv_if_le (tgt := 100) hx hb d_G_reads_63 (by decide) (fun c_3 => ?_) (fun c_3 => ?_)
      · have dc_3 := i_le c_3 rfl (show Int32.toInt 0 = 0 by decide)
        refine lv_aload_n hx hb d_G_reads_100 rfl (lv_at hl 1 rfl) ?_
        refine va_get (D := (dC, dI)) (ci := 3) (v := .int md) (C := "SieveDesk$Grammar") (T := F_G) (N := 14) hx hb ht i_G hown hK hP 9 rfl rfl 2 (by decide) (ht _ k_162) (fun _ h9 => h9) rfl d_G_reads_101 ?_
        refine lv_if_ne (tgt := 111) hx hb d_G_reads_104 (by decide) (fun c_4 => ?_) (fun c_4 => ?_)
        · have dc_4 := i_ne c_4 rfl (show Int32.toInt 0 = 0 by decide)
          refine lv_iconst (v := 0) hx hb d_G_reads_111 (by decide) ?_
          have hc_0 : Int32.toInt 0 = 0 := by decide
          exact fin 0 (md, du, gat, kind, wi, ti, gs, th, st, rq, bl, te, og) _ _ _ ls d_G_reads_112 rfl ⟨(by (try dsimp only); omega), (by (try dsimp only); omega), (by (try dsimp only); omega), (by (try dsimp only); omega), (by (try dsimp only); omega), (by (try dsimp only); omega), rfl⟩ hP hD hS
        · have dc_4 := i_eq c_4 rfl (show Int32.toInt 0 = 0 by decide)
          refine lv_iconst (v := 1) hx hb d_G_reads_107 (by decide) ?_
          refine lv_goto (tgt := 112) hx hb d_G_reads_108 (by decide) ?_
          have hc_1 : Int32.toInt 1 = 1 := by decide
          exact fin 1 (md, du, gat, kind, wi, ti, gs, th, st, rq, bl, te, og) _ _ _ ls d_G_reads_112 rfl ⟨(by (try dsimp only); omega), (by (try dsimp only); omega), (by (try dsimp only); omega), (by (try dsimp only); omega), (by (try dsimp only); omega), (by (try dsimp only); omega), rfl⟩ hP hD hS
      · have dc_3 := i_nle c_3 rfl (show Int32.toInt 0 = 0 by decide)
        refine lv_aload_n hx hb d_G_reads_66 rfl (lv_at hl 1 rfl) ?_
        refine lv_dup hx hb d_G_reads_67 rfl ?_
        refine va_get (D := (dC, dI)) (ci := 3) (v := .int md) (C := "SieveDesk$Grammar") (T := F_G) (N := 14) hx hb ht i_G hown hK hP 9 rfl rfl 2 (by decide) (ht _ k_162) (fun _ h9 => h9) rfl d_G_reads_68 ?_
        refine lv_iconst (v := 1) hx hb d_G_reads_71 (by decide) ?_
        refine lv_isub hx hb d_G_reads_72 ?_
        have e_5 : Int32.toInt (md - 1) = (Int32.toInt md) - 1 := i_sub rfl (show Int32.toInt 1 = 1 by decide) (by omega) (by omega)
        refine va_put (D := (dC, dI)) (ci := 3) (v := .int (md - 1)) (ty := .int) (C := "SieveDesk$Grammar") (T := F_G) (N := 14) hx hb ht i_G ty_G ty_G_ok n_G hown hK hP hD hS 9 rfl rfl 2 (by decide) (ht _ k_162) (fun _ h9 => h9) rfl (ty_G_ok 2 (by decide)) rfl rfl (Nat.le_of_ble_eq_true rfl) d_G_reads_73 (fun H locs hP hD hS => ?_)
        have hP : va_P (dC, dI) cls (WE h g len fp many tlen tat qlen (md - 1) gat kind (.ref (k wi)) (.ref (k ti)) gs th st rq bl te og sc kd sr wo sa qb du) H := hP
        have hD : va_D A (WE h g len fp many tlen tat qlen (md - 1) gat kind (.ref (k wi)) (.ref (k ti)) gs th st rq bl te og sc kd sr wo sa qb du) := hD
        refine lv_aload_n hx hb d_G_reads_76 rfl (lv_at hl 1 rfl) ?_
        refine lv_aload_n hx hb d_G_reads_77 rfl (lv_at hl 1 rfl) ?_
        refine va_get (D := (dC, dI)) (ci := 3) (v := .ref (h 10)) (C := "SieveDesk$Grammar") (T := F_G) (N := 14) hx hb ht i_G hown hK hP 9 rfl rfl 1 (by decide) (ht _ k_161) (fun _ h9 => h9) rfl d_G_reads_78 ?_
        refine lv_aload_n hx hb d_G_reads_81 rfl (lv_at hl 1 rfl) ?_
        refine va_get (D := (dC, dI)) (ci := 3) (v := .int (md - 1)) (C := "SieveDesk$Grammar") (T := F_G) (N := 14) hx hb ht i_G hown hK hP 9 rfl rfl 2 (by decide) (ht _ k_162) (fun _ h9 => h9) rfl d_G_reads_82 ?_
        refine va_cald hx hb hK hP 10 6 rfl rfl (i_in e_5 (by omega) (by omega)) d_G_reads_85 ?_
        have hFc := va_free (wc := (WE h g len fp many tlen tat qlen (md - 1) gat kind (.ref (k wi)) (.ref (k ti)) gs th st rq bl te og sc kd sr wo sa qb du)) hD hS hA [0, 1, 2, 3, 4, 5, 6, 7, 8, 9, 10] rfl
        refine va_calli (va_runV (As := [.int (du (Int32.toNatClampNeg (md - 1)))]) (rest := []) ⟨hx, hb, hml, hown, ht⟩ (c_G_take l dC dI k h g len fp many tlen tat qlen (md - 1) gat kind gs th st rq bl te og wi ti sc kd sr sa qb du wo (du (Int32.toNatClampNeg (md - 1))) _ (by omega) (by omega) h_2 (by omega) (by omega) (by omega) (by omega) (by omega) (by omega)) (cwV 1 ht (g_V k_477 k_479 k_23 k_77 k_480) rfl rfl rfl (by decide +kernel) ⟨(Nat.le_of_ble_eq_true rfl), (Nat.le_of_ble_eq_true rfl)⟩) ⟨fb_X, va_recv hK hP (ci := 3) (q0 := 9) rfl rfl, pre_X hE hS hFc hP hK hD⟩ rfl rfl hl.1 rfl (lv_room (Nat.le_of_ble_eq_true rfl)) d_G_reads_86 ⟨(Nat.le_of_ble_eq_true rfl), (Nat.le_of_ble_eq_true rfl)⟩) hS (fun q _ h9 => hFc q h9) hFc (fun r_20 u_19 t H locs het hvm hw hB hz1 hk1 hS => ?_)
        obtain ⟨md_6, du_7, gat_8, kind_9, wi_10, ti_11, gs_12, th_13, st_14, rq_15, bl_16, te_17, og_18⟩ := u_19
        try dsimp only at hw
        obtain ⟨p_21, p_22, p_23, p_24, p_25, p_26, p_27⟩ := hw
        obtain ⟨hP1, hK1, hD1⟩ := hB
        rw [het] at hP1
        have hP : va_P (dC, dI) cls (WE h g len fp many tlen tat qlen md_6 gat_8 kind_9 (.ref (k wi_10)) (.ref (k ti_11)) gs_12 th_13 st_14 rq_15 bl_16 te_17 og_18 sc kd sr wo sa qb du_7) H := hP1
        have hD : va_D A (WE h g len fp many tlen tat qlen md_6 gat_8 kind_9 (.ref (k wi_10)) (.ref (k ti_11)) gs_12 th_13 st_14 rq_15 bl_16 te_17 og_18 sc kd sr wo sa qb du_7) := hD1.weaken (fun _ _ _ h9 => hFc _ h9)
        refine lv_if_ne (tgt := 94) hx hb d_G_reads_89 (by decide) (fun c_28 => ?_) (fun c_28 => ?_)
        · refine lv_iinc (v := (sp + 1)) (lv' := [(1, .int (sp + 1)), (0, .ref (h 9))]) hx hb d_G_reads_94 hl (k := 0) rfl rfl (by decide) rfl (fun ls hl => ?_)
          have e_29 : Int32.toInt (sp + 1) = (Int32.toInt sp) + 1 := i_add rfl (show Int32.toInt 1 = 1 by decide) (by omega) (by omega)
          refine lv_goto (tgt := 52) hx hb d_G_reads_97 (by decide) ?_
          exact ih (sp + 1) md_6 du_7 gat_8 kind_9 wi_10 ti_11 gs_12 th_13 st_14 rq_15 bl_16 te_17 og_18 (by omega) (by omega) (by omega) (by omega) (by omega) (by omega) (by omega) (by omega) (by omega) _ _ ls hP hD hS (lv_sub hl [0, 1] rfl)
        · refine lv_iconst (v := 0) hx hb d_G_reads_92 (by decide) ?_
          have hc_0 : Int32.toInt 0 = 0 := by decide
          exact fin 0 (md_6, du_7, gat_8, kind_9, wi_10, ti_11, gs_12, th_13, st_14, rq_15, bl_16, te_17, og_18) _ _ _ ls d_G_reads_93 rfl ⟨(by (try dsimp only); omega), (by (try dsimp only); omega), (by (try dsimp only); omega), (by (try dsimp only); omega), (by (try dsimp only); omega), (by (try dsimp only); omega), rfl⟩ hP hD hS
set_option maxHeartbeats 4000000 in
set_option maxRecDepth 100000 in
theorem bd_G_reads_0 {p : Program} {l : Launch} {e : Env} {s : State} {m : MethodId} {args : Array Value} {below : List Frame} {meth : Method} {c : Code} {Q : State → Prop} {A : Nat → Prop} {dC : Nat → ClassId} {dI : Nat → Nat → Nat} {k h : Nat → Nat} {g : Nat → ClassId} {len : Int32} {fp : Int32} {many : Int32} {tlen : Int32} {tat : Int32} {qlen : Int32} {sc : Nat → Int32} {kd : Nat → Int32} {sr : Nat → Int32} {sa : Nat → Int32} {qb : Nat → Int32} {wo : Nat → Option Nat} (hx : p.tables.exec = Jvm.exec) (hb : c.code = b_G_reads) (hml : c.maxLocals = 2) (hown : s.vm.findClass "SieveDesk$Grammar" = some m.cls) (ht : ∀ w ∈ TT, w.before args s = true) (hE : KE k A s s.heap) (hA : ∀ q : Nat, s.heap.size ≤ q → A q) (hK : va_K (dC, dI) cls (TE g) s)  (h_0 : 0 ≤ Int32.toInt many) (h_1 : Int32.toInt many ≤ 401) (h_2 : WOk k wo) (fin : ∀ (r : Int32) (u : Int32 × (Nat → Int32) × Int32 × Int32 × Nat × Nat × Int32 × Int32 × Int32 × Int32 × Int32 × Int32 × Int32) (H : Heap) (locs : List Loc) (pc : Nat) (ls : Array Slot), decode b_G_reads pc = .ok (.ireturn, 1) → narrow .boolean (.int r) = .int r → (0 ≤ Int32.toInt u.1 ∧ Int32.toInt u.1 ≤ 200 ∧ -1 ≤ Int32.toInt u.2.2.1 ∧ Int32.toInt u.2.2.1 ≤ 400 ∧ u.2.2.2.2.1 < 43 ∧ u.2.2.2.2.2.1 < 43 ∧ narrow .boolean (.int r) = .int r) → va_P (dC, dI) cls (WE h g len fp many tlen tat qlen u.1 u.2.2.1 u.2.2.2.1 (.ref (k u.2.2.2.2.1)) (.ref (k u.2.2.2.2.2.1)) u.2.2.2.2.2.2.1 u.2.2.2.2.2.2.2.1 u.2.2.2.2.2.2.2.2.1 u.2.2.2.2.2.2.2.2.2.1 u.2.2.2.2.2.2.2.2.2.2.1 u.2.2.2.2.2.2.2.2.2.2.2.1 u.2.2.2.2.2.2.2.2.2.2.2.2 sc kd sr wo sa qb u.2.1) H → va_D A (WE h g len fp many tlen tat qlen u.1 u.2.2.1 u.2.2.2.1 (.ref (k u.2.2.2.2.1)) (.ref (k u.2.2.2.2.2.1)) u.2.2.2.2.2.2.1 u.2.2.2.2.2.2.2.1 u.2.2.2.2.2.2.2.2.1 u.2.2.2.2.2.2.2.2.2.1 u.2.2.2.2.2.2.2.2.2.2.1 u.2.2.2.2.2.2.2.2.2.2.2.1 u.2.2.2.2.2.2.2.2.2.2.2.2 sc kd sr wo sa qb u.2.1) → va_S A s.heap H locs → W p l e ({ frames := 9, cells := 0, slots := 0, locals := 189 } : Room) s m args below meth c H locs 0 0 Q (F0 m pc ls [.int r])) : ∀ (md : Int32) (du : Nat → Int32) (gat : Int32) (kind : Int32) (wi : Nat) (ti : Nat) (gs : Int32) (th : Int32) (st : Int32) (rq : Int32) (bl : Int32) (te : Int32) (og : Int32), 0 ≤ Int32.toInt md → Int32.toInt md ≤ 200 → -1 ≤ Int32.toInt gat → Int32.toInt gat ≤ 400 → wi < 43 → ti < 43 → ∀ (H : Heap) (locs : List Loc) (ls : Array Slot), va_P (dC, dI) cls (WE h g len fp many tlen tat qlen md gat kind (.ref (k wi)) (.ref (k ti)) gs th st rq bl te og sc kd sr wo sa qb du) H → va_D A (WE h g len fp many tlen tat qlen md gat kind (.ref (k wi)) (.ref (k ti)) gs th st rq bl te og sc kd sr wo sa qb du) → va_S A s.heap H locs → lv_has ls 2 [(0, .ref (h 9))] → W p l e ({ frames := 9, cells := 0, slots := 0, locals := 189 } : Room) s m args below meth c H locs 0 0 Q (F0 m 0 ls []) := by
  intro md du gat kind wi ti gs th st rq bl te og v_0 v_1 v_2 v_3 v_4 v_5 H locs ls hP hD hS hl
  refine lv_aload_n hx hb d_G_reads_0 rfl (lv_at hl 0 rfl) ?_
  refine lv_iconst (v := 0) hx hb d_G_reads_1 (by decide) ?_
  refine va_put (D := (dC, dI)) (ci := 3) (v := .int 0) (ty := .int) (C := "SieveDesk$Grammar") (T := F_G) (N := 14) hx hb ht i_G ty_G ty_G_ok n_G hown hK hP hD hS 9 rfl rfl 8 (by decide) (ht _ k_168) (fun _ h9 => h9) rfl (ty_G_ok 8 (by decide)) rfl rfl (Nat.le_of_ble_eq_true rfl) d_G_reads_2 (fun H locs hP hD hS => ?_)
  have hP : va_P (dC, dI) cls (WE h g len fp many tlen tat qlen md gat kind (.ref (k wi)) (.ref (k ti)) gs 0 st rq bl te og sc kd sr wo sa qb du) H := hP
  have hD : va_D A (WE h g len fp many tlen tat qlen md gat kind (.ref (k wi)) (.ref (k ti)) gs 0 st rq bl te og sc kd sr wo sa qb du) := hD
  refine lv_aload_n hx hb d_G_reads_5 rfl (lv_at hl 0 rfl) ?_
  refine lv_iconst (v := 0) hx hb d_G_reads_6 (by decide) ?_
  refine va_put (D := (dC, dI)) (ci := 3) (v := .int 0) (ty := .int) (C := "SieveDesk$Grammar") (T := F_G) (N := 14) hx hb ht i_G ty_G ty_G_ok n_G hown hK hP hD hS 9 rfl rfl 9 (by decide) (ht _ k_170) (fun _ h9 => h9) rfl (ty_G_ok 9 (by decide)) rfl rfl (Nat.le_of_ble_eq_true rfl) d_G_reads_7 (fun H locs hP hD hS => ?_)
  have hP : va_P (dC, dI) cls (WE h g len fp many tlen tat qlen md gat kind (.ref (k wi)) (.ref (k ti)) gs 0 0 rq bl te og sc kd sr wo sa qb du) H := hP
  have hD : va_D A (WE h g len fp many tlen tat qlen md gat kind (.ref (k wi)) (.ref (k ti)) gs 0 0 rq bl te og sc kd sr wo sa qb du) := hD
  refine lv_aload_n hx hb d_G_reads_10 rfl (lv_at hl 0 rfl) ?_
  refine lv_iconst (v := 0) hx hb d_G_reads_11 (by decide) ?_
  refine va_put (D := (dC, dI)) (ci := 3) (v := .int 0) (ty := .int) (C := "SieveDesk$Grammar") (T := F_G) (N := 14) hx hb ht i_G ty_G ty_G_ok n_G hown hK hP hD hS 9 rfl rfl 10 (by decide) (ht _ k_172) (fun _ h9 => h9) rfl (ty_G_ok 10 (by decide)) rfl rfl (Nat.le_of_ble_eq_true rfl) d_G_reads_12 (fun H locs hP hD hS => ?_)
  have hP : va_P (dC, dI) cls (WE h g len fp many tlen tat qlen md gat kind (.ref (k wi)) (.ref (k ti)) gs 0 0 0 bl te og sc kd sr wo sa qb du) H := hP
  have hD : va_D A (WE h g len fp many tlen tat qlen md gat kind (.ref (k wi)) (.ref (k ti)) gs 0 0 0 bl te og sc kd sr wo sa qb du) := hD
  refine lv_aload_n hx hb d_G_reads_15 rfl (lv_at hl 0 rfl) ?_
  refine lv_iconst (v := 0) hx hb d_G_reads_16 (by decide) ?_
  refine va_put (D := (dC, dI)) (ci := 3) (v := .int 0) (ty := .int) (C := "SieveDesk$Grammar") (T := F_G) (N := 14) hx hb ht i_G ty_G ty_G_ok n_G hown hK hP hD hS 9 rfl rfl 11 (by decide) (ht _ k_174) (fun _ h9 => h9) rfl (ty_G_ok 11 (by decide)) rfl rfl (Nat.le_of_ble_eq_true rfl) d_G_reads_17 (fun H locs hP hD hS => ?_)
  have hP : va_P (dC, dI) cls (WE h g len fp many tlen tat qlen md gat kind (.ref (k wi)) (.ref (k ti)) gs 0 0 0 0 te og sc kd sr wo sa qb du) H := hP
  have hD : va_D A (WE h g len fp many tlen tat qlen md gat kind (.ref (k wi)) (.ref (k ti)) gs 0 0 0 0 te og sc kd sr wo sa qb du) := hD
  refine lv_aload_n hx hb d_G_reads_20 rfl (lv_at hl 0 rfl) ?_
  refine lv_iconst (v := 0) hx hb d_G_reads_21 (by decide) ?_
  refine va_put (D := (dC, dI)) (ci := 3) (v := .int 0) (ty := .int) (C := "SieveDesk$Grammar") (T := F_G) (N := 14) hx hb ht i_G ty_G ty_G_ok n_G hown hK hP hD hS 9 rfl rfl 12 (by decide) (ht _ k_175) (fun _ h9 => h9) rfl (ty_G_ok 12 (by decide)) rfl rfl (Nat.le_of_ble_eq_true rfl) d_G_reads_22 (fun H locs hP hD hS => ?_)
  have hP : va_P (dC, dI) cls (WE h g len fp many tlen tat qlen md gat kind (.ref (k wi)) (.ref (k ti)) gs 0 0 0 0 0 og sc kd sr wo sa qb du) H := hP
  have hD : va_D A (WE h g len fp many tlen tat qlen md gat kind (.ref (k wi)) (.ref (k ti)) gs 0 0 0 0 0 og sc kd sr wo sa qb du) := hD
  refine lv_aload_n hx hb d_G_reads_25 rfl (lv_at hl 0 rfl) ?_
  refine lv_iconst (v := 0) hx hb d_G_reads_26 (by decide) ?_
  refine va_put (D := (dC, dI)) (ci := 3) (v := .int 0) (ty := .int) (C := "SieveDesk$Grammar") (T := F_G) (N := 14) hx hb ht i_G ty_G ty_G_ok n_G hown hK hP hD hS 9 rfl rfl 13 (by decide) (ht _ k_176) (fun _ h9 => h9) rfl (ty_G_ok 13 (by decide)) rfl rfl (Nat.le_of_ble_eq_true rfl) d_G_reads_27 (fun H locs hP hD hS => ?_)
  have hP : va_P (dC, dI) cls (WE h g len fp many tlen tat qlen md gat kind (.ref (k wi)) (.ref (k ti)) gs 0 0 0 0 0 0 sc kd sr wo sa qb du) H := hP
  have hD : va_D A (WE h g len fp many tlen tat qlen md gat kind (.ref (k wi)) (.ref (k ti)) gs 0 0 0 0 0 0 sc kd sr wo sa qb du) := hD
  refine lv_aload_n hx hb d_G_reads_30 rfl (lv_at hl 0 rfl) ?_
  refine lv_iconst (v := 0) hx hb d_G_reads_31 (by decide) ?_
  refine va_put (D := (dC, dI)) (ci := 3) (v := .int 0) (ty := .int) (C := "SieveDesk$Grammar") (T := F_G) (N := 14) hx hb ht i_G ty_G ty_G_ok n_G hown hK hP hD hS 9 rfl rfl 2 (by decide) (ht _ k_162) (fun _ h9 => h9) rfl (ty_G_ok 2 (by decide)) rfl rfl (Nat.le_of_ble_eq_true rfl) d_G_reads_32 (fun H locs hP hD hS => ?_)
  have hP : va_P (dC, dI) cls (WE h g len fp many tlen tat qlen 0 gat kind (.ref (k wi)) (.ref (k ti)) gs 0 0 0 0 0 0 sc kd sr wo sa qb du) H := hP
  have hD : va_D A (WE h g len fp many tlen tat qlen 0 gat kind (.ref (k wi)) (.ref (k ti)) gs 0 0 0 0 0 0 sc kd sr wo sa qb du) := hD
  refine lv_aload_n hx hb d_G_reads_35 rfl (lv_at hl 0 rfl) ?_
  refine lv_iconst (v := (-1)) hx hb d_G_reads_36 (by decide) ?_
  refine va_put (D := (dC, dI)) (ci := 3) (v := .int (-1)) (ty := .int) (C := "SieveDesk$Grammar") (T := F_G) (N := 14) hx hb ht i_G ty_G ty_G_ok n_G hown hK hP hD hS 9 rfl rfl 3 (by decide) (ht _ k_163) (fun _ h9 => h9) rfl (ty_G_ok 3 (by decide)) rfl rfl (Nat.le_of_ble_eq_true rfl) d_G_reads_37 (fun H locs hP hD hS => ?_)
  have hP : va_P (dC, dI) cls (WE h g len fp many tlen tat qlen 0 (-1) kind (.ref (k wi)) (.ref (k ti)) gs 0 0 0 0 0 0 sc kd sr wo sa qb du) H := hP
  have hD : va_D A (WE h g len fp many tlen tat qlen 0 (-1) kind (.ref (k wi)) (.ref (k ti)) gs 0 0 0 0 0 0 sc kd sr wo sa qb du) := hD
  refine lv_aload_n hx hb d_G_reads_40 rfl (lv_at hl 0 rfl) ?_
  have hc_m1 : Int32.toInt (-1) = (-1) := by decide
  have hFc := va_free (wc := (WE h g len fp many tlen tat qlen 0 (-1) kind (.ref (k wi)) (.ref (k ti)) gs 0 0 0 0 0 0 sc kd sr wo sa qb du)) hD hS hA [0, 1, 2, 3, 4, 5, 6, 7, 8, 9, 10] rfl
  refine va_callv (va_runV (As := []) (rest := []) ⟨hx, hb, hml, hown, ht⟩ (c_G_advance l dC dI k h g len fp many tlen tat qlen 0 (-1) kind gs 0 0 0 0 0 0 wi ti sc kd sr sa qb du wo  _ (by omega) (by omega) h_2 (by omega) (by omega) (by omega) (by omega)) (cwV 0 ht (g_V k_466 k_468 k_21 k_77 k_469) rfl rfl rfl (by decide +kernel) ⟨(Nat.le_of_ble_eq_true rfl), (Nat.le_of_ble_eq_true rfl)⟩) ⟨fb_X, va_recv hK hP (ci := 3) (q0 := 9) rfl rfl, pre_X hE hS hFc hP hK hD⟩ rfl rfl hl.1 rfl (lv_room (Nat.le_of_ble_eq_true rfl)) d_G_reads_41 ⟨(Nat.le_of_ble_eq_true rfl), (Nat.le_of_ble_eq_true rfl)⟩) hS (fun q _ h9 => hFc q h9) hFc (fun u_35 t H locs het hvm hw hB hz1 hk1 hS => ?_)
  obtain ⟨gat_30, kind_31, wi_32, ti_33, gs_34⟩ := u_35
  try dsimp only at hw
  obtain ⟨p_37, p_38, p_39, p_40⟩ := hw
  obtain ⟨hP1, hK1, hD1⟩ := hB
  rw [het] at hP1
  have hP : va_P (dC, dI) cls (WE h g len fp many tlen tat qlen 0 gat_30 kind_31 (.ref (k wi_32)) (.ref (k ti_33)) gs_34 0 0 0 0 0 0 sc kd sr wo sa qb du) H := hP1
  have hD : va_D A (WE h g len fp many tlen tat qlen 0 gat_30 kind_31 (.ref (k wi_32)) (.ref (k ti_33)) gs_34 0 0 0 0 0 0 sc kd sr wo sa qb du) := hD1.weaken (fun _ _ _ h9 => hFc _ h9)
  refine lv_aload_n hx hb d_G_reads_44 rfl (lv_at hl 0 rfl) ?_
  refine va_ldcS hx hb hown (show vk_R "SieveDesk$Grammar" 59 "qc." (k (100 + 107)) s from ke_l207 hE) d_G_reads_45 ?_
  have hc_0 : Int32.toInt 0 = 0 := by decide
  have hFc := va_free (wc := (WE h g len fp many tlen tat qlen 0 gat_30 kind_31 (.ref (k wi_32)) (.ref (k ti_33)) gs_34 0 0 0 0 0 0 sc kd sr wo sa qb du)) hD hS hA [0, 1, 2, 3, 4, 5, 6, 7, 8, 9, 10] rfl
  refine va_callv (va_runV (As := [.ref (k (100 + 107))]) (rest := []) ⟨hx, hb, hml, hown, ht⟩ (c_G_expect l dC dI k h g len fp many tlen tat qlen 0 gat_30 kind_31 gs_34 0 0 0 0 0 0 wi_32 ti_33 sc kd sr sa qb du wo 107 _ (by omega) (by omega) (by omega)) (cwV 1 ht (g_V k_471 k_473 k_22 k_77 k_474) rfl rfl rfl (by decide +kernel) ⟨(Nat.le_of_ble_eq_true rfl), (Nat.le_of_ble_eq_true rfl)⟩) ⟨fb_X, va_recv hK hP (ci := 3) (q0 := 9) rfl rfl, pre_X hE hS hFc hP hK hD⟩ rfl rfl hl.1 rfl (lv_room (Nat.le_of_ble_eq_true rfl)) d_G_reads_47 ⟨(Nat.le_of_ble_eq_true rfl), (Nat.le_of_ble_eq_true rfl)⟩) hS (fun q _ h9 => hFc q h9) hFc (fun u_43 t H locs het hvm hw hB hz1 hk1 hS => ?_)
  obtain ⟨md_41, du_42⟩ := u_43
  try dsimp only at hw
  obtain ⟨p_45, p_46⟩ := hw
  obtain ⟨hP1, hK1, hD1⟩ := hB
  rw [het] at hP1
  have hP : va_P (dC, dI) cls (WE h g len fp many tlen tat qlen md_41 gat_30 kind_31 (.ref (k wi_32)) (.ref (k ti_33)) gs_34 0 0 0 0 0 0 sc kd sr wo sa qb du_42) H := hP1
  have hD : va_D A (WE h g len fp many tlen tat qlen md_41 gat_30 kind_31 (.ref (k wi_32)) (.ref (k ti_33)) gs_34 0 0 0 0 0 0 sc kd sr wo sa qb du_42) := hD1.weaken (fun _ _ _ h9 => hFc _ h9)
  refine lv_iconst (v := 0) hx hb d_G_reads_50 (by decide) ?_
  refine lv_istore_n (lv' := [(1, .int 0), (0, .ref (h 9))]) hx hb d_G_reads_51 rfl hl (by decide) rfl (fun ls hl => ?_)
  exact (lp_G_reads_52  hx hb hml hown ht hE hA hK h_0 h_1 h_2 fin _) 0 md_41 du_42 gat_30 kind_31 wi_32 ti_33 gs_34 0 0 0 0 0 0 (by omega) (by omega) (by omega) (by omega) (by omega) (by omega) (by omega) (by omega) (Nat.lt_succ_self _) _ _ ls hP hD hS (lv_sub hl [0, 1] rfl)
set_option maxHeartbeats 4000000 in
set_option maxRecDepth 100000 in
theorem c_G_reads (l : Launch) (dC : Nat → ClassId) (dI : Nat → Nat → Nat) (k : Nat → Nat) (h : Nat → Nat) (g : Nat → ClassId) (len : Int32) (fp : Int32) (many : Int32) (tlen : Int32) (tat : Int32) (qlen : Int32) (md : Int32) (gat : Int32) (kind : Int32) (gs : Int32) (th : Int32) (st : Int32) (rq : Int32) (bl : Int32) (te : Int32) (og : Int32) (wi : Nat) (ti : Nat) (sc : Nat → Int32) (kd : Nat → Int32) (sr : Nat → Int32) (sa : Nat → Int32) (qb : Nat → Int32) (du : Nat → Int32) (wo : Nat → Option Nat)  (sz : Nat) (h_0 : 0 ≤ Int32.toInt many) (h_1 : Int32.toInt many ≤ 401) (h_2 : WOk k wo) (v_0 : 0 ≤ Int32.toInt md) (v_1 : Int32.toInt md ≤ 200) (v_2 : -1 ≤ Int32.toInt gat) (v_3 : Int32.toInt gat ≤ 400) (v_4 : wi < 43) (v_5 : ti < 43) : Met l y_G_reads (.code y_G_reads b_G_reads 2 (some .boolean) :: TT) ({ frames := 9, cells := 0, slots := 0, locals := 189 }) (va_Pc [.ref (h 9)] (PX dC dI k (TE g) (WE h g len fp many tlen tat qlen md gat kind (.ref (k wi)) (.ref (k ti)) gs th st rq bl te og sc kd sr wo sa qb du) sz)) (va_Qi (fun (r : Int32) (u : Int32 × (Nat → Int32) × Int32 × Int32 × Nat × Nat × Int32 × Int32 × Int32 × Int32 × Int32 × Int32 × Int32) => 0 ≤ Int32.toInt u.1 ∧ Int32.toInt u.1 ≤ 200 ∧ -1 ≤ Int32.toInt u.2.2.1 ∧ Int32.toInt u.2.2.1 ≤ 400 ∧ u.2.2.2.2.1 < 43 ∧ u.2.2.2.2.2.1 < 43 ∧ narrow .boolean (.int r) = .int r) (fun u t => BX dC dI (TE g) (va_A (WE h g len fp many tlen tat qlen md gat kind (.ref (k wi)) (.ref (k ti)) gs th st rq bl te og sc kd sr wo sa qb du) sz) (WE h g len fp many tlen tat qlen u.1 u.2.2.1 u.2.2.2.1 (.ref (k u.2.2.2.2.1)) (.ref (k u.2.2.2.2.2.1)) u.2.2.2.2.2.2.1 u.2.2.2.2.2.2.2.1 u.2.2.2.2.2.2.2.2.1 u.2.2.2.2.2.2.2.2.2.1 u.2.2.2.2.2.2.2.2.2.2.1 u.2.2.2.2.2.2.2.2.2.2.2.1 u.2.2.2.2.2.2.2.2.2.2.2.2 sc kd sr wo sa qb u.2.1) t) (va_A (WE h g len fp many tlen tat qlen md gat kind (.ref (k wi)) (.ref (k ti)) gs th st rq bl te og sc kd sr wo sa qb du) sz)) 0 0 (va_A (WE h g len fp many tlen tat qlen md gat kind (.ref (k wi)) (.ref (k ti)) gs th st rq bl te og sc kd sr wo sa qb du) sz) := by
  refine Met.ofW (cc := b_G_reads) (maxL := 2) (ret := (some .boolean)) (by decide) rfl ?_
  intro p e s m args below meth c s₁ B hml hv
  obtain ⟨rfl, hsz, hE, hP, hK, hD0⟩ := hv
  have hx := B.exec
  have hb := B.bytes
  have hr := B.returns
  have ht : ∀ w ∈ TT, w.before _ s = true := fun w hw => atoms_spec (ws := .code y_G_reads b_G_reads 2 (some .boolean) :: TT) B.pre w (List.mem_cons_of_mem _ hw)
  have hown : s.vm.findClass "SieveDesk$Grammar" = some m.cls := findClass_of_methodNamed B.named
  have hlocks := B.notSynchronized
  subst hsz
  have hD := hD0.self (sz := s.heap.size)
  generalize hAe : va_A (WE h g len fp many tlen tat qlen md gat kind (.ref (k wi)) (.ref (k ti)) gs th st rq bl te og sc kd sr wo sa qb du) s.heap.size = A at hE hD ⊢
  have hA : ∀ q : Nat, s.heap.size ≤ q → A q := fun q h9 => by rw [← hAe]; exact Or.inr h9
  have hS : va_S A s.heap s.heap [] := va_S.rf
  have hl := lv_entry ([.ref (h 9)]) (n := 2) (Nat.le_of_ble_eq_true rfl)
  rw [lg_entry_eq]
  generalize (lg_sl ([.ref (h 9)]) ++ List.replicate (2 - (lg_sl ([.ref (h 9)])).length) Slot.unset).toArray = ls at hl ⊢
  have hl : lv_has ls 2 [(0, .ref (h 9))] := hl
  exact bd_G_reads_0  hx hb hml hown ht hE hA hK h_0 h_1 h_2 (fun r u H locs pc ls hd hn hp hP hD hS => W.zret hx hb hr hn (fun t het hW => ⟨⟨r, u, rfl, hp, by rw [het]; exact hP, va_K.moved hW.alike hK, hD⟩, hS.F het⟩) hS.2.2 hd) md du gat kind wi ti gs th st rq bl te og v_0 v_1 v_2 v_3 v_4 v_5 _ _ ls hP hD hS hl
set_option maxHeartbeats 4000000 in
set_option maxRecDepth 100000 in
theorem bd_S_check_0 {p : Program} {l : Launch} {e : Env} {s : State} {m : MethodId} {args : Array Value} {below : List Frame} {meth : Method} {c : Code} {Q : State → Prop} {A : Nat → Prop} {dC : Nat → ClassId} {dI : Nat → Nat → Nat} {k h : Nat → Nat} {g : Nat → ClassId} {sc : Nat → Int32} (hx : p.tables.exec = Jvm.exec) (hb : c.code = b_S_check) (hml : c.maxLocals = 3) (hown : s.vm.findClass "SieveDesk" = some m.cls) (ht : ∀ w ∈ TT, w.before args s = true) (hE : KE k A s s.heap) (hA : ∀ q : Nat, s.heap.size ≤ q → A q) (hK : va_K (dC, dI) cls (TE g) s)   (fin : ∀ (r : Int32) (u : Int32 × Int32 × Int32 × Int32 × Int32 × (Nat → Int32) × (Nat → Int32) × (Nat → Option Nat) × (Nat → Int32) × Int32 × (Nat → Int32) × Int32 × (Nat → Int32) × Int32 × Int32 × Nat × Nat × Int32 × Int32 × Int32 × Int32 × Int32 × Int32 × Int32) (H : Heap) (locs : List Loc) (pc : Nat) (ls : Array Slot), decode b_S_check pc = .ok (.ireturn, 1) → (0 ≤ Int32.toInt u.2.2.1 ∧ Int32.toInt u.2.2.1 ≤ 401 ∧ 0 ≤ Int32.toInt u.2.2.2.1 ∧ Int32.toInt u.2.2.2.1 ≤ 400 ∧ 0 ≤ Int32.toInt u.2.2.2.2.1 ∧ Int32.toInt u.2.2.2.2.1 ≤ Int32.toInt u.2.2.2.1 ∧ WOk k u.2.2.2.2.2.2.2.1 ∧ 0 ≤ Int32.toInt u.2.2.2.2.2.2.2.2.2.1 ∧ Int32.toInt u.2.2.2.2.2.2.2.2.2.1 ≤ 200 ∧ 0 ≤ Int32.toInt u.2.2.2.2.2.2.2.2.2.2.2.1 ∧ Int32.toInt u.2.2.2.2.2.2.2.2.2.2.2.1 ≤ 200 ∧ -1 ≤ Int32.toInt u.2.2.2.2.2.2.2.2.2.2.2.2.2.1 ∧ Int32.toInt u.2.2.2.2.2.2.2.2.2.2.2.2.2.1 ≤ 400 ∧ u.2.2.2.2.2.2.2.2.2.2.2.2.2.2.2.1 < 43 ∧ u.2.2.2.2.2.2.2.2.2.2.2.2.2.2.2.2.1 < 43 ∧ u.1 = 0) → va_P (dC, dI) cls (WE h g u.1 u.2.1 u.2.2.1 u.2.2.2.1 u.2.2.2.2.1 u.2.2.2.2.2.2.2.2.2.1 u.2.2.2.2.2.2.2.2.2.2.2.1 u.2.2.2.2.2.2.2.2.2.2.2.2.2.1 u.2.2.2.2.2.2.2.2.2.2.2.2.2.2.1 (.ref (k u.2.2.2.2.2.2.2.2.2.2.2.2.2.2.2.1)) (.ref (k u.2.2.2.2.2.2.2.2.2.2.2.2.2.2.2.2.1)) u.2.2.2.2.2.2.2.2.2.2.2.2.2.2.2.2.2.1 u.2.2.2.2.2.2.2.2.2.2.2.2.2.2.2.2.2.2.1 u.2.2.2.2.2.2.2.2.2.2.2.2.2.2.2.2.2.2.2.1 u.2.2.2.2.2.2.2.2.2.2.2.2.2.2.2.2.2.2.2.2.1 u.2.2.2.2.2.2.2.2.2.2.2.2.2.2.2.2.2.2.2.2.2.1 u.2.2.2.2.2.2.2.2.2.2.2.2.2.2.2.2.2.2.2.2.2.2.1 u.2.2.2.2.2.2.2.2.2.2.2.2.2.2.2.2.2.2.2.2.2.2.2 sc u.2.2.2.2.2.1 u.2.2.2.2.2.2.1 u.2.2.2.2.2.2.2.1 u.2.2.2.2.2.2.2.2.1 u.2.2.2.2.2.2.2.2.2.2.1 u.2.2.2.2.2.2.2.2.2.2.2.2.1) H → va_D A (WE h g u.1 u.2.1 u.2.2.1 u.2.2.2.1 u.2.2.2.2.1 u.2.2.2.2.2.2.2.2.2.1 u.2.2.2.2.2.2.2.2.2.2.2.1 u.2.2.2.2.2.2.2.2.2.2.2.2.2.1 u.2.2.2.2.2.2.2.2.2.2.2.2.2.2.1 (.ref (k u.2.2.2.2.2.2.2.2.2.2.2.2.2.2.2.1)) (.ref (k u.2.2.2.2.2.2.2.2.2.2.2.2.2.2.2.2.1)) u.2.2.2.2.2.2.2.2.2.2.2.2.2.2.2.2.2.1 u.2.2.2.2.2.2.2.2.2.2.2.2.2.2.2.2.2.2.1 u.2.2.2.2.2.2.2.2.2.2.2.2.2.2.2.2.2.2.2.1 u.2.2.2.2.2.2.2.2.2.2.2.2.2.2.2.2.2.2.2.2.1 u.2.2.2.2.2.2.2.2.2.2.2.2.2.2.2.2.2.2.2.2.2.1 u.2.2.2.2.2.2.2.2.2.2.2.2.2.2.2.2.2.2.2.2.2.2.1 u.2.2.2.2.2.2.2.2.2.2.2.2.2.2.2.2.2.2.2.2.2.2.2 sc u.2.2.2.2.2.1 u.2.2.2.2.2.2.1 u.2.2.2.2.2.2.2.1 u.2.2.2.2.2.2.2.2.1 u.2.2.2.2.2.2.2.2.2.2.1 u.2.2.2.2.2.2.2.2.2.2.2.2.1) → va_S A s.heap H locs → W p l e ({ frames := 10, cells := 0, slots := 0, locals := 227 } : Room) s m args below meth c H locs 0 0 Q (F0 m pc ls [.int r])) : ∀ (len : Int32) (fp : Int32) (many : Int32) (tlen : Int32) (tat : Int32) (kd : Nat → Int32) (sr : Nat → Int32) (wo : Nat → Option Nat) (sa : Nat → Int32) (qlen : Int32) (qb : Nat → Int32) (md : Int32) (du : Nat → Int32) (gat : Int32) (kind : Int32) (wi : Nat) (ti : Nat) (gs : Int32) (th : Int32) (st : Int32) (rq : Int32) (bl : Int32) (te : Int32) (og : Int32), 0 ≤ Int32.toInt many → Int32.toInt many ≤ 401 → 0 ≤ Int32.toInt tlen → Int32.toInt tlen ≤ 400 → 0 ≤ Int32.toInt tat → Int32.toInt tat ≤ Int32.toInt tlen → 0 ≤ Int32.toInt qlen → Int32.toInt qlen ≤ 200 → 0 ≤ Int32.toInt md → Int32.toInt md ≤ 200 → -1 ≤ Int32.toInt gat → Int32.toInt gat ≤ 400 → wi < 43 → ti < 43 → WOk k wo → 0 ≤ Int32.toInt len → Int32.toInt len ≤ 400 → ∀ (H : Heap) (locs : List Loc) (ls : Array Slot), va_P (dC, dI) cls (WE h g len fp many tlen tat qlen md gat kind (.ref (k wi)) (.ref (k ti)) gs th st rq bl te og sc kd sr wo sa qb du) H → va_D A (WE h g len fp many tlen tat qlen md gat kind (.ref (k wi)) (.ref (k ti)) gs th st rq bl te og sc kd sr wo sa qb du) → va_S A s.heap H locs → lv_has ls 3 [(0, .ref (h 0))] → W p l e ({ frames := 10, cells := 0, slots := 0, locals := 227 } : Room) s m args below meth c H locs 0 0 Q (F0 m 0 ls []) := by
  intro len fp many tlen tat kd sr wo sa qlen qb md du gat kind wi ti gs th st rq bl te og v_0 v_1 v_2 v_3 v_4 v_5 v_6 v_7 v_8 v_9 v_10 v_11 v_12 v_13 v_14 v_15 v_16 H locs ls hP hD hS hl
  refine lv_aload_n hx hb d_S_check_0 rfl (lv_at hl 0 rfl) ?_
  refine va_get (D := (dC, dI)) (ci := 0) (v := .ref (h 2)) (C := "SieveDesk") (T := F_S) (N := 5) hx hb ht i_S hown hK hP 0 rfl rfl 1 (by decide) (ht _ k_208) (fun _ h9 => h9) rfl d_S_check_1 ?_
  refine lv_aload_n hx hb d_S_check_4 rfl (lv_at hl 0 rfl) ?_
  refine va_get (D := (dC, dI)) (ci := 0) (v := .int len) (C := "SieveDesk") (T := F_S) (N := 5) hx hb ht i_S hown hK hP 0 rfl rfl 3 (by decide) (ht _ k_210) (fun _ h9 => h9) rfl d_S_check_5 ?_
  have hFc := va_free (wc := (WE h g len fp many tlen tat qlen md gat kind (.ref (k wi)) (.ref (k ti)) gs th st rq bl te og sc kd sr wo sa qb du)) hD hS hA [0, 1, 2, 3, 4, 5, 6, 7, 8, 9, 10] rfl
  refine va_callv (va_runVN (As := [.int len]) (rest := []) ⟨hx, hb, hml, hown, ht⟩ (c_T_scan l dC dI k h g len fp many tlen tat qlen md gat kind gs th st rq bl te og wi ti sc kd sr sa qb du wo len _ (by omega) (by omega) (by omega) (by omega) (by omega) (by omega) (by omega) (by omega) v_14 (by omega) (by omega)) ⟨va_cnB 1 ht (g_C k_234) rfl rfl rfl (hE.1 _ n_231) (ht _ k_75) (by decide +kernel) ⟨(Nat.le_of_ble_eq_true rfl), (Nat.le_of_ble_eq_true rfl)⟩, (ht _ k_233), (ht _ k_0)⟩ ⟨fb_X, va_recv hK hP (ci := 1) (q0 := 2) rfl rfl, pre_X hE hS hFc hP hK hD⟩ rfl rfl hl.1 rfl (lv_room (Nat.le_of_ble_eq_true rfl)) d_S_check_8 ⟨(Nat.le_of_ble_eq_true rfl), (Nat.le_of_ble_eq_true rfl)⟩) hS (fun q _ h9 => hFc q h9) hFc (fun u_10 t H locs het hvm hw hB hz1 hk1 hS => ?_)
  obtain ⟨many_1, tlen_2, tat_3, kd_4, sr_5, wo_6, sa_7, qlen_8, qb_9⟩ := u_10
  try dsimp only at hw
  obtain ⟨p_12, p_13, p_14, p_15, p_16, p_17, p_18, p_19, p_20⟩ := hw
  obtain ⟨hP1, hK1, hD1⟩ := hB
  rw [het] at hP1
  have hP : va_P (dC, dI) cls (WE h g len fp many_1 tlen_2 tat_3 qlen_8 md gat kind (.ref (k wi)) (.ref (k ti)) gs th st rq bl te og sc kd_4 sr_5 wo_6 sa_7 qb_9 du) H := hP1
  have hD : va_D A (WE h g len fp many_1 tlen_2 tat_3 qlen_8 md gat kind (.ref (k wi)) (.ref (k ti)) gs th st rq bl te og sc kd_4 sr_5 wo_6 sa_7 qb_9 du) := hD1.weaken (fun _ _ _ h9 => hFc _ h9)
  refine lv_aload_n hx hb d_S_check_11 rfl (lv_at hl 0 rfl) ?_
  refine va_get (D := (dC, dI)) (ci := 0) (v := .ref (h 9)) (C := "SieveDesk") (T := F_S) (N := 5) hx hb ht i_S hown hK hP 0 rfl rfl 2 (by decide) (ht _ k_209) (fun _ h9 => h9) rfl d_S_check_12 ?_
  have hFc := va_free (wc := (WE h g len fp many_1 tlen_2 tat_3 qlen_8 md gat kind (.ref (k wi)) (.ref (k ti)) gs th st rq bl te og sc kd_4 sr_5 wo_6 sa_7 qb_9 du)) hD hS hA [0, 1, 2, 3, 4, 5, 6, 7, 8, 9, 10] rfl
  refine va_calli (va_runVN (As := []) (rest := []) ⟨hx, hb, hml, hown, ht⟩ (c_G_reads l dC dI k h g len fp many_1 tlen_2 tat_3 qlen_8 md gat kind gs th st rq bl te og wi ti sc kd_4 sr_5 sa_7 qb_9 du wo_6  _ (by omega) (by omega) p_18 (by omega) (by omega) (by omega) (by omega) (by omega) (by omega)) ⟨va_cnB 0 ht (g_C k_465) rfl rfl rfl (hE.1 _ n_462) (ht _ k_77) (by decide +kernel) ⟨(Nat.le_of_ble_eq_true rfl), (Nat.le_of_ble_eq_true rfl)⟩, (ht _ k_464), (ht _ k_20)⟩ ⟨fb_X, va_recv hK hP (ci := 3) (q0 := 9) rfl rfl, pre_X hE hS hFc hP hK hD⟩ rfl rfl hl.1 rfl (lv_room (Nat.le_of_ble_eq_true rfl)) d_S_check_15 ⟨(Nat.le_of_ble_eq_true rfl), (Nat.le_of_ble_eq_true rfl)⟩) hS (fun q _ h9 => hFc q h9) hFc (fun r_35 u_34 t H locs het hvm hw hB hz1 hk1 hS => ?_)
  obtain ⟨md_21, du_22, gat_23, kind_24, wi_25, ti_26, gs_27, th_28, st_29, rq_30, bl_31, te_32, og_33⟩ := u_34
  try dsimp only at hw
  obtain ⟨p_36, p_37, p_38, p_39, p_40, p_41, p_42⟩ := hw
  obtain ⟨hP1, hK1, hD1⟩ := hB
  rw [het] at hP1
  have hP : va_P (dC, dI) cls (WE h g len fp many_1 tlen_2 tat_3 qlen_8 md_21 gat_23 kind_24 (.ref (k wi_25)) (.ref (k ti_26)) gs_27 th_28 st_29 rq_30 bl_31 te_32 og_33 sc kd_4 sr_5 wo_6 sa_7 qb_9 du_22) H := hP1
  have hD : va_D A (WE h g len fp many_1 tlen_2 tat_3 qlen_8 md_21 gat_23 kind_24 (.ref (k wi_25)) (.ref (k ti_26)) gs_27 th_28 st_29 rq_30 bl_31 te_32 og_33 sc kd_4 sr_5 wo_6 sa_7 qb_9 du_22) := hD1.weaken (fun _ _ _ h9 => hFc _ h9)
  refine lv_istore_n (lv' := [(1, .int r_35), (0, .ref (h 0))]) hx hb d_S_check_18 rfl hl (by decide) rfl (fun ls hl => ?_)
  refine lv_aload_n hx hb d_S_check_19 rfl (lv_at hl 1 rfl) ?_
  refine lv_iload_n hx hb d_S_check_20 rfl (lv_at hl 0 rfl) ?_
  refine lv_if_eq (tgt := 28) hx hb d_S_check_21 (by decide) (fun c_43 => ?_) (fun c_43 => ?_)
  · refine lv_aload_n hx hb d_S_check_28 rfl (lv_at hl 1 rfl) ?_
    refine va_get (D := (dC, dI)) (ci := 0) (v := .ref (h 9)) (C := "SieveDesk") (T := F_S) (N := 5) hx hb ht i_S hown hK hP 0 rfl rfl 2 (by decide) (ht _ k_209) (fun _ h9 => h9) rfl d_S_check_29 ?_
    have hFc := va_free (wc := (WE h g len fp many_1 tlen_2 tat_3 qlen_8 md_21 gat_23 kind_24 (.ref (k wi_25)) (.ref (k ti_26)) gs_27 th_28 st_29 rq_30 bl_31 te_32 og_33 sc kd_4 sr_5 wo_6 sa_7 qb_9 du_22)) hD hS hA [0, 1, 2, 3, 4, 5, 6, 7, 8, 9, 10] rfl
    refine va_calli (va_runVN (As := []) (rest := [.ref (h 0)]) ⟨hx, hb, hml, hown, ht⟩ (c_G_standsAt l dC dI k h g len fp many_1 tlen_2 tat_3 qlen_8 md_21 gat_23 kind_24 gs_27 th_28 st_29 rq_30 bl_31 te_32 og_33 wi_25 ti_26 sc kd_4 sr_5 sa_7 qb_9 du_22 wo_6  _ (by omega) (by omega) ) ⟨va_cnB 0 ht (g_C k_544) rfl rfl rfl (hE.1 _ n_541) (ht _ k_77) (by decide +kernel) ⟨(Nat.le_of_ble_eq_true rfl), (Nat.le_of_ble_eq_true rfl)⟩, (ht _ k_543), (ht _ k_35)⟩ ⟨fb_X, va_recv hK hP (ci := 3) (q0 := 9) rfl rfl, pre_X hE hS hFc hP hK hD⟩ rfl rfl hl.1 rfl (lv_room (Nat.le_of_ble_eq_true rfl)) d_S_check_32 ⟨(Nat.le_of_ble_eq_true rfl), (Nat.le_of_ble_eq_true rfl)⟩) hS (fun q _ h9 => hFc q h9) hFc (fun r_45 u_44 t H locs het hvm hw hB hz1 hk1 hS => ?_)
    obtain ⟨hP1, hK1, hD1⟩ := hB
    rw [het] at hP1
    have hP : va_P (dC, dI) cls (WE h g len fp many_1 tlen_2 tat_3 qlen_8 md_21 gat_23 kind_24 (.ref (k wi_25)) (.ref (k ti_26)) gs_27 th_28 st_29 rq_30 bl_31 te_32 og_33 sc kd_4 sr_5 wo_6 sa_7 qb_9 du_22) H := hP1
    have hD : va_D A (WE h g len fp many_1 tlen_2 tat_3 qlen_8 md_21 gat_23 kind_24 (.ref (k wi_25)) (.ref (k ti_26)) gs_27 th_28 st_29 rq_30 bl_31 te_32 og_33 sc kd_4 sr_5 wo_6 sa_7 qb_9 du_22) := hD1.weaken (fun _ _ _ h9 => hFc _ h9)
    refine va_put (D := (dC, dI)) (ci := 0) (v := .int r_45) (ty := .int) (C := "SieveDesk") (T := F_S) (N := 5) hx hb ht i_S ty_S ty_S_ok n_S hown hK hP hD hS 0 rfl rfl 4 (by decide) (ht _ k_211) (fun _ h9 => h9) rfl (ty_S_ok 4 (by decide)) rfl rfl (Nat.le_of_ble_eq_true rfl) d_S_check_35 (fun H locs hP hD hS => ?_)
    have hP : va_P (dC, dI) cls (WE h g len r_45 many_1 tlen_2 tat_3 qlen_8 md_21 gat_23 kind_24 (.ref (k wi_25)) (.ref (k ti_26)) gs_27 th_28 st_29 rq_30 bl_31 te_32 og_33 sc kd_4 sr_5 wo_6 sa_7 qb_9 du_22) H := hP
    have hD : va_D A (WE h g len r_45 many_1 tlen_2 tat_3 qlen_8 md_21 gat_23 kind_24 (.ref (k wi_25)) (.ref (k ti_26)) gs_27 th_28 st_29 rq_30 bl_31 te_32 og_33 sc kd_4 sr_5 wo_6 sa_7 qb_9 du_22) := hD
    refine lv_iload_n hx hb d_S_check_38 rfl (lv_at hl 0 rfl) ?_
    refine lv_if_eq (tgt := 46) hx hb d_S_check_39 (by decide) (fun c_46 => ?_) (fun c_46 => ?_)
    · refine lv_aload_n hx hb d_S_check_46 rfl (lv_at hl 1 rfl) ?_
      refine lv_aload_n hx hb d_S_check_47 rfl (lv_at hl 1 rfl) ?_
      refine va_get (D := (dC, dI)) (ci := 0) (v := .int r_45) (C := "SieveDesk") (T := F_S) (N := 5) hx hb ht i_S hown hK hP 0 rfl rfl 4 (by decide) (ht _ k_211) (fun _ h9 => h9) rfl d_S_check_48 ?_
      have hFc := va_free (wc := (WE h g len r_45 many_1 tlen_2 tat_3 qlen_8 md_21 gat_23 kind_24 (.ref (k wi_25)) (.ref (k ti_26)) gs_27 th_28 st_29 rq_30 bl_31 te_32 og_33 sc kd_4 sr_5 wo_6 sa_7 qb_9 du_22)) hD hS hA [0, 1, 2, 3, 4, 5, 6, 7, 8, 9, 10] rfl
      refine va_calli (va_runV (As := [.int r_45]) (rest := []) ⟨hx, hb, hml, hown, ht⟩ (c_S_lineOf l dC dI k h g len r_45 many_1 tlen_2 tat_3 qlen_8 md_21 gat_23 kind_24 gs_27 th_28 st_29 rq_30 bl_31 te_32 og_33 wi_25 ti_26 sc kd_4 sr_5 sa_7 qb_9 du_22 wo_6 r_45 _  ) (cwV 1 ht (g_V k_545 k_547 k_36 k_74 k_548) rfl rfl rfl (by decide +kernel) ⟨(Nat.le_of_ble_eq_true rfl), (Nat.le_of_ble_eq_true rfl)⟩) ⟨fb_X, va_recv hK hP (ci := 0) (q0 := 0) rfl rfl, pre_X hE hS hFc hP hK hD⟩ rfl rfl hl.1 rfl (lv_room (Nat.le_of_ble_eq_true rfl)) d_S_check_51 ⟨(Nat.le_of_ble_eq_true rfl), (Nat.le_of_ble_eq_true rfl)⟩) hS (fun q _ h9 => hFc q h9) hFc (fun r_48 u_47 t H locs het hvm hw hB hz1 hk1 hS => ?_)
      obtain ⟨hP1, hK1, hD1⟩ := hB
      rw [het] at hP1
      have hP : va_P (dC, dI) cls (WE h g len r_45 many_1 tlen_2 tat_3 qlen_8 md_21 gat_23 kind_24 (.ref (k wi_25)) (.ref (k ti_26)) gs_27 th_28 st_29 rq_30 bl_31 te_32 og_33 sc kd_4 sr_5 wo_6 sa_7 qb_9 du_22) H := hP1
      have hD : va_D A (WE h g len r_45 many_1 tlen_2 tat_3 qlen_8 md_21 gat_23 kind_24 (.ref (k wi_25)) (.ref (k ti_26)) gs_27 th_28 st_29 rq_30 bl_31 te_32 og_33 sc kd_4 sr_5 wo_6 sa_7 qb_9 du_22) := hD1.weaken (fun _ _ _ h9 => hFc _ h9)
      refine lv_istore_n (lv' := [(2, .int r_48), (1, .int r_35), (0, .ref (h 0))]) hx hb d_S_check_54 rfl hl (by decide) rfl (fun ls hl => ?_)
      refine lv_aload_n hx hb d_S_check_55 rfl (lv_at hl 2 rfl) ?_
      refine lv_iconst (v := 0) hx hb d_S_check_56 (by decide) ?_
      refine va_put (D := (dC, dI)) (ci := 0) (v := .int 0) (ty := .int) (C := "SieveDesk") (T := F_S) (N := 5) hx hb ht i_S ty_S ty_S_ok n_S hown hK hP hD hS 0 rfl rfl 3 (by decide) (ht _ k_210) (fun _ h9 => h9) rfl (ty_S_ok 3 (by decide)) rfl rfl (Nat.le_of_ble_eq_true rfl) d_S_check_57 (fun H locs hP hD hS => ?_)
      have hP : va_P (dC, dI) cls (WE h g 0 r_45 many_1 tlen_2 tat_3 qlen_8 md_21 gat_23 kind_24 (.ref (k wi_25)) (.ref (k ti_26)) gs_27 th_28 st_29 rq_30 bl_31 te_32 og_33 sc kd_4 sr_5 wo_6 sa_7 qb_9 du_22) H := hP
      have hD : va_D A (WE h g 0 r_45 many_1 tlen_2 tat_3 qlen_8 md_21 gat_23 kind_24 (.ref (k wi_25)) (.ref (k ti_26)) gs_27 th_28 st_29 rq_30 bl_31 te_32 og_33 sc kd_4 sr_5 wo_6 sa_7 qb_9 du_22) := hD
      refine lv_iload_n hx hb d_S_check_60 rfl (lv_at hl 0 rfl) ?_
      have hc_0 : Int32.toInt 0 = 0 := by decide
      exact fin r_48 (0, r_45, many_1, tlen_2, tat_3, kd_4, sr_5, wo_6, sa_7, qlen_8, qb_9, md_21, du_22, gat_23, kind_24, wi_25, ti_26, gs_27, th_28, st_29, rq_30, bl_31, te_32, og_33) _ _ _ ls d_S_check_61 ⟨(by (try dsimp only); omega), (by (try dsimp only); omega), (by (try dsimp only); omega), (by (try dsimp only); omega), (by (try dsimp only); omega), (by (try dsimp only); omega), p_18, (by (try dsimp only); omega), (by (try dsimp only); omega), (by (try dsimp only); omega), (by (try dsimp only); omega), (by (try dsimp only); omega), (by (try dsimp only); omega), (by (try dsimp only); omega), (by (try dsimp only); omega), rfl⟩ hP hD hS
    · refine lv_iconst (v := 0) hx hb d_S_check_42 (by decide) ?_
      refine lv_goto (tgt := 54) hx hb d_S_check_43 (by decide) ?_
      refine lv_istore_n (lv' := [(2, .int 0), (1, .int r_35), (0, .ref (h 0))]) hx hb d_S_check_54 rfl hl (by decide) rfl (fun ls hl => ?_)
      refine lv_aload_n hx hb d_S_check_55 rfl (lv_at hl 2 rfl) ?_
      refine lv_iconst (v := 0) hx hb d_S_check_56 (by decide) ?_
      refine va_put (D := (dC, dI)) (ci := 0) (v := .int 0) (ty := .int) (C := "SieveDesk") (T := F_S) (N := 5) hx hb ht i_S ty_S ty_S_ok n_S hown hK hP hD hS 0 rfl rfl 3 (by decide) (ht _ k_210) (fun _ h9 => h9) rfl (ty_S_ok 3 (by decide)) rfl rfl (Nat.le_of_ble_eq_true rfl) d_S_check_57 (fun H locs hP hD hS => ?_)
      have hP : va_P (dC, dI) cls (WE h g 0 r_45 many_1 tlen_2 tat_3 qlen_8 md_21 gat_23 kind_24 (.ref (k wi_25)) (.ref (k ti_26)) gs_27 th_28 st_29 rq_30 bl_31 te_32 og_33 sc kd_4 sr_5 wo_6 sa_7 qb_9 du_22) H := hP
      have hD : va_D A (WE h g 0 r_45 many_1 tlen_2 tat_3 qlen_8 md_21 gat_23 kind_24 (.ref (k wi_25)) (.ref (k ti_26)) gs_27 th_28 st_29 rq_30 bl_31 te_32 og_33 sc kd_4 sr_5 wo_6 sa_7 qb_9 du_22) := hD
      refine lv_iload_n hx hb d_S_check_60 rfl (lv_at hl 0 rfl) ?_
      have hc_0 : Int32.toInt 0 = 0 := by decide
      exact fin 0 (0, r_45, many_1, tlen_2, tat_3, kd_4, sr_5, wo_6, sa_7, qlen_8, qb_9, md_21, du_22, gat_23, kind_24, wi_25, ti_26, gs_27, th_28, st_29, rq_30, bl_31, te_32, og_33) _ _ _ ls d_S_check_61 ⟨(by (try dsimp only); omega), (by (try dsimp only); omega), (by (try dsimp only); omega), (by (try dsimp only); omega), (by (try dsimp only); omega), (by (try dsimp only); omega), p_18, (by (try dsimp only); omega), (by (try dsimp only); omega), (by (try dsimp only); omega), (by (try dsimp only); omega), (by (try dsimp only); omega), (by (try dsimp only); omega), (by (try dsimp only); omega), (by (try dsimp only); omega), rfl⟩ hP hD hS
  · refine lv_iconst (v := (-1)) hx hb d_S_check_24 (by decide) ?_
    refine lv_goto (tgt := 35) hx hb d_S_check_25 (by decide) ?_
    refine va_put (D := (dC, dI)) (ci := 0) (v := .int (-1)) (ty := .int) (C := "SieveDesk") (T := F_S) (N := 5) hx hb ht i_S ty_S ty_S_ok n_S hown hK hP hD hS 0 rfl rfl 4 (by decide) (ht _ k_211) (fun _ h9 => h9) rfl (ty_S_ok 4 (by decide)) rfl rfl (Nat.le_of_ble_eq_true rfl) d_S_check_35 (fun H locs hP hD hS => ?_)
    have hP : va_P (dC, dI) cls (WE h g len (-1) many_1 tlen_2 tat_3 qlen_8 md_21 gat_23 kind_24 (.ref (k wi_25)) (.ref (k ti_26)) gs_27 th_28 st_29 rq_30 bl_31 te_32 og_33 sc kd_4 sr_5 wo_6 sa_7 qb_9 du_22) H := hP
    have hD : va_D A (WE h g len (-1) many_1 tlen_2 tat_3 qlen_8 md_21 gat_23 kind_24 (.ref (k wi_25)) (.ref (k ti_26)) gs_27 th_28 st_29 rq_30 bl_31 te_32 og_33 sc kd_4 sr_5 wo_6 sa_7 qb_9 du_22) := hD
    refine lv_iload_n hx hb d_S_check_38 rfl (lv_at hl 0 rfl) ?_
    refine lv_if_eq (tgt := 46) hx hb d_S_check_39 (by decide) (fun c_49 => ?_) (fun c_49 => ?_)
    · refine lv_aload_n hx hb d_S_check_46 rfl (lv_at hl 1 rfl) ?_
      refine lv_aload_n hx hb d_S_check_47 rfl (lv_at hl 1 rfl) ?_
      refine va_get (D := (dC, dI)) (ci := 0) (v := .int (-1)) (C := "SieveDesk") (T := F_S) (N := 5) hx hb ht i_S hown hK hP 0 rfl rfl 4 (by decide) (ht _ k_211) (fun _ h9 => h9) rfl d_S_check_48 ?_
      have hc_m1 : Int32.toInt (-1) = (-1) := by decide
      have hFc := va_free (wc := (WE h g len (-1) many_1 tlen_2 tat_3 qlen_8 md_21 gat_23 kind_24 (.ref (k wi_25)) (.ref (k ti_26)) gs_27 th_28 st_29 rq_30 bl_31 te_32 og_33 sc kd_4 sr_5 wo_6 sa_7 qb_9 du_22)) hD hS hA [0, 1, 2, 3, 4, 5, 6, 7, 8, 9, 10] rfl
      refine va_calli (va_runV (As := [.int (-1)]) (rest := []) ⟨hx, hb, hml, hown, ht⟩ (c_S_lineOf l dC dI k h g len (-1) many_1 tlen_2 tat_3 qlen_8 md_21 gat_23 kind_24 gs_27 th_28 st_29 rq_30 bl_31 te_32 og_33 wi_25 ti_26 sc kd_4 sr_5 sa_7 qb_9 du_22 wo_6 (-1) _  ) (cwV 1 ht (g_V k_545 k_547 k_36 k_74 k_548) rfl rfl rfl (by decide +kernel) ⟨(Nat.le_of_ble_eq_true rfl), (Nat.le_of_ble_eq_true rfl)⟩) ⟨fb_X, va_recv hK hP (ci := 0) (q0 := 0) rfl rfl, pre_X hE hS hFc hP hK hD⟩ rfl rfl hl.1 rfl (lv_room (Nat.le_of_ble_eq_true rfl)) d_S_check_51 ⟨(Nat.le_of_ble_eq_true rfl), (Nat.le_of_ble_eq_true rfl)⟩) hS (fun q _ h9 => hFc q h9) hFc (fun r_51 u_50 t H locs het hvm hw hB hz1 hk1 hS => ?_)
      obtain ⟨hP1, hK1, hD1⟩ := hB
      rw [het] at hP1
      have hP : va_P (dC, dI) cls (WE h g len (-1) many_1 tlen_2 tat_3 qlen_8 md_21 gat_23 kind_24 (.ref (k wi_25)) (.ref (k ti_26)) gs_27 th_28 st_29 rq_30 bl_31 te_32 og_33 sc kd_4 sr_5 wo_6 sa_7 qb_9 du_22) H := hP1
      have hD : va_D A (WE h g len (-1) many_1 tlen_2 tat_3 qlen_8 md_21 gat_23 kind_24 (.ref (k wi_25)) (.ref (k ti_26)) gs_27 th_28 st_29 rq_30 bl_31 te_32 og_33 sc kd_4 sr_5 wo_6 sa_7 qb_9 du_22) := hD1.weaken (fun _ _ _ h9 => hFc _ h9)
      refine lv_istore_n (lv' := [(2, .int r_51), (1, .int r_35), (0, .ref (h 0))]) hx hb d_S_check_54 rfl hl (by decide) rfl (fun ls hl => ?_)
      refine lv_aload_n hx hb d_S_check_55 rfl (lv_at hl 2 rfl) ?_
      refine lv_iconst (v := 0) hx hb d_S_check_56 (by decide) ?_
      refine va_put (D := (dC, dI)) (ci := 0) (v := .int 0) (ty := .int) (C := "SieveDesk") (T := F_S) (N := 5) hx hb ht i_S ty_S ty_S_ok n_S hown hK hP hD hS 0 rfl rfl 3 (by decide) (ht _ k_210) (fun _ h9 => h9) rfl (ty_S_ok 3 (by decide)) rfl rfl (Nat.le_of_ble_eq_true rfl) d_S_check_57 (fun H locs hP hD hS => ?_)
      have hP : va_P (dC, dI) cls (WE h g 0 (-1) many_1 tlen_2 tat_3 qlen_8 md_21 gat_23 kind_24 (.ref (k wi_25)) (.ref (k ti_26)) gs_27 th_28 st_29 rq_30 bl_31 te_32 og_33 sc kd_4 sr_5 wo_6 sa_7 qb_9 du_22) H := hP
      have hD : va_D A (WE h g 0 (-1) many_1 tlen_2 tat_3 qlen_8 md_21 gat_23 kind_24 (.ref (k wi_25)) (.ref (k ti_26)) gs_27 th_28 st_29 rq_30 bl_31 te_32 og_33 sc kd_4 sr_5 wo_6 sa_7 qb_9 du_22) := hD
      refine lv_iload_n hx hb d_S_check_60 rfl (lv_at hl 0 rfl) ?_
      have hc_0 : Int32.toInt 0 = 0 := by decide
      exact fin r_51 (0, (-1), many_1, tlen_2, tat_3, kd_4, sr_5, wo_6, sa_7, qlen_8, qb_9, md_21, du_22, gat_23, kind_24, wi_25, ti_26, gs_27, th_28, st_29, rq_30, bl_31, te_32, og_33) _ _ _ ls d_S_check_61 ⟨(by (try dsimp only); omega), (by (try dsimp only); omega), (by (try dsimp only); omega), (by (try dsimp only); omega), (by (try dsimp only); omega), (by (try dsimp only); omega), p_18, (by (try dsimp only); omega), (by (try dsimp only); omega), (by (try dsimp only); omega), (by (try dsimp only); omega), (by (try dsimp only); omega), (by (try dsimp only); omega), (by (try dsimp only); omega), (by (try dsimp only); omega), rfl⟩ hP hD hS
    · refine lv_iconst (v := 0) hx hb d_S_check_42 (by decide) ?_
      refine lv_goto (tgt := 54) hx hb d_S_check_43 (by decide) ?_
      refine lv_istore_n (lv' := [(2, .int 0), (1, .int r_35), (0, .ref (h 0))]) hx hb d_S_check_54 rfl hl (by decide) rfl (fun ls hl => ?_)
      refine lv_aload_n hx hb d_S_check_55 rfl (lv_at hl 2 rfl) ?_
      refine lv_iconst (v := 0) hx hb d_S_check_56 (by decide) ?_
      refine va_put (D := (dC, dI)) (ci := 0) (v := .int 0) (ty := .int) (C := "SieveDesk") (T := F_S) (N := 5) hx hb ht i_S ty_S ty_S_ok n_S hown hK hP hD hS 0 rfl rfl 3 (by decide) (ht _ k_210) (fun _ h9 => h9) rfl (ty_S_ok 3 (by decide)) rfl rfl (Nat.le_of_ble_eq_true rfl) d_S_check_57 (fun H locs hP hD hS => ?_)
      have hP : va_P (dC, dI) cls (WE h g 0 (-1) many_1 tlen_2 tat_3 qlen_8 md_21 gat_23 kind_24 (.ref (k wi_25)) (.ref (k ti_26)) gs_27 th_28 st_29 rq_30 bl_31 te_32 og_33 sc kd_4 sr_5 wo_6 sa_7 qb_9 du_22) H := hP
      have hD : va_D A (WE h g 0 (-1) many_1 tlen_2 tat_3 qlen_8 md_21 gat_23 kind_24 (.ref (k wi_25)) (.ref (k ti_26)) gs_27 th_28 st_29 rq_30 bl_31 te_32 og_33 sc kd_4 sr_5 wo_6 sa_7 qb_9 du_22) := hD
      refine lv_iload_n hx hb d_S_check_60 rfl (lv_at hl 0 rfl) ?_
      have hc_0 : Int32.toInt 0 = 0 := by decide
      have hc_m1 : Int32.toInt (-1) = (-1) := by decide
      exact fin 0 (0, (-1), many_1, tlen_2, tat_3, kd_4, sr_5, wo_6, sa_7, qlen_8, qb_9, md_21, du_22, gat_23, kind_24, wi_25, ti_26, gs_27, th_28, st_29, rq_30, bl_31, te_32, og_33) _ _ _ ls d_S_check_61 ⟨(by (try dsimp only); omega), (by (try dsimp only); omega), (by (try dsimp only); omega), (by (try dsimp only); omega), (by (try dsimp only); omega), (by (try dsimp only); omega), p_18, (by (try dsimp only); omega), (by (try dsimp only); omega), (by (try dsimp only); omega), (by (try dsimp only); omega), (by (try dsimp only); omega), (by (try dsimp only); omega), (by (try dsimp only); omega), (by (try dsimp only); omega), rfl⟩ hP hD hS
set_option maxHeartbeats 4000000 in
set_option maxRecDepth 100000 in
theorem c_S_check (l : Launch) (dC : Nat → ClassId) (dI : Nat → Nat → Nat) (k : Nat → Nat) (h : Nat → Nat) (g : Nat → ClassId) (len : Int32) (fp : Int32) (many : Int32) (tlen : Int32) (tat : Int32) (qlen : Int32) (md : Int32) (gat : Int32) (kind : Int32) (gs : Int32) (th : Int32) (st : Int32) (rq : Int32) (bl : Int32) (te : Int32) (og : Int32) (wi : Nat) (ti : Nat) (sc : Nat → Int32) (kd : Nat → Int32) (sr : Nat → Int32) (sa : Nat → Int32) (qb : Nat → Int32) (du : Nat → Int32) (wo : Nat → Option Nat)  (sz : Nat)  (v_0 : 0 ≤ Int32.toInt many) (v_1 : Int32.toInt many ≤ 401) (v_2 : 0 ≤ Int32.toInt tlen) (v_3 : Int32.toInt tlen ≤ 400) (v_4 : 0 ≤ Int32.toInt tat) (v_5 : Int32.toInt tat ≤ Int32.toInt tlen) (v_6 : 0 ≤ Int32.toInt qlen) (v_7 : Int32.toInt qlen ≤ 200) (v_8 : 0 ≤ Int32.toInt md) (v_9 : Int32.toInt md ≤ 200) (v_10 : -1 ≤ Int32.toInt gat) (v_11 : Int32.toInt gat ≤ 400) (v_12 : wi < 43) (v_13 : ti < 43) (v_14 : WOk k wo) (v_15 : 0 ≤ Int32.toInt len) (v_16 : Int32.toInt len ≤ 400) : Met l y_S_check (.code y_S_check b_S_check 3 (some .int) :: TT) ({ frames := 10, cells := 0, slots := 0, locals := 227 }) (va_Pc [.ref (h 0)] (PX dC dI k (TE g) (WE h g len fp many tlen tat qlen md gat kind (.ref (k wi)) (.ref (k ti)) gs th st rq bl te og sc kd sr wo sa qb du) sz)) (va_Qi (fun (r : Int32) (u : Int32 × Int32 × Int32 × Int32 × Int32 × (Nat → Int32) × (Nat → Int32) × (Nat → Option Nat) × (Nat → Int32) × Int32 × (Nat → Int32) × Int32 × (Nat → Int32) × Int32 × Int32 × Nat × Nat × Int32 × Int32 × Int32 × Int32 × Int32 × Int32 × Int32) => 0 ≤ Int32.toInt u.2.2.1 ∧ Int32.toInt u.2.2.1 ≤ 401 ∧ 0 ≤ Int32.toInt u.2.2.2.1 ∧ Int32.toInt u.2.2.2.1 ≤ 400 ∧ 0 ≤ Int32.toInt u.2.2.2.2.1 ∧ Int32.toInt u.2.2.2.2.1 ≤ Int32.toInt u.2.2.2.1 ∧ WOk k u.2.2.2.2.2.2.2.1 ∧ 0 ≤ Int32.toInt u.2.2.2.2.2.2.2.2.2.1 ∧ Int32.toInt u.2.2.2.2.2.2.2.2.2.1 ≤ 200 ∧ 0 ≤ Int32.toInt u.2.2.2.2.2.2.2.2.2.2.2.1 ∧ Int32.toInt u.2.2.2.2.2.2.2.2.2.2.2.1 ≤ 200 ∧ -1 ≤ Int32.toInt u.2.2.2.2.2.2.2.2.2.2.2.2.2.1 ∧ Int32.toInt u.2.2.2.2.2.2.2.2.2.2.2.2.2.1 ≤ 400 ∧ u.2.2.2.2.2.2.2.2.2.2.2.2.2.2.2.1 < 43 ∧ u.2.2.2.2.2.2.2.2.2.2.2.2.2.2.2.2.1 < 43 ∧ u.1 = 0) (fun u t => BX dC dI (TE g) (va_A (WE h g len fp many tlen tat qlen md gat kind (.ref (k wi)) (.ref (k ti)) gs th st rq bl te og sc kd sr wo sa qb du) sz) (WE h g u.1 u.2.1 u.2.2.1 u.2.2.2.1 u.2.2.2.2.1 u.2.2.2.2.2.2.2.2.2.1 u.2.2.2.2.2.2.2.2.2.2.2.1 u.2.2.2.2.2.2.2.2.2.2.2.2.2.1 u.2.2.2.2.2.2.2.2.2.2.2.2.2.2.1 (.ref (k u.2.2.2.2.2.2.2.2.2.2.2.2.2.2.2.1)) (.ref (k u.2.2.2.2.2.2.2.2.2.2.2.2.2.2.2.2.1)) u.2.2.2.2.2.2.2.2.2.2.2.2.2.2.2.2.2.1 u.2.2.2.2.2.2.2.2.2.2.2.2.2.2.2.2.2.2.1 u.2.2.2.2.2.2.2.2.2.2.2.2.2.2.2.2.2.2.2.1 u.2.2.2.2.2.2.2.2.2.2.2.2.2.2.2.2.2.2.2.2.1 u.2.2.2.2.2.2.2.2.2.2.2.2.2.2.2.2.2.2.2.2.2.1 u.2.2.2.2.2.2.2.2.2.2.2.2.2.2.2.2.2.2.2.2.2.2.1 u.2.2.2.2.2.2.2.2.2.2.2.2.2.2.2.2.2.2.2.2.2.2.2 sc u.2.2.2.2.2.1 u.2.2.2.2.2.2.1 u.2.2.2.2.2.2.2.1 u.2.2.2.2.2.2.2.2.1 u.2.2.2.2.2.2.2.2.2.2.1 u.2.2.2.2.2.2.2.2.2.2.2.2.1) t) (va_A (WE h g len fp many tlen tat qlen md gat kind (.ref (k wi)) (.ref (k ti)) gs th st rq bl te og sc kd sr wo sa qb du) sz)) 0 0 (va_A (WE h g len fp many tlen tat qlen md gat kind (.ref (k wi)) (.ref (k ti)) gs th st rq bl te og sc kd sr wo sa qb du) sz) := by
  refine Met.ofW (cc := b_S_check) (maxL := 3) (ret := (some .int)) (by decide) rfl ?_
  intro p e s m args below meth c s₁ B hml hv
  obtain ⟨rfl, hsz, hE, hP, hK, hD0⟩ := hv
  have hx := B.exec
  have hb := B.bytes
  have hr := B.returns
  have ht : ∀ w ∈ TT, w.before _ s = true := fun w hw => atoms_spec (ws := .code y_S_check b_S_check 3 (some .int) :: TT) B.pre w (List.mem_cons_of_mem _ hw)
  have hown : s.vm.findClass "SieveDesk" = some m.cls := findClass_of_methodNamed B.named
  have hlocks := B.notSynchronized
  subst hsz
  have hD := hD0.self (sz := s.heap.size)
  generalize hAe : va_A (WE h g len fp many tlen tat qlen md gat kind (.ref (k wi)) (.ref (k ti)) gs th st rq bl te og sc kd sr wo sa qb du) s.heap.size = A at hE hD ⊢
  have hA : ∀ q : Nat, s.heap.size ≤ q → A q := fun q h9 => by rw [← hAe]; exact Or.inr h9
  have hS : va_S A s.heap s.heap [] := va_S.rf
  have hl := lv_entry ([.ref (h 0)]) (n := 3) (Nat.le_of_ble_eq_true rfl)
  rw [lg_entry_eq]
  generalize (lg_sl ([.ref (h 0)]) ++ List.replicate (3 - (lg_sl ([.ref (h 0)])).length) Slot.unset).toArray = ls at hl ⊢
  have hl : lv_has ls 3 [(0, .ref (h 0))] := hl
  exact bd_S_check_0  hx hb hml hown ht hE hA hK  (fun r u H locs pc ls hd hp hP hD hS => W.iret hx hb hr (fun t het hW => ⟨⟨r, u, rfl, hp, by rw [het]; exact hP, va_K.moved hW.alike hK, hD⟩, hS.F het⟩) hS.2.2 hd) len fp many tlen tat kd sr wo sa qlen qb md du gat kind wi ti gs th st rq bl te og v_0 v_1 v_2 v_3 v_4 v_5 v_6 v_7 v_8 v_9 v_10 v_11 v_12 v_13 v_14 v_15 v_16 _ _ ls hP hD hS hl

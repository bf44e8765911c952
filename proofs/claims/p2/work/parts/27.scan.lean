set_option maxHeartbeats 4000000 in
set_option maxRecDepth 100000 in
theorem lp_T_scanText_45 {p : Program} {l : Launch} {e : Env} {s : State} {m : MethodId} {args : Array Value} {below : List Frame} {meth : Method} {c : Code} {Q : State → Prop} {A : Nat → Prop} {dC : Nat → ClassId} {dI : Nat → Nat → Nat} {k h : Nat → Nat} {g : Nat → ClassId} {len : Int32} {fp : Int32} {tlen : Int32} {qlen : Int32} {md : Int32} {gat : Int32} {kind : Int32} {gs : Int32} {th : Int32} {st : Int32} {rq : Int32} {bl : Int32} {te : Int32} {og : Int32} {wi : Nat} {ti : Nat} {sc : Nat → Int32} {qb : Nat → Int32} {du : Nat → Int32} (hx : p.tables.exec = Jvm.exec) (hb : c.code = b_T_scanText) (hml : c.maxLocals = 6) (hown : s.vm.findClass "SieveDesk$Tokens" = some m.cls) (ht : ∀ w ∈ TT, w.before args s = true) (hE : KE k A s s.heap) (hA : ∀ q : Nat, s.heap.size ≤ q → A q) (hK : va_K (dC, dI) cls (TE g) s) {bc : Int32} (h_0 : 0 ≤ Int32.toInt tlen) (h_1 : Int32.toInt tlen ≤ 400) (h_2 : 0 ≤ Int32.toInt bc) (h_3 : Int32.toInt bc ≤ 1000) (fin : ∀ (r : Int32) (u : Int32 × Int32 × (Nat → Int32) × (Nat → Int32) × (Nat → Option Nat) × (Nat → Int32)) (H : Heap) (locs : List Loc) (pc : Nat) (ls : Array Slot), decode b_T_scanText pc = .ok (.ireturn, 1) → narrow .boolean (.int r) = .int r → (0 ≤ Int32.toInt u.1 ∧ Int32.toInt u.1 ≤ 401 ∧ 0 ≤ Int32.toInt u.2.1 ∧ Int32.toInt u.2.1 ≤ Int32.toInt tlen ∧ WOk k u.2.2.2.2.1 ∧ narrow .boolean (.int r) = .int r) → va_P (dC, dI) cls (WE h g len fp u.1 tlen u.2.1 qlen md gat kind (.ref (k wi)) (.ref (k ti)) gs th st rq bl te og sc u.2.2.1 u.2.2.2.1 u.2.2.2.2.1 u.2.2.2.2.2 qb du) H → va_D A (WE h g len fp u.1 tlen u.2.1 qlen md gat kind (.ref (k wi)) (.ref (k ti)) gs th st rq bl te og sc u.2.2.1 u.2.2.2.1 u.2.2.2.2.1 u.2.2.2.2.2 qb du) → va_S A s.heap H locs → W p l e ({ frames := 2, cells := 0, slots := 0, locals := 43 } : Room) s m args below meth c H locs 0 0 Q (F0 m pc ls [.int r])) : ∀ (nn : Nat), ∀ (ln : Int32) (tu : Int32) (many : Int32) (tat : Int32) (kd : Nat → Int32) (sr : Nat → Int32) (wo : Nat → Option Nat) (sa : Nat → Int32), (Int32.toInt ln = -1 ∨ (0 ≤ Int32.toInt ln ∧ Int32.toInt ln ≤ Int32.toInt tlen)) → 0 ≤ Int32.toInt tu → Int32.toInt tu ≤ 400 → 0 ≤ Int32.toInt many → Int32.toInt many ≤ 401 → 0 ≤ Int32.toInt tat → Int32.toInt tat ≤ Int32.toInt tlen → WOk k wo → (400 - Int32.toInt tu).toNat < nn → ∀ (H : Heap) (locs : List Loc) (ls : Array Slot), va_P (dC, dI) cls (WE h g len fp many tlen tat qlen md gat kind (.ref (k wi)) (.ref (k ti)) gs th st rq bl te og sc kd sr wo sa qb du) H → va_D A (WE h g len fp many tlen tat qlen md gat kind (.ref (k wi)) (.ref (k ti)) gs th st rq bl te og sc kd sr wo sa qb du) → va_S A s.heap H locs → lv_has ls 6 [(3, .int ln), (4, .int tu), (0, .ref (h 2))] → W p l e ({ frames := 2, cells := 0, slots := 0, locals := 43 } : Room) s m args below meth c H locs 0 0 Q (F0 m 45 ls []) := by
  intro nn
  induction nn with
  | zero =>
    intro _ _ _ _ _ _ _ _ _ _ _ _ _ _ _ _ hm
    exact absurd hm (Nat.not_lt_zero _)
  | succ nn ih =>
    intro ln tu many tat kd sr wo sa v_0 v_1 v_2 v_3 v_4 v_5 v_6 v_7 hm H locs ls hP hD hS hl
    refine lv_iload hx hb d_T_scanText_45 (lv_at hl 1 rfl) ?_
    refine lv_sipush (v := 400) hx hb d_T_scanText_47 (by decide) ?_
    refine lv_icmp_ge (tgt := 112) hx hb d_T_scanText_50 (by decide) (fun c_1 => ?_) (fun c_1 => ?_)
    · have dc_1 := i_le c_1 (show Int32.toInt 400 = 400 by decide) rfl
      refine lv_iconst (v := 0) hx hb d_T_scanText_112 (by decide) ?_
      have hc_0 : Int32.toInt 0 = 0 := by decide
      exact fin 0 (many, tat, kd, sr, wo, sa) _ _ _ ls d_T_scanText_113 rfl ⟨(by (try dsimp only); omega), (by (try dsimp only); omega), (by (try dsimp only); omega), (by (try dsimp only); omega), v_7, rfl⟩ hP hD hS
    · have dc_1 := i_nle c_1 (show Int32.toInt 400 = 400 by decide) rfl
      refine lv_iload_n hx hb d_T_scanText_53 rfl (lv_at hl 0 rfl) ?_
      refine lv_if_lt (tgt := 112) hx hb d_T_scanText_54 (by decide) (fun c_2 => ?_) (fun c_2 => ?_)
      · have dc_2 := i_lt c_2 rfl (show Int32.toInt 0 = 0 by decide)
        refine lv_iconst (v := 0) hx hb d_T_scanText_112 (by decide) ?_
        have hc_0 : Int32.toInt 0 = 0 := by decide
        exact fin 0 (many, tat, kd, sr, wo, sa) _ _ _ ls d_T_scanText_113 rfl ⟨(by (try dsimp only); omega), (by (try dsimp only); omega), (by (try dsimp only); omega), (by (try dsimp only); omega), v_7, rfl⟩ hP hD hS
      · have dc_2 := i_nlt c_2 rfl (show Int32.toInt 0 = 0 by decide)
        refine lv_aload_n hx hb d_T_scanText_57 rfl (lv_at hl 2 rfl) ?_
        refine lv_iload_n hx hb d_T_scanText_58 rfl (lv_at hl 0 rfl) ?_
        have hFc := va_free (wc := (WE h g len fp many tlen tat qlen md gat kind (.ref (k wi)) (.ref (k ti)) gs th st rq bl te og sc kd sr wo sa qb du)) hD hS hA [0, 1, 2, 3, 4, 5, 6, 7, 8, 9, 10] rfl
        refine va_calli (va_runV (As := [.int ln]) (rest := []) ⟨hx, hb, hml, hown, ht⟩ (c_T_byteAt l dC dI k h g len fp many tlen tat qlen md gat kind gs th st rq bl te og wi ti sc kd sr sa qb du wo ln _  ) (cwV 1 ht (g_V k_239 k_241 k_2 k_75 k_242) rfl rfl rfl (by decide +kernel) ⟨(Nat.le_of_ble_eq_true rfl), (Nat.le_of_ble_eq_true rfl)⟩) ⟨fb_X, va_recv hK hP (ci := 1) (q0 := 2) rfl rfl, pre_X hE hS hFc hP hK hD⟩ rfl rfl hl.1 rfl (lv_room (Nat.le_of_ble_eq_true rfl)) d_T_scanText_59 ⟨(Nat.le_of_ble_eq_true rfl), (Nat.le_of_ble_eq_true rfl)⟩) hS (fun q _ h9 => hFc q h9) hFc (fun r_4 u_3 t H locs het hvm hw hB hz1 hk1 hS => ?_)
        obtain ⟨p_5, p_6, p_7⟩ := hw
        obtain ⟨hP1, hK1, hD1⟩ := hB
        rw [het] at hP1
        have hP : va_P (dC, dI) cls (WE h g len fp many tlen tat qlen md gat kind (.ref (k wi)) (.ref (k ti)) gs th st rq bl te og sc kd sr wo sa qb du) H := hP1
        have hD : va_D A (WE h g len fp many tlen tat qlen md gat kind (.ref (k wi)) (.ref (k ti)) gs th st rq bl te og sc kd sr wo sa qb du) := hD1.weaken (fun _ _ _ h9 => hFc _ h9)
        refine lv_bipush (v := 46) hx hb d_T_scanText_62 (by decide) ?_
        refine lv_icmp_ne (tgt := 77) hx hb d_T_scanText_64 (by decide) (fun c_8 => ?_) (fun c_8 => ?_)
        · have dc_8 := i_ne c_8 rfl (show Int32.toInt 46 = 46 by decide)
          refine lv_iconst (v := (-1)) hx hb d_T_scanText_77 (by decide) ?_
          refine lv_istore (lv' := [(5, .int (-1)), (3, .int ln), (4, .int tu), (0, .ref (h 2))]) hx hb d_T_scanText_78 hl (by decide) rfl (fun ls hl => ?_)
          refine lv_iload hx hb d_T_scanText_80 (lv_at hl 0 rfl) ?_
          refine lv_if_lt (tgt := 100) hx hb d_T_scanText_82 (by decide) (fun _ => ?_) (fun cn => absurd (by decide) cn)
          refine lv_aload_n hx hb d_T_scanText_100 rfl (lv_at hl 3 rfl) ?_
          refine lv_iload_n hx hb d_T_scanText_101 rfl (lv_at hl 1 rfl) ?_
          have hFc := va_free (wc := (WE h g len fp many tlen tat qlen md gat kind (.ref (k wi)) (.ref (k ti)) gs th st rq bl te og sc kd sr wo sa qb du)) hD hS hA [0, 1, 2, 3, 4, 5, 6, 7, 8, 9, 10] rfl
          refine va_calli (va_runV (As := [.int ln]) (rest := []) ⟨hx, hb, hml, hown, ht⟩ (c_T_behindLine l dC dI k h g len fp many tlen tat qlen md gat kind gs th st rq bl te og wi ti sc kd sr sa qb du wo ln _ (by omega) (by omega) (by omega) (by omega) ) (cwV 1 ht (g_V k_243 k_245 k_3 k_75 k_246) rfl rfl rfl (by decide +kernel) ⟨(Nat.le_of_ble_eq_true rfl), (Nat.le_of_ble_eq_true rfl)⟩) ⟨fb_X, va_recv hK hP (ci := 1) (q0 := 2) rfl rfl, pre_X hE hS hFc hP hK hD⟩ rfl rfl hl.1 rfl (lv_room (Nat.le_of_ble_eq_true rfl)) d_T_scanText_102 ⟨(Nat.le_of_ble_eq_true rfl), (Nat.le_of_ble_eq_true rfl)⟩) hS (fun q _ h9 => hFc q h9) hFc (fun r_10 u_9 t H locs het hvm hw hB hz1 hk1 hS => ?_)
          have p_11 := hw
          obtain ⟨hP1, hK1, hD1⟩ := hB
          rw [het] at hP1
          have hP : va_P (dC, dI) cls (WE h g len fp many tlen tat qlen md gat kind (.ref (k wi)) (.ref (k ti)) gs th st rq bl te og sc kd sr wo sa qb du) H := hP1
          have hD : va_D A (WE h g len fp many tlen tat qlen md gat kind (.ref (k wi)) (.ref (k ti)) gs th st rq bl te og sc kd sr wo sa qb du) := hD1.weaken (fun _ _ _ h9 => hFc _ h9)
          refine lv_istore_n (lv' := [(3, .int r_10), (5, .int (-1)), (4, .int tu), (0, .ref (h 2))]) hx hb d_T_scanText_105 rfl hl (by decide) rfl (fun ls hl => ?_)
          refine lv_iinc (v := (tu + 1)) (lv' := [(4, .int (tu + 1)), (3, .int r_10), (5, .int (-1)), (0, .ref (h 2))]) hx hb d_T_scanText_106 hl (k := 2) rfl rfl (by decide) rfl (fun ls hl => ?_)
          have e_12 : Int32.toInt (tu + 1) = (Int32.toInt tu) + 1 := i_add rfl (show Int32.toInt 1 = 1 by decide) (by omega) (by omega)
          refine lv_goto (tgt := 45) hx hb d_T_scanText_109 (by decide) ?_
          exact ih r_10 (tu + 1) many tat kd sr wo sa (by omega) (by omega) (by omega) (by omega) (by omega) (by omega) (by omega) v_7 (by omega) _ _ ls hP hD hS (lv_sub hl [1, 0, 3] rfl)
        · have dc_8 := i_eq c_8 rfl (show Int32.toInt 46 = 46 by decide)
          refine lv_aload_n hx hb d_T_scanText_67 rfl (lv_at hl 2 rfl) ?_
          refine lv_iload_n hx hb d_T_scanText_68 rfl (lv_at hl 0 rfl) ?_
          refine lv_iconst (v := 1) hx hb d_T_scanText_69 (by decide) ?_
          refine lv_iadd hx hb d_T_scanText_70 ?_
          have e_13 : Int32.toInt (ln + 1) = (Int32.toInt ln) + 1 := i_add rfl (show Int32.toInt 1 = 1 by decide) (by omega) (by omega)
          have hFc := va_free (wc := (WE h g len fp many tlen tat qlen md gat kind (.ref (k wi)) (.ref (k ti)) gs th st rq bl te og sc kd sr wo sa qb du)) hD hS hA [0, 1, 2, 3, 4, 5, 6, 7, 8, 9, 10] rfl
          refine va_calli (va_runV (As := [.int (ln + 1)]) (rest := []) ⟨hx, hb, hml, hown, ht⟩ (c_T_behindLineEnd l dC dI k h g len fp many tlen tat qlen md gat kind gs th st rq bl te og wi ti sc kd sr sa qb du wo (ln + 1) _ (by omega) (by omega) (by omega) (by omega) ) (cwV 1 ht (g_V k_336 k_338 k_10 k_75 k_339) rfl rfl rfl (by decide +kernel) ⟨(Nat.le_of_ble_eq_true rfl), (Nat.le_of_ble_eq_true rfl)⟩) ⟨fb_X, va_recv hK hP (ci := 1) (q0 := 2) rfl rfl, pre_X hE hS hFc hP hK hD⟩ rfl rfl hl.1 rfl (lv_room (Nat.le_of_ble_eq_true rfl)) d_T_scanText_71 ⟨(Nat.le_of_ble_eq_true rfl), (Nat.le_of_ble_eq_true rfl)⟩) hS (fun q _ h9 => hFc q h9) hFc (fun r_15 u_14 t H locs het hvm hw hB hz1 hk1 hS => ?_)
          have p_16 := hw
          obtain ⟨hP1, hK1, hD1⟩ := hB
          rw [het] at hP1
          have hP : va_P (dC, dI) cls (WE h g len fp many tlen tat qlen md gat kind (.ref (k wi)) (.ref (k ti)) gs th st rq bl te og sc kd sr wo sa qb du) H := hP1
          have hD : va_D A (WE h g len fp many tlen tat qlen md gat kind (.ref (k wi)) (.ref (k ti)) gs th st rq bl te og sc kd sr wo sa qb du) := hD1.weaken (fun _ _ _ h9 => hFc _ h9)
          refine lv_goto (tgt := 78) hx hb d_T_scanText_74 (by decide) ?_
          refine lv_istore (lv' := [(5, .int r_15), (3, .int ln), (4, .int tu), (0, .ref (h 2))]) hx hb d_T_scanText_78 hl (by decide) rfl (fun ls hl => ?_)
          refine lv_iload hx hb d_T_scanText_80 (lv_at hl 0 rfl) ?_
          refine lv_if_lt (tgt := 100) hx hb d_T_scanText_82 (by decide) (fun c_17 => ?_) (fun c_17 => ?_)
          · have dc_17 := i_lt c_17 rfl (show Int32.toInt 0 = 0 by decide)
            refine lv_aload_n hx hb d_T_scanText_100 rfl (lv_at hl 3 rfl) ?_
            refine lv_iload_n hx hb d_T_scanText_101 rfl (lv_at hl 1 rfl) ?_
            have hFc := va_free (wc := (WE h g len fp many tlen tat qlen md gat kind (.ref (k wi)) (.ref (k ti)) gs th st rq bl te og sc kd sr wo sa qb du)) hD hS hA [0, 1, 2, 3, 4, 5, 6, 7, 8, 9, 10] rfl
            refine va_calli (va_runV (As := [.int ln]) (rest := []) ⟨hx, hb, hml, hown, ht⟩ (c_T_behindLine l dC dI k h g len fp many tlen tat qlen md gat kind gs th st rq bl te og wi ti sc kd sr sa qb du wo ln _ (by omega) (by omega) (by omega) (by omega) ) (cwV 1 ht (g_V k_243 k_245 k_3 k_75 k_246) rfl rfl rfl (by decide +kernel) ⟨(Nat.le_of_ble_eq_true rfl), (Nat.le_of_ble_eq_true rfl)⟩) ⟨fb_X, va_recv hK hP (ci := 1) (q0 := 2) rfl rfl, pre_X hE hS hFc hP hK hD⟩ rfl rfl hl.1 rfl (lv_room (Nat.le_of_ble_eq_true rfl)) d_T_scanText_102 ⟨(Nat.le_of_ble_eq_true rfl), (Nat.le_of_ble_eq_true rfl)⟩) hS (fun q _ h9 => hFc q h9) hFc (fun r_19 u_18 t H locs het hvm hw hB hz1 hk1 hS => ?_)
            have p_20 := hw
            obtain ⟨hP1, hK1, hD1⟩ := hB
            rw [het] at hP1
            have hP : va_P (dC, dI) cls (WE h g len fp many tlen tat qlen md gat kind (.ref (k wi)) (.ref (k ti)) gs th st rq bl te og sc kd sr wo sa qb du) H := hP1
            have hD : va_D A (WE h g len fp many tlen tat qlen md gat kind (.ref (k wi)) (.ref (k ti)) gs th st rq bl te og sc kd sr wo sa qb du) := hD1.weaken (fun _ _ _ h9 => hFc _ h9)
            refine lv_istore_n (lv' := [(3, .int r_19), (5, .int r_15), (4, .int tu), (0, .ref (h 2))]) hx hb d_T_scanText_105 rfl hl (by decide) rfl (fun ls hl => ?_)
            refine lv_iinc (v := (tu + 1)) (lv' := [(4, .int (tu + 1)), (3, .int r_19), (5, .int r_15), (0, .ref (h 2))]) hx hb d_T_scanText_106 hl (k := 2) rfl rfl (by decide) rfl (fun ls hl => ?_)
            have e_21 : Int32.toInt (tu + 1) = (Int32.toInt tu) + 1 := i_add rfl (show Int32.toInt 1 = 1 by decide) (by omega) (by omega)
            refine lv_goto (tgt := 45) hx hb d_T_scanText_109 (by decide) ?_
            exact ih r_19 (tu + 1) many tat kd sr wo sa (by omega) (by omega) (by omega) (by omega) (by omega) (by omega) (by omega) v_7 (by omega) _ _ ls hP hD hS (lv_sub hl [1, 0, 3] rfl)
          · have dc_17 := i_nlt c_17 rfl (show Int32.toInt 0 = 0 by decide)
            refine lv_aload_n hx hb d_T_scanText_85 rfl (lv_at hl 3 rfl) ?_
            refine lv_iconst (v := 4) hx hb d_T_scanText_86 (by decide) ?_
            refine va_gets hx hb (ke_W_NONE hE) hS hown (ht _ k_251) (fun _ h9 => h9) d_T_scanText_87 ?_
            refine lv_sipush (v := 256) hx hb d_T_scanText_90 (by decide) ?_
            refine lv_iload hx hb d_T_scanText_93 (lv_at hl 0 rfl) ?_
            have hc_4 : Int32.toInt 4 = 4 := by decide
            have hc_256 : Int32.toInt 256 = 256 := by decide
            have hFc := va_free (wc := (WE h g len fp many tlen tat qlen md gat kind (.ref (k wi)) (.ref (k ti)) gs th st rq bl te og sc kd sr wo sa qb du)) hD hS hA [0, 1, 2, 3, 4, 5, 6, 7, 8, 9, 10] rfl
            refine va_callv (va_runV (As := [.int 4, .ref (k 0), .int 256, .int r_15]) (rest := []) ⟨hx, hb, hml, hown, ht⟩ (c_T_add l dC dI k h g len fp many tlen tat qlen md gat kind gs th st rq bl te og wi ti sc kd sr sa qb du wo 4 0 256 r_15 _ (by omega) (by omega) (by omega) (by omega) (by omega) (by omega) (by omega) (by omega) (by omega) v_7) (cwV 4 ht (g_V k_252 k_254 k_5 k_75 k_255) rfl rfl rfl (by decide +kernel) ⟨(Nat.le_of_ble_eq_true rfl), (Nat.le_of_ble_eq_true rfl)⟩) ⟨fb_X, va_recv hK hP (ci := 1) (q0 := 2) rfl rfl, pre_X hE hS hFc hP hK hD⟩ rfl rfl hl.1 rfl (lv_room (Nat.le_of_ble_eq_true rfl)) d_T_scanText_95 ⟨(Nat.le_of_ble_eq_true rfl), (Nat.le_of_ble_eq_true rfl)⟩) hS (fun q _ h9 => hFc q h9) hFc (fun u_28 t H locs het hvm hw hB hz1 hk1 hS => ?_)
            obtain ⟨many_22, tat_23, kd_24, sr_25, wo_26, sa_27⟩ := u_28
            try dsimp only at hw
            obtain ⟨p_30, p_31, p_32, p_33, p_34⟩ := hw
            obtain ⟨hP1, hK1, hD1⟩ := hB
            rw [het] at hP1
            have hP : va_P (dC, dI) cls (WE h g len fp many_22 tlen tat_23 qlen md gat kind (.ref (k wi)) (.ref (k ti)) gs th st rq bl te og sc kd_24 sr_25 wo_26 sa_27 qb du) H := hP1
            have hD : va_D A (WE h g len fp many_22 tlen tat_23 qlen md gat kind (.ref (k wi)) (.ref (k ti)) gs th st rq bl te og sc kd_24 sr_25 wo_26 sa_27 qb du) := hD1.weaken (fun _ _ _ h9 => hFc _ h9)
            refine lv_iconst (v := 1) hx hb d_T_scanText_98 (by decide) ?_
            have hc_1 : Int32.toInt 1 = 1 := by decide
            exact fin 1 (many_22, tat_23, kd_24, sr_25, wo_26, sa_27) _ _ _ ls d_T_scanText_99 rfl ⟨(by (try dsimp only); omega), (by (try dsimp only); omega), (by (try dsimp only); omega), (by (try dsimp only); omega), p_34, rfl⟩ hP hD hS
set_option maxHeartbeats 4000000 in
set_option maxRecDepth 100000 in
theorem lp_T_scanText_2 {p : Program} {l : Launch} {e : Env} {s : State} {m : MethodId} {args : Array Value} {below : List Frame} {meth : Method} {c : Code} {Q : State → Prop} {A : Nat → Prop} {dC : Nat → ClassId} {dI : Nat → Nat → Nat} {k h : Nat → Nat} {g : Nat → ClassId} {len : Int32} {fp : Int32} {tlen : Int32} {qlen : Int32} {md : Int32} {gat : Int32} {kind : Int32} {gs : Int32} {th : Int32} {st : Int32} {rq : Int32} {bl : Int32} {te : Int32} {og : Int32} {wi : Nat} {ti : Nat} {sc : Nat → Int32} {qb : Nat → Int32} {du : Nat → Int32} (hx : p.tables.exec = Jvm.exec) (hb : c.code = b_T_scanText) (hml : c.maxLocals = 6) (hown : s.vm.findClass "SieveDesk$Tokens" = some m.cls) (ht : ∀ w ∈ TT, w.before args s = true) (hE : KE k A s s.heap) (hA : ∀ q : Nat, s.heap.size ≤ q → A q) (hK : va_K (dC, dI) cls (TE g) s) {bc : Int32} (h_0 : 0 ≤ Int32.toInt tlen) (h_1 : Int32.toInt tlen ≤ 400) (h_2 : 0 ≤ Int32.toInt bc) (h_3 : Int32.toInt bc ≤ 1000) (fin : ∀ (r : Int32) (u : Int32 × Int32 × (Nat → Int32) × (Nat → Int32) × (Nat → Option Nat) × (Nat → Int32)) (H : Heap) (locs : List Loc) (pc : Nat) (ls : Array Slot), decode b_T_scanText pc = .ok (.ireturn, 1) → narrow .boolean (.int r) = .int r → (0 ≤ Int32.toInt u.1 ∧ Int32.toInt u.1 ≤ 401 ∧ 0 ≤ Int32.toInt u.2.1 ∧ Int32.toInt u.2.1 ≤ Int32.toInt tlen ∧ WOk k u.2.2.2.2.1 ∧ narrow .boolean (.int r) = .int r) → va_P (dC, dI) cls (WE h g len fp u.1 tlen u.2.1 qlen md gat kind (.ref (k wi)) (.ref (k ti)) gs th st rq bl te og sc u.2.2.1 u.2.2.2.1 u.2.2.2.2.1 u.2.2.2.2.2 qb du) H → va_D A (WE h g len fp u.1 tlen u.2.1 qlen md gat kind (.ref (k wi)) (.ref (k ti)) gs th st rq bl te og sc u.2.2.1 u.2.2.2.1 u.2.2.2.2.1 u.2.2.2.2.2 qb du) → va_S A s.heap H locs → W p l e ({ frames := 2, cells := 0, slots := 0, locals := 43 } : Room) s m args below meth c H locs 0 0 Q (F0 m pc ls [.int r])) : ∀ (nn : Nat), ∀ (i : Int32) (many : Int32) (tat : Int32) (kd : Nat → Int32) (sr : Nat → Int32) (wo : Nat → Option Nat) (sa : Nat → Int32), 0 ≤ Int32.toInt i → Int32.toInt i ≤ 1000 → 0 ≤ Int32.toInt many → Int32.toInt many ≤ 401 → 0 ≤ Int32.toInt tat → Int32.toInt tat ≤ Int32.toInt tlen → WOk k wo → (1001 - Int32.toInt i).toNat < nn → ∀ (H : Heap) (locs : List Loc) (ls : Array Slot), va_P (dC, dI) cls (WE h g len fp many tlen tat qlen md gat kind (.ref (k wi)) (.ref (k ti)) gs th st rq bl te og sc kd sr wo sa qb du) H → va_D A (WE h g len fp many tlen tat qlen md gat kind (.ref (k wi)) (.ref (k ti)) gs th st rq bl te og sc kd sr wo sa qb du) → va_S A s.heap H locs → lv_has ls 6 [(2, .int i), (0, .ref (h 2))] → W p l e ({ frames := 2, cells := 0, slots := 0, locals := 43 } : Room) s m args below meth c H locs 0 0 Q (F0 m 2 ls []) := by
  intro nn
  induction nn with
  | zero =>
    intro _ _ _ _ _ _ _ _ _ _ _ _ _ _ hm
    exact absurd hm (Nat.not_lt_zero _)
  | succ nn ih =>
    intro i many tat kd sr wo sa v_0 v_1 v_2 v_3 v_4 v_5 v_6 hm H locs ls hP hD hS hl
    refine lv_iload_n hx hb d_T_scanText_2 rfl (lv_at hl 0 rfl) ?_
    refine lv_aload_n hx hb d_T_scanText_3 rfl (lv_at hl 1 rfl) ?_
    refine va_get (D := (dC, dI)) (ci := 1) (v := .int tlen) (C := "SieveDesk$Tokens") (T := F_T) (N := 9) hx hb ht i_T hown hK hP 2 rfl rfl 7 (by decide) (ht _ k_131) (fun _ h9 => h9) rfl d_T_scanText_4 ?_
    refine lv_icmp_ge (tgt := 36) hx hb d_T_scanText_7 (by decide) (fun c_35 => ?_) (fun c_35 => ?_)
    · have dc_35 := i_le c_35 rfl rfl
      refine lv_aload_n hx hb d_T_scanText_36 rfl (lv_at hl 1 rfl) ?_
      refine lv_iload_n hx hb d_T_scanText_37 rfl (lv_at hl 0 rfl) ?_
      have hFc := va_free (wc := (WE h g len fp many tlen tat qlen md gat kind (.ref (k wi)) (.ref (k ti)) gs th st rq bl te og sc kd sr wo sa qb du)) hD hS hA [0, 1, 2, 3, 4, 5, 6, 7, 8, 9, 10] rfl
      refine va_calli (va_runV (As := [.int i]) (rest := []) ⟨hx, hb, hml, hown, ht⟩ (c_T_behindLineEnd l dC dI k h g len fp many tlen tat qlen md gat kind gs th st rq bl te og wi ti sc kd sr sa qb du wo i _ (by omega) (by omega) (by omega) (by omega) ) (cwV 1 ht (g_V k_336 k_338 k_10 k_75 k_339) rfl rfl rfl (by decide +kernel) ⟨(Nat.le_of_ble_eq_true rfl), (Nat.le_of_ble_eq_true rfl)⟩) ⟨fb_X, va_recv hK hP (ci := 1) (q0 := 2) rfl rfl, pre_X hE hS hFc hP hK hD⟩ rfl rfl hl.1 rfl (lv_room (Nat.le_of_ble_eq_true rfl)) d_T_scanText_38 ⟨(Nat.le_of_ble_eq_true rfl), (Nat.le_of_ble_eq_true rfl)⟩) hS (fun q _ h9 => hFc q h9) hFc (fun r_37 u_36 t H locs het hvm hw hB hz1 hk1 hS => ?_)
      have p_38 := hw
      obtain ⟨hP1, hK1, hD1⟩ := hB
      rw [het] at hP1
      have hP : va_P (dC, dI) cls (WE h g len fp many tlen tat qlen md gat kind (.ref (k wi)) (.ref (k ti)) gs th st rq bl te og sc kd sr wo sa qb du) H := hP1
      have hD : va_D A (WE h g len fp many tlen tat qlen md gat kind (.ref (k wi)) (.ref (k ti)) gs th st rq bl te og sc kd sr wo sa qb du) := hD1.weaken (fun _ _ _ h9 => hFc _ h9)
      refine lv_istore_n (lv' := [(3, .int r_37), (2, .int i), (0, .ref (h 2))]) hx hb d_T_scanText_41 rfl hl (by decide) rfl (fun ls hl => ?_)
      refine lv_iconst (v := 0) hx hb d_T_scanText_42 (by decide) ?_
      refine lv_istore (lv' := [(4, .int 0), (3, .int r_37), (2, .int i), (0, .ref (h 2))]) hx hb d_T_scanText_43 hl (by decide) rfl (fun ls hl => ?_)
      have hc_0 : Int32.toInt 0 = 0 := by decide
      exact (lp_T_scanText_45 (bc := bc) hx hb hml hown ht hE hA hK h_0 h_1 h_2 h_3 fin _) r_37 0 many tat kd sr wo sa (by omega) (by omega) (by omega) (by omega) (by omega) (by omega) (by omega) v_6 (Nat.lt_succ_self _) _ _ ls hP hD hS (lv_sub hl [1, 0, 3] rfl)
    · have dc_35 := i_nle c_35 rfl rfl
      refine lv_aload_n hx hb d_T_scanText_10 rfl (lv_at hl 1 rfl) ?_
      refine lv_iload_n hx hb d_T_scanText_11 rfl (lv_at hl 0 rfl) ?_
      have hFc := va_free (wc := (WE h g len fp many tlen tat qlen md gat kind (.ref (k wi)) (.ref (k ti)) gs th st rq bl te og sc kd sr wo sa qb du)) hD hS hA [0, 1, 2, 3, 4, 5, 6, 7, 8, 9, 10] rfl
      refine va_calli (va_runV (As := [.int i]) (rest := []) ⟨hx, hb, hml, hown, ht⟩ (c_T_byteAt l dC dI k h g len fp many tlen tat qlen md gat kind gs th st rq bl te og wi ti sc kd sr sa qb du wo i _  ) (cwV 1 ht (g_V k_239 k_241 k_2 k_75 k_242) rfl rfl rfl (by decide +kernel) ⟨(Nat.le_of_ble_eq_true rfl), (Nat.le_of_ble_eq_true rfl)⟩) ⟨fb_X, va_recv hK hP (ci := 1) (q0 := 2) rfl rfl, pre_X hE hS hFc hP hK hD⟩ rfl rfl hl.1 rfl (lv_room (Nat.le_of_ble_eq_true rfl)) d_T_scanText_12 ⟨(Nat.le_of_ble_eq_true rfl), (Nat.le_of_ble_eq_true rfl)⟩) hS (fun q _ h9 => hFc q h9) hFc (fun r_40 u_39 t H locs het hvm hw hB hz1 hk1 hS => ?_)
      obtain ⟨p_41, p_42, p_43⟩ := hw
      obtain ⟨hP1, hK1, hD1⟩ := hB
      rw [het] at hP1
      have hP : va_P (dC, dI) cls (WE h g len fp many tlen tat qlen md gat kind (.ref (k wi)) (.ref (k ti)) gs th st rq bl te og sc kd sr wo sa qb du) H := hP1
      have hD : va_D A (WE h g len fp many tlen tat qlen md gat kind (.ref (k wi)) (.ref (k ti)) gs th st rq bl te og sc kd sr wo sa qb du) := hD1.weaken (fun _ _ _ h9 => hFc _ h9)
      refine lv_bipush (v := 32) hx hb d_T_scanText_15 (by decide) ?_
      refine lv_icmp_eq (tgt := 30) hx hb d_T_scanText_17 (by decide) (fun c_44 => ?_) (fun c_44 => ?_)
      · have dc_44 := i_eq c_44 rfl (show Int32.toInt 32 = 32 by decide)
        refine lv_iinc (v := (i + 1)) (lv' := [(2, .int (i + 1)), (0, .ref (h 2))]) hx hb d_T_scanText_30 hl (k := 0) rfl rfl (by decide) rfl (fun ls hl => ?_)
        have e_45 : Int32.toInt (i + 1) = (Int32.toInt i) + 1 := i_add rfl (show Int32.toInt 1 = 1 by decide) (by omega) (by omega)
        refine lv_goto (tgt := 2) hx hb d_T_scanText_33 (by decide) ?_
        exact ih (i + 1) many tat kd sr wo sa (by omega) (by omega) (by omega) (by omega) (by omega) (by omega) v_6 (by omega) _ _ ls hP hD hS (lv_sub hl [0, 1] rfl)
      · have dc_44 := i_ne c_44 rfl (show Int32.toInt 32 = 32 by decide)
        refine lv_aload_n hx hb d_T_scanText_20 rfl (lv_at hl 1 rfl) ?_
        refine lv_iload_n hx hb d_T_scanText_21 rfl (lv_at hl 0 rfl) ?_
        have hFc := va_free (wc := (WE h g len fp many tlen tat qlen md gat kind (.ref (k wi)) (.ref (k ti)) gs th st rq bl te og sc kd sr wo sa qb du)) hD hS hA [0, 1, 2, 3, 4, 5, 6, 7, 8, 9, 10] rfl
        refine va_calli (va_runV (As := [.int i]) (rest := []) ⟨hx, hb, hml, hown, ht⟩ (c_T_byteAt l dC dI k h g len fp many tlen tat qlen md gat kind gs th st rq bl te og wi ti sc kd sr sa qb du wo i _  ) (cwV 1 ht (g_V k_239 k_241 k_2 k_75 k_242) rfl rfl rfl (by decide +kernel) ⟨(Nat.le_of_ble_eq_true rfl), (Nat.le_of_ble_eq_true rfl)⟩) ⟨fb_X, va_recv hK hP (ci := 1) (q0 := 2) rfl rfl, pre_X hE hS hFc hP hK hD⟩ rfl rfl hl.1 rfl (lv_room (Nat.le_of_ble_eq_true rfl)) d_T_scanText_22 ⟨(Nat.le_of_ble_eq_true rfl), (Nat.le_of_ble_eq_true rfl)⟩) hS (fun q _ h9 => hFc q h9) hFc (fun r_47 u_46 t H locs het hvm hw hB hz1 hk1 hS => ?_)
        obtain ⟨p_48, p_49, p_50⟩ := hw
        obtain ⟨hP1, hK1, hD1⟩ := hB
        rw [het] at hP1
        have hP : va_P (dC, dI) cls (WE h g len fp many tlen tat qlen md gat kind (.ref (k wi)) (.ref (k ti)) gs th st rq bl te og sc kd sr wo sa qb du) H := hP1
        have hD : va_D A (WE h g len fp many tlen tat qlen md gat kind (.ref (k wi)) (.ref (k ti)) gs th st rq bl te og sc kd sr wo sa qb du) := hD1.weaken (fun _ _ _ h9 => hFc _ h9)
        refine lv_bipush (v := 9) hx hb d_T_scanText_25 (by decide) ?_
        refine lv_icmp_ne (tgt := 36) hx hb d_T_scanText_27 (by decide) (fun c_51 => ?_) (fun c_51 => ?_)
        · have dc_51 := i_ne c_51 rfl (show Int32.toInt 9 = 9 by decide)
          refine lv_aload_n hx hb d_T_scanText_36 rfl (lv_at hl 1 rfl) ?_
          refine lv_iload_n hx hb d_T_scanText_37 rfl (lv_at hl 0 rfl) ?_
          have hFc := va_free (wc := (WE h g len fp many tlen tat qlen md gat kind (.ref (k wi)) (.ref (k ti)) gs th st rq bl te og sc kd sr wo sa qb du)) hD hS hA [0, 1, 2, 3, 4, 5, 6, 7, 8, 9, 10] rfl
          refine va_calli (va_runV (As := [.int i]) (rest := []) ⟨hx, hb, hml, hown, ht⟩ (c_T_behindLineEnd l dC dI k h g len fp many tlen tat qlen md gat kind gs th st rq bl te og wi ti sc kd sr sa qb du wo i _ (by omega) (by omega) (by omega) (by omega) ) (cwV 1 ht (g_V k_336 k_338 k_10 k_75 k_339) rfl rfl rfl (by decide +kernel) ⟨(Nat.le_of_ble_eq_true rfl), (Nat.le_of_ble_eq_true rfl)⟩) ⟨fb_X, va_recv hK hP (ci := 1) (q0 := 2) rfl rfl, pre_X hE hS hFc hP hK hD⟩ rfl rfl hl.1 rfl (lv_room (Nat.le_of_ble_eq_true rfl)) d_T_scanText_38 ⟨(Nat.le_of_ble_eq_true rfl), (Nat.le_of_ble_eq_true rfl)⟩) hS (fun q _ h9 => hFc q h9) hFc (fun r_53 u_52 t H locs het hvm hw hB hz1 hk1 hS => ?_)
          have p_54 := hw
          obtain ⟨hP1, hK1, hD1⟩ := hB
          rw [het] at hP1
          have hP : va_P (dC, dI) cls (WE h g len fp many tlen tat qlen md gat kind (.ref (k wi)) (.ref (k ti)) gs th st rq bl te og sc kd sr wo sa qb du) H := hP1
          have hD : va_D A (WE h g len fp many tlen tat qlen md gat kind (.ref (k wi)) (.ref (k ti)) gs th st rq bl te og sc kd sr wo sa qb du) := hD1.weaken (fun _ _ _ h9 => hFc _ h9)
          refine lv_istore_n (lv' := [(3, .int r_53), (2, .int i), (0, .ref (h 2))]) hx hb d_T_scanText_41 rfl hl (by decide) rfl (fun ls hl => ?_)
          refine lv_iconst (v := 0) hx hb d_T_scanText_42 (by decide) ?_
          refine lv_istore (lv' := [(4, .int 0), (3, .int r_53), (2, .int i), (0, .ref (h 2))]) hx hb d_T_scanText_43 hl (by decide) rfl (fun ls hl => ?_)
          have hc_0 : Int32.toInt 0 = 0 := by decide
          exact (lp_T_scanText_45 (bc := bc) hx hb hml hown ht hE hA hK h_0 h_1 h_2 h_3 fin _) r_53 0 many tat kd sr wo sa (by omega) (by omega) (by omega) (by omega) (by omega) (by omega) (by omega) v_6 (Nat.lt_succ_self _) _ _ ls hP hD hS (lv_sub hl [1, 0, 3] rfl)
        · have dc_51 := i_eq c_51 rfl (show Int32.toInt 9 = 9 by decide)
          refine lv_iinc (v := (i + 1)) (lv' := [(2, .int (i + 1)), (0, .ref (h 2))]) hx hb d_T_scanText_30 hl (k := 0) rfl rfl (by decide) rfl (fun ls hl => ?_)
          have e_55 : Int32.toInt (i + 1) = (Int32.toInt i) + 1 := i_add rfl (show Int32.toInt 1 = 1 by decide) (by omega) (by omega)
          refine lv_goto (tgt := 2) hx hb d_T_scanText_33 (by decide) ?_
          exact ih (i + 1) many tat kd sr wo sa (by omega) (by omega) (by omega) (by omega) (by omega) (by omega) v_6 (by omega) _ _ ls hP hD hS (lv_sub hl [0, 1] rfl)
set_option maxHeartbeats 4000000 in
set_option maxRecDepth 100000 in
theorem bd_T_scanText_0 {p : Program} {l : Launch} {e : Env} {s : State} {m : MethodId} {args : Array Value} {below : List Frame} {meth : Method} {c : Code} {Q : State → Prop} {A : Nat → Prop} {dC : Nat → ClassId} {dI : Nat → Nat → Nat} {k h : Nat → Nat} {g : Nat → ClassId} {len : Int32} {fp : Int32} {tlen : Int32} {qlen : Int32} {md : Int32} {gat : Int32} {kind : Int32} {gs : Int32} {th : Int32} {st : Int32} {rq : Int32} {bl : Int32} {te : Int32} {og : Int32} {wi : Nat} {ti : Nat} {sc : Nat → Int32} {qb : Nat → Int32} {du : Nat → Int32} (hx : p.tables.exec = Jvm.exec) (hb : c.code = b_T_scanText) (hml : c.maxLocals = 6) (hown : s.vm.findClass "SieveDesk$Tokens" = some m.cls) (ht : ∀ w ∈ TT, w.before args s = true) (hE : KE k A s s.heap) (hA : ∀ q : Nat, s.heap.size ≤ q → A q) (hK : va_K (dC, dI) cls (TE g) s) {bc : Int32} (h_0 : 0 ≤ Int32.toInt tlen) (h_1 : Int32.toInt tlen ≤ 400) (h_2 : 0 ≤ Int32.toInt bc) (h_3 : Int32.toInt bc ≤ 1000) (fin : ∀ (r : Int32) (u : Int32 × Int32 × (Nat → Int32) × (Nat → Int32) × (Nat → Option Nat) × (Nat → Int32)) (H : Heap) (locs : List Loc) (pc : Nat) (ls : Array Slot), decode b_T_scanText pc = .ok (.ireturn, 1) → narrow .boolean (.int r) = .int r → (0 ≤ Int32.toInt u.1 ∧ Int32.toInt u.1 ≤ 401 ∧ 0 ≤ Int32.toInt u.2.1 ∧ Int32.toInt u.2.1 ≤ Int32.toInt tlen ∧ WOk k u.2.2.2.2.1 ∧ narrow .boolean (.int r) = .int r) → va_P (dC, dI) cls (WE h g len fp u.1 tlen u.2.1 qlen md gat kind (.ref (k wi)) (.ref (k ti)) gs th st rq bl te og sc u.2.2.1 u.2.2.2.1 u.2.2.2.2.1 u.2.2.2.2.2 qb du) H → va_D A (WE h g len fp u.1 tlen u.2.1 qlen md gat kind (.ref (k wi)) (.ref (k ti)) gs th st rq bl te og sc u.2.2.1 u.2.2.2.1 u.2.2.2.2.1 u.2.2.2.2.2 qb du) → va_S A s.heap H locs → W p l e ({ frames := 2, cells := 0, slots := 0, locals := 43 } : Room) s m args below meth c H locs 0 0 Q (F0 m pc ls [.int r])) : ∀ (many : Int32) (tat : Int32) (kd : Nat → Int32) (sr : Nat → Int32) (wo : Nat → Option Nat) (sa : Nat → Int32), 0 ≤ Int32.toInt many → Int32.toInt many ≤ 401 → 0 ≤ Int32.toInt tat → Int32.toInt tat ≤ Int32.toInt tlen → WOk k wo → ∀ (H : Heap) (locs : List Loc) (ls : Array Slot), va_P (dC, dI) cls (WE h g len fp many tlen tat qlen md gat kind (.ref (k wi)) (.ref (k ti)) gs th st rq bl te og sc kd sr wo sa qb du) H → va_D A (WE h g len fp many tlen tat qlen md gat kind (.ref (k wi)) (.ref (k ti)) gs th st rq bl te og sc kd sr wo sa qb du) → va_S A s.heap H locs → lv_has ls 6 [(0, .ref (h 2)), (1, .int bc)] → W p l e ({ frames := 2, cells := 0, slots := 0, locals := 43 } : Room) s m args below meth c H locs 0 0 Q (F0 m 0 ls []) := by
  intro many tat kd sr wo sa v_0 v_1 v_2 v_3 v_4 H locs ls hP hD hS hl
  refine lv_iload_n hx hb d_T_scanText_0 rfl (lv_at hl 1 rfl) ?_
  refine lv_istore_n (lv' := [(2, .int bc), (0, .ref (h 2)), (1, .int bc)]) hx hb d_T_scanText_1 rfl hl (by decide) rfl (fun ls hl => ?_)
  exact (lp_T_scanText_2 (bc := bc) hx hb hml hown ht hE hA hK h_0 h_1 h_2 h_3 fin _) bc many tat kd sr wo sa (by omega) (by omega) (by omega) (by omega) (by omega) (by omega) v_4 (Nat.lt_succ_self _) _ _ ls hP hD hS (lv_sub hl [0, 1] rfl)
set_option maxHeartbeats 4000000 in
set_option maxRecDepth 100000 in
theorem c_T_scanText (l : Launch) (dC : Nat → ClassId) (dI : Nat → Nat → Nat) (k : Nat → Nat) (h : Nat → Nat) (g : Nat → ClassId) (len : Int32) (fp : Int32) (many : Int32) (tlen : Int32) (tat : Int32) (qlen : Int32) (md : Int32) (gat : Int32) (kind : Int32) (gs : Int32) (th : Int32) (st : Int32) (rq : Int32) (bl : Int32) (te : Int32) (og : Int32) (wi : Nat) (ti : Nat) (sc : Nat → Int32) (kd : Nat → Int32) (sr : Nat → Int32) (sa : Nat → Int32) (qb : Nat → Int32) (du : Nat → Int32) (wo : Nat → Option Nat) (bc : Int32) (sz : Nat) (h_0 : 0 ≤ Int32.toInt tlen) (h_1 : Int32.toInt tlen ≤ 400) (h_2 : 0 ≤ Int32.toInt bc) (h_3 : Int32.toInt bc ≤ 1000) (v_0 : 0 ≤ Int32.toInt many) (v_1 : Int32.toInt many ≤ 401) (v_2 : 0 ≤ Int32.toInt tat) (v_3 : Int32.toInt tat ≤ Int32.toInt tlen) (v_4 : WOk k wo) : Met l y_T_scanText (.code y_T_scanText b_T_scanText 6 (some .boolean) :: TT) ({ frames := 2, cells := 0, slots := 0, locals := 43 }) (va_Pc [.ref (h 2), .int bc] (PX dC dI k (TE g) (WE h g len fp many tlen tat qlen md gat kind (.ref (k wi)) (.ref (k ti)) gs th st rq bl te og sc kd sr wo sa qb du) sz)) (va_Qi (fun (r : Int32) (u : Int32 × Int32 × (Nat → Int32) × (Nat → Int32) × (Nat → Option Nat) × (Nat → Int32)) => 0 ≤ Int32.toInt u.1 ∧ Int32.toInt u.1 ≤ 401 ∧ 0 ≤ Int32.toInt u.2.1 ∧ Int32.toInt u.2.1 ≤ Int32.toInt tlen ∧ WOk k u.2.2.2.2.1 ∧ narrow .boolean (.int r) = .int r) (fun u t => BX dC dI (TE g) (va_A (WE h g len fp many tlen tat qlen md gat kind (.ref (k wi)) (.ref (k ti)) gs th st rq bl te og sc kd sr wo sa qb du) sz) (WE h g len fp u.1 tlen u.2.1 qlen md gat kind (.ref (k wi)) (.ref (k ti)) gs th st rq bl te og sc u.2.2.1 u.2.2.2.1 u.2.2.2.2.1 u.2.2.2.2.2 qb du) t) (va_A (WE h g len fp many tlen tat qlen md gat kind (.ref (k wi)) (.ref (k ti)) gs th st rq bl te og sc kd sr wo sa qb du) sz)) 0 0 (va_A (WE h g len fp many tlen tat qlen md gat kind (.ref (k wi)) (.ref (k ti)) gs th st rq bl te og sc kd sr wo sa qb du) sz) := by
  refine Met.ofW (cc := b_T_scanText) (maxL := 6) (ret := (some .boolean)) (by decide) rfl ?_
  intro p e s m args below meth c s₁ B hml hv
  obtain ⟨rfl, hsz, hE, hP, hK, hD0⟩ := hv
  have hx := B.exec
  have hb := B.bytes
  have hr := B.returns
  have ht : ∀ w ∈ TT, w.before _ s = true := fun w hw => atoms_spec (ws := .code y_T_scanText b_T_scanText 6 (some .boolean) :: TT) B.pre w (List.mem_cons_of_mem _ hw)
  have hown : s.vm.findClass "SieveDesk$Tokens" = some m.cls := findClass_of_methodNamed B.named
  have hlocks := B.notSynchronized
  subst hsz
  have hD := hD0.self (sz := s.heap.size)
  generalize hAe : va_A (WE h g len fp many tlen tat qlen md gat kind (.ref (k wi)) (.ref (k ti)) gs th st rq bl te og sc kd sr wo sa qb du) s.heap.size = A at hE hD ⊢
  have hA : ∀ q : Nat, s.heap.size ≤ q → A q := fun q h9 => by rw [← hAe]; exact Or.inr h9
  have hS : va_S A s.heap s.heap [] := va_S.rf
  have hl := lv_entry ([.ref (h 2), .int bc]) (n := 6) (Nat.le_of_ble_eq_true rfl)
  rw [lg_entry_eq]
  generalize (lg_sl ([.ref (h 2), .int bc]) ++ List.replicate (6 - (lg_sl ([.ref (h 2), .int bc])).length) Slot.unset).toArray = ls at hl ⊢
  have hl : lv_has ls 6 [(0, .ref (h 2)), (1, .int bc)] := hl
  exact bd_T_scanText_0 (bc := bc) hx hb hml hown ht hE hA hK h_0 h_1 h_2 h_3 (fun r u H locs pc ls hd hn hp hP hD hS => W.zret hx hb hr hn (fun t het hW => ⟨⟨r, u, rfl, hp, by rw [het]; exact hP, va_K.moved hW.alike hK, hD⟩, hS.F het⟩) hS.2.2 hd) many tat kd sr wo sa v_0 v_1 v_2 v_3 v_4 _ _ ls hP hD hS hl
set_option maxHeartbeats 4000000 in
set_option maxRecDepth 100000 in
theorem bd_T_scanWord_0 {p : Program} {l : Launch} {e : Env} {s : State} {m : MethodId} {args : Array Value} {below : List Frame} {meth : Method} {c : Code} {Q : State → Prop} {A : Nat → Prop} {dC : Nat → ClassId} {dI : Nat → Nat → Nat} {k h : Nat → Nat} {g : Nat → ClassId} {len : Int32} {fp : Int32} {tlen : Int32} {qlen : Int32} {md : Int32} {gat : Int32} {kind : Int32} {gs : Int32} {th : Int32} {st : Int32} {rq : Int32} {bl : Int32} {te : Int32} {og : Int32} {wi : Nat} {ti : Nat} {sc : Nat → Int32} {qb : Nat → Int32} {du : Nat → Int32} (hx : p.tables.exec = Jvm.exec) (hb : c.code = b_T_scanWord) (hml : c.maxLocals = 2) (hown : s.vm.findClass "SieveDesk$Tokens" = some m.cls) (ht : ∀ w ∈ TT, w.before args s = true) (hE : KE k A s s.heap) (hA : ∀ q : Nat, s.heap.size ≤ q → A q) (hK : va_K (dC, dI) cls (TE g) s)  (h_0 : 0 ≤ Int32.toInt tlen) (h_1 : Int32.toInt tlen ≤ 400) (fin : ∀ (r : Int32) (u : Int32 × Int32 × (Nat → Int32) × (Nat → Int32) × (Nat → Option Nat) × (Nat → Int32)) (H : Heap) (locs : List Loc) (pc : Nat) (ls : Array Slot), decode b_T_scanWord pc = .ok (.ireturn, 1) → narrow .boolean (.int r) = .int r → (0 ≤ Int32.toInt u.1 ∧ Int32.toInt u.1 ≤ 401 ∧ 0 ≤ Int32.toInt u.2.1 ∧ Int32.toInt u.2.1 ≤ Int32.toInt tlen ∧ WOk k u.2.2.2.2.1 ∧ narrow .boolean (.int r) = .int r) → va_P (dC, dI) cls (WE h g len fp u.1 tlen u.2.1 qlen md gat kind (.ref (k wi)) (.ref (k ti)) gs th st rq bl te og sc u.2.2.1 u.2.2.2.1 u.2.2.2.2.1 u.2.2.2.2.2 qb du) H → va_D A (WE h g len fp u.1 tlen u.2.1 qlen md gat kind (.ref (k wi)) (.ref (k ti)) gs th st rq bl te og sc u.2.2.1 u.2.2.2.1 u.2.2.2.2.1 u.2.2.2.2.2 qb du) → va_S A s.heap H locs → W p l e ({ frames := 6, cells := 0, slots := 0, locals := 134 } : Room) s m args below meth c H locs 0 0 Q (F0 m pc ls [.int r])) : ∀ (many : Int32) (tat : Int32) (kd : Nat → Int32) (sr : Nat → Int32) (wo : Nat → Option Nat) (sa : Nat → Int32), 0 ≤ Int32.toInt many → Int32.toInt many ≤ 401 → 0 ≤ Int32.toInt tat → Int32.toInt tat ≤ Int32.toInt tlen → WOk k wo → ∀ (H : Heap) (locs : List Loc) (ls : Array Slot), va_P (dC, dI) cls (WE h g len fp many tlen tat qlen md gat kind (.ref (k wi)) (.ref (k ti)) gs th st rq bl te og sc kd sr wo sa qb du) H → va_D A (WE h g len fp many tlen tat qlen md gat kind (.ref (k wi)) (.ref (k ti)) gs th st rq bl te og sc kd sr wo sa qb du) → va_S A s.heap H locs → lv_has ls 2 [(0, .ref (h 2))] → W p l e ({ frames := 6, cells := 0, slots := 0, locals := 134 } : Room) s m args below meth c H locs 0 0 Q (F0 m 0 ls []) := by
  intro many tat kd sr wo sa v_0 v_1 v_2 v_3 v_4 H locs ls hP hD hS hl
  refine lv_aload_n hx hb d_T_scanWord_0 rfl (lv_at hl 0 rfl) ?_
  refine lv_aload_n hx hb d_T_scanWord_1 rfl (lv_at hl 0 rfl) ?_
  refine va_get (D := (dC, dI)) (ci := 1) (v := .int tat) (C := "SieveDesk$Tokens") (T := F_T) (N := 9) hx hb ht i_T hown hK hP 2 rfl rfl 8 (by decide) (ht _ k_132) (fun _ h9 => h9) rfl d_T_scanWord_2 ?_
  have hFc := va_free (wc := (WE h g len fp many tlen tat qlen md gat kind (.ref (k wi)) (.ref (k ti)) gs th st rq bl te og sc kd sr wo sa qb du)) hD hS hA [0, 1, 2, 3, 4, 5, 6, 7, 8, 9, 10] rfl
  refine va_calli (va_runV (As := [.int tat]) (rest := []) ⟨hx, hb, hml, hown, ht⟩ (c_T_wordEnd l dC dI k h g len fp many tlen tat qlen md gat kind gs th st rq bl te og wi ti sc kd sr sa qb du wo tat _ (by omega) (by omega) (by omega) (by omega) ) (cwV 1 ht (g_V k_270 k_272 k_8 k_75 k_273) rfl rfl rfl (by decide +kernel) ⟨(Nat.le_of_ble_eq_true rfl), (Nat.le_of_ble_eq_true rfl)⟩) ⟨fb_X, va_recv hK hP (ci := 1) (q0 := 2) rfl rfl, pre_X hE hS hFc hP hK hD⟩ rfl rfl hl.1 rfl (lv_room (Nat.le_of_ble_eq_true rfl)) d_T_scanWord_5 ⟨(Nat.le_of_ble_eq_true rfl), (Nat.le_of_ble_eq_true rfl)⟩) hS (fun q _ h9 => hFc q h9) hFc (fun r_2 u_1 t H locs het hvm hw hB hz1 hk1 hS => ?_)
  obtain ⟨p_3, p_4⟩ := hw
  obtain ⟨hP1, hK1, hD1⟩ := hB
  rw [het] at hP1
  have hP : va_P (dC, dI) cls (WE h g len fp many tlen tat qlen md gat kind (.ref (k wi)) (.ref (k ti)) gs th st rq bl te og sc kd sr wo sa qb du) H := hP1
  have hD : va_D A (WE h g len fp many tlen tat qlen md gat kind (.ref (k wi)) (.ref (k ti)) gs th st rq bl te og sc kd sr wo sa qb du) := hD1.weaken (fun _ _ _ h9 => hFc _ h9)
  refine lv_istore_n (lv' := [(1, .int r_2), (0, .ref (h 2))]) hx hb d_T_scanWord_8 rfl hl (by decide) rfl (fun ls hl => ?_)
  refine lv_aload_n hx hb d_T_scanWord_9 rfl (lv_at hl 1 rfl) ?_
  refine lv_iload_n hx hb d_T_scanWord_10 rfl (lv_at hl 0 rfl) ?_
  have hFc := va_free (wc := (WE h g len fp many tlen tat qlen md gat kind (.ref (k wi)) (.ref (k ti)) gs th st rq bl te og sc kd sr wo sa qb du)) hD hS hA [0, 1, 2, 3, 4, 5, 6, 7, 8, 9, 10] rfl
  refine va_calli (va_runV (As := [.int r_2]) (rest := []) ⟨hx, hb, hml, hown, ht⟩ (c_T_byteAt l dC dI k h g len fp many tlen tat qlen md gat kind gs th st rq bl te og wi ti sc kd sr sa qb du wo r_2 _  ) (cwV 1 ht (g_V k_239 k_241 k_2 k_75 k_242) rfl rfl rfl (by decide +kernel) ⟨(Nat.le_of_ble_eq_true rfl), (Nat.le_of_ble_eq_true rfl)⟩) ⟨fb_X, va_recv hK hP (ci := 1) (q0 := 2) rfl rfl, pre_X hE hS hFc hP hK hD⟩ rfl rfl hl.1 rfl (lv_room (Nat.le_of_ble_eq_true rfl)) d_T_scanWord_11 ⟨(Nat.le_of_ble_eq_true rfl), (Nat.le_of_ble_eq_true rfl)⟩) hS (fun q _ h9 => hFc q h9) hFc (fun r_6 u_5 t H locs het hvm hw hB hz1 hk1 hS => ?_)
  obtain ⟨p_7, p_8, p_9⟩ := hw
  obtain ⟨hP1, hK1, hD1⟩ := hB
  rw [het] at hP1
  have hP : va_P (dC, dI) cls (WE h g len fp many tlen tat qlen md gat kind (.ref (k wi)) (.ref (k ti)) gs th st rq bl te og sc kd sr wo sa qb du) H := hP1
  have hD : va_D A (WE h g len fp many tlen tat qlen md gat kind (.ref (k wi)) (.ref (k ti)) gs th st rq bl te og sc kd sr wo sa qb du) := hD1.weaken (fun _ _ _ h9 => hFc _ h9)
  refine lv_bipush (v := 58) hx hb d_T_scanWord_14 (by decide) ?_
  refine lv_icmp_ne (tgt := 44) hx hb d_T_scanWord_16 (by decide) (fun c_10 => ?_) (fun c_10 => ?_)
  · have dc_10 := i_ne c_10 rfl (show Int32.toInt 58 = 58 by decide)
    refine lv_aload_n hx hb d_T_scanWord_44 rfl (lv_at hl 1 rfl) ?_
    refine lv_iconst (v := 1) hx hb d_T_scanWord_45 (by decide) ?_
    refine lv_aload_n hx hb d_T_scanWord_46 rfl (lv_at hl 1 rfl) ?_
    refine va_get (D := (dC, dI)) (ci := 1) (v := .ref (h 1)) (C := "SieveDesk$Tokens") (T := F_T) (N := 9) hx hb ht i_T hown hK hP 2 rfl rfl 0 (by decide) (ht _ k_119) (fun _ h9 => h9) rfl d_T_scanWord_47 ?_
    refine lv_aload_n hx hb d_T_scanWord_50 rfl (lv_at hl 1 rfl) ?_
    refine va_get (D := (dC, dI)) (ci := 1) (v := .int tat) (C := "SieveDesk$Tokens") (T := F_T) (N := 9) hx hb ht i_T hown hK hP 2 rfl rfl 8 (by decide) (ht _ k_132) (fun _ h9 => h9) rfl d_T_scanWord_51 ?_
    refine lv_iload_n hx hb d_T_scanWord_54 rfl (lv_at hl 0 rfl) ?_
    have hFc := va_free (wc := (WE h g len fp many tlen tat qlen md gat kind (.ref (k wi)) (.ref (k ti)) gs th st rq bl te og sc kd sr wo sa qb du)) hD hS hA [0, 1, 2, 3, 4, 5, 6, 7, 8, 9, 10] rfl
    refine va_callr (va_runSN (As := [.ref (h 1), .int tat, .int r_2]) (rest := [.int 1, .ref (h 2)]) ⟨hx, hb, hml, hown, ht⟩ (c_D_spelled l dC dI k h g len fp many tlen tat qlen md gat kind gs th st rq bl te og wi ti sc kd sr sa qb du wo tat r_2 _ (by omega) (by omega) (by omega) ) ⟨va_cnB 3 ht (g_C k_342) rfl rfl rfl (hE.1 _ n_340) (ht _ k_79) (by decide +kernel) ⟨(Nat.le_of_ble_eq_true rfl), (Nat.le_of_ble_eq_true rfl)⟩, (ht _ k_341), trivial⟩ ⟨fb_X, pre_X hE hS hFc hP hK hD⟩ rfl rfl hl.1 rfl (lv_room (Nat.le_of_ble_eq_true rfl)) d_T_scanWord_55 ⟨(Nat.le_of_ble_eq_true rfl), (Nat.le_of_ble_eq_true rfl)⟩) hS (fun q _ h9 => hFc q h9) hFc (fun u_11 ra t H locs het hvm hw hB hz1 hk1 hS => ?_)
    have p_13 := hw
    obtain ⟨hra, hP1, hK1, hD1⟩ := hB
    subst hra
    rw [het] at hP1
    have hP : va_P (dC, dI) cls (WE h g len fp many tlen tat qlen md gat kind (.ref (k wi)) (.ref (k ti)) gs th st rq bl te og sc kd sr wo sa qb du) H := hP1
    have hD : va_D A (WE h g len fp many tlen tat qlen md gat kind (.ref (k wi)) (.ref (k ti)) gs th st rq bl te og sc kd sr wo sa qb du) := hD1.weaken (fun _ _ _ h9 => hFc _ h9)
    refine lv_iconst (v := 0) hx hb d_T_scanWord_58 (by decide) ?_
    refine lv_iload_n hx hb d_T_scanWord_59 rfl (lv_at hl 0 rfl) ?_
    have hc_1 : Int32.toInt 1 = 1 := by decide
    have hc_0 : Int32.toInt 0 = 0 := by decide
    have hFc := va_free (wc := (WE h g len fp many tlen tat qlen md gat kind (.ref (k wi)) (.ref (k ti)) gs th st rq bl te og sc kd sr wo sa qb du)) hD hS hA [0, 1, 2, 3, 4, 5, 6, 7, 8, 9, 10] rfl
    refine va_callv (va_runV (As := [.int 1, .ref (k u_11), .int 0, .int r_2]) (rest := []) ⟨hx, hb, hml, hown, ht⟩ (c_T_add l dC dI k h g len fp many tlen tat qlen md gat kind gs th st rq bl te og wi ti sc kd sr sa qb du wo 1 u_11 0 r_2 _ (by omega) (by omega) (by omega) (by omega) (by omega) (by omega) (by omega) (by omega) (by omega) v_4) (cwV 4 ht (g_V k_252 k_254 k_5 k_75 k_255) rfl rfl rfl (by decide +kernel) ⟨(Nat.le_of_ble_eq_true rfl), (Nat.le_of_ble_eq_true rfl)⟩) ⟨fb_X, va_recv hK hP (ci := 1) (q0 := 2) rfl rfl, pre_X hE hS hFc hP hK hD⟩ rfl rfl hl.1 rfl (lv_room (Nat.le_of_ble_eq_true rfl)) d_T_scanWord_60 ⟨(Nat.le_of_ble_eq_true rfl), (Nat.le_of_ble_eq_true rfl)⟩) hS (fun q _ h9 => hFc q h9) hFc (fun u_20 t H locs het hvm hw hB hz1 hk1 hS => ?_)
    obtain ⟨many_14, tat_15, kd_16, sr_17, wo_18, sa_19⟩ := u_20
    try dsimp only at hw
    obtain ⟨p_22, p_23, p_24, p_25, p_26⟩ := hw
    obtain ⟨hP1, hK1, hD1⟩ := hB
    rw [het] at hP1
    have hP : va_P (dC, dI) cls (WE h g len fp many_14 tlen tat_15 qlen md gat kind (.ref (k wi)) (.ref (k ti)) gs th st rq bl te og sc kd_16 sr_17 wo_18 sa_19 qb du) H := hP1
    have hD : va_D A (WE h g len fp many_14 tlen tat_15 qlen md gat kind (.ref (k wi)) (.ref (k ti)) gs th st rq bl te og sc kd_16 sr_17 wo_18 sa_19 qb du) := hD1.weaken (fun _ _ _ h9 => hFc _ h9)
    refine lv_iconst (v := 1) hx hb d_T_scanWord_63 (by decide) ?_
    exact fin 1 (many_14, tat_15, kd_16, sr_17, wo_18, sa_19) _ _ _ ls d_T_scanWord_64 rfl ⟨(by (try dsimp only); omega), (by (try dsimp only); omega), (by (try dsimp only); omega), (by (try dsimp only); omega), p_26, rfl⟩ hP hD hS
  · have dc_10 := i_eq c_10 rfl (show Int32.toInt 58 = 58 by decide)
    refine lv_aload_n hx hb d_T_scanWord_19 rfl (lv_at hl 1 rfl) ?_
    refine va_get (D := (dC, dI)) (ci := 1) (v := .ref (h 1)) (C := "SieveDesk$Tokens") (T := F_T) (N := 9) hx hb ht i_T hown hK hP 2 rfl rfl 0 (by decide) (ht _ k_119) (fun _ h9 => h9) rfl d_T_scanWord_20 ?_
    refine lv_aload_n hx hb d_T_scanWord_23 rfl (lv_at hl 1 rfl) ?_
    refine va_get (D := (dC, dI)) (ci := 1) (v := .int tat) (C := "SieveDesk$Tokens") (T := F_T) (N := 9) hx hb ht i_T hown hK hP 2 rfl rfl 8 (by decide) (ht _ k_132) (fun _ h9 => h9) rfl d_T_scanWord_24 ?_
    refine lv_iload_n hx hb d_T_scanWord_27 rfl (lv_at hl 0 rfl) ?_
    refine va_ldcS hx hb hown (show vk_R "SieveDesk$Tokens" 105 "text" (k (100 + 112)) s from ke_l212 hE) d_T_scanWord_28 ?_
    have hFc := va_free (wc := (WE h g len fp many tlen tat qlen md gat kind (.ref (k wi)) (.ref (k ti)) gs th st rq bl te og sc kd sr wo sa qb du)) hD hS hA [0, 1, 2, 3, 4, 5, 6, 7, 8, 9, 10] rfl
    refine va_calli (va_runSN (As := [.ref (h 1), .int tat, .int r_2, .ref (k (100 + 112))]) (rest := []) ⟨hx, hb, hml, hown, ht⟩ (c_S_same_s l dC dI k h g len fp many tlen tat qlen md gat kind gs th st rq bl te og wi ti sc kd sr sa qb du wo tat r_2 112 _ (by omega) (by omega) (by omega) (by omega) ) ⟨va_cnB 4 ht (g_C k_283) rfl rfl rfl (hE.1 _ n_281) (ht _ k_74) (by decide +kernel) ⟨(Nat.le_of_ble_eq_true rfl), (Nat.le_of_ble_eq_true rfl)⟩, (ht _ k_282), trivial⟩ ⟨fb_X, pre_X hE hS hFc hP hK hD⟩ rfl rfl hl.1 rfl (lv_room (Nat.le_of_ble_eq_true rfl)) d_T_scanWord_30 ⟨(Nat.le_of_ble_eq_true rfl), (Nat.le_of_ble_eq_true rfl)⟩) hS (fun q _ h9 => hFc q h9) hFc (fun r_28 u_27 t H locs het hvm hw hB hz1 hk1 hS => ?_)
    have p_29 := hw
    obtain ⟨hP1, hK1, hD1⟩ := hB
    rw [het] at hP1
    have hP : va_P (dC, dI) cls (WE h g len fp many tlen tat qlen md gat kind (.ref (k wi)) (.ref (k ti)) gs th st rq bl te og sc kd sr wo sa qb du) H := hP1
    have hD : va_D A (WE h g len fp many tlen tat qlen md gat kind (.ref (k wi)) (.ref (k ti)) gs th st rq bl te og sc kd sr wo sa qb du) := hD1.weaken (fun _ _ _ h9 => hFc _ h9)
    refine lv_if_eq (tgt := 44) hx hb d_T_scanWord_33 (by decide) (fun c_30 => ?_) (fun c_30 => ?_)
    · refine lv_aload_n hx hb d_T_scanWord_44 rfl (lv_at hl 1 rfl) ?_
      refine lv_iconst (v := 1) hx hb d_T_scanWord_45 (by decide) ?_
      refine lv_aload_n hx hb d_T_scanWord_46 rfl (lv_at hl 1 rfl) ?_
      refine va_get (D := (dC, dI)) (ci := 1) (v := .ref (h 1)) (C := "SieveDesk$Tokens") (T := F_T) (N := 9) hx hb ht i_T hown hK hP 2 rfl rfl 0 (by decide) (ht _ k_119) (fun _ h9 => h9) rfl d_T_scanWord_47 ?_
      refine lv_aload_n hx hb d_T_scanWord_50 rfl (lv_at hl 1 rfl) ?_
      refine va_get (D := (dC, dI)) (ci := 1) (v := .int tat) (C := "SieveDesk$Tokens") (T := F_T) (N := 9) hx hb ht i_T hown hK hP 2 rfl rfl 8 (by decide) (ht _ k_132) (fun _ h9 => h9) rfl d_T_scanWord_51 ?_
      refine lv_iload_n hx hb d_T_scanWord_54 rfl (lv_at hl 0 rfl) ?_
      have hFc := va_free (wc := (WE h g len fp many tlen tat qlen md gat kind (.ref (k wi)) (.ref (k ti)) gs th st rq bl te og sc kd sr wo sa qb du)) hD hS hA [0, 1, 2, 3, 4, 5, 6, 7, 8, 9, 10] rfl
      refine va_callr (va_runSN (As := [.ref (h 1), .int tat, .int r_2]) (rest := [.int 1, .ref (h 2)]) ⟨hx, hb, hml, hown, ht⟩ (c_D_spelled l dC dI k h g len fp many tlen tat qlen md gat kind gs th st rq bl te og wi ti sc kd sr sa qb du wo tat r_2 _ (by omega) (by omega) (by omega) ) ⟨va_cnB 3 ht (g_C k_342) rfl rfl rfl (hE.1 _ n_340) (ht _ k_79) (by decide +kernel) ⟨(Nat.le_of_ble_eq_true rfl), (Nat.le_of_ble_eq_true rfl)⟩, (ht _ k_341), trivial⟩ ⟨fb_X, pre_X hE hS hFc hP hK hD⟩ rfl rfl hl.1 rfl (lv_room (Nat.le_of_ble_eq_true rfl)) d_T_scanWord_55 ⟨(Nat.le_of_ble_eq_true rfl), (Nat.le_of_ble_eq_true rfl)⟩) hS (fun q _ h9 => hFc q h9) hFc (fun u_31 ra t H locs het hvm hw hB hz1 hk1 hS => ?_)
      have p_33 := hw
      obtain ⟨hra, hP1, hK1, hD1⟩ := hB
      subst hra
      rw [het] at hP1
      have hP : va_P (dC, dI) cls (WE h g len fp many tlen tat qlen md gat kind (.ref (k wi)) (.ref (k ti)) gs th st rq bl te og sc kd sr wo sa qb du) H := hP1
      have hD : va_D A (WE h g len fp many tlen tat qlen md gat kind (.ref (k wi)) (.ref (k ti)) gs th st rq bl te og sc kd sr wo sa qb du) := hD1.weaken (fun _ _ _ h9 => hFc _ h9)
      refine lv_iconst (v := 0) hx hb d_T_scanWord_58 (by decide) ?_
      refine lv_iload_n hx hb d_T_scanWord_59 rfl (lv_at hl 0 rfl) ?_
      have hc_1 : Int32.toInt 1 = 1 := by decide
      have hc_0 : Int32.toInt 0 = 0 := by decide
      have hFc := va_free (wc := (WE h g len fp many tlen tat qlen md gat kind (.ref (k wi)) (.ref (k ti)) gs th st rq bl te og sc kd sr wo sa qb du)) hD hS hA [0, 1, 2, 3, 4, 5, 6, 7, 8, 9, 10] rfl
      refine va_callv (va_runV (As := [.int 1, .ref (k u_31), .int 0, .int r_2]) (rest := []) ⟨hx, hb, hml, hown, ht⟩ (c_T_add l dC dI k h g len fp many tlen tat qlen md gat kind gs th st rq bl te og wi ti sc kd sr sa qb du wo 1 u_31 0 r_2 _ (by omega) (by omega) (by omega) (by omega) (by omega) (by omega) (by omega) (by omega) (by omega) v_4) (cwV 4 ht (g_V k_252 k_254 k_5 k_75 k_255) rfl rfl rfl (by decide +kernel) ⟨(Nat.le_of_ble_eq_true rfl), (Nat.le_of_ble_eq_true rfl)⟩) ⟨fb_X, va_recv hK hP (ci := 1) (q0 := 2) rfl rfl, pre_X hE hS hFc hP hK hD⟩ rfl rfl hl.1 rfl (lv_room (Nat.le_of_ble_eq_true rfl)) d_T_scanWord_60 ⟨(Nat.le_of_ble_eq_true rfl), (Nat.le_of_ble_eq_true rfl)⟩) hS (fun q _ h9 => hFc q h9) hFc (fun u_40 t H locs het hvm hw hB hz1 hk1 hS => ?_)
      obtain ⟨many_34, tat_35, kd_36, sr_37, wo_38, sa_39⟩ := u_40
      try dsimp only at hw
      obtain ⟨p_42, p_43, p_44, p_45, p_46⟩ := hw
      obtain ⟨hP1, hK1, hD1⟩ := hB
      rw [het] at hP1
      have hP : va_P (dC, dI) cls (WE h g len fp many_34 tlen tat_35 qlen md gat kind (.ref (k wi)) (.ref (k ti)) gs th st rq bl te og sc kd_36 sr_37 wo_38 sa_39 qb du) H := hP1
      have hD : va_D A (WE h g len fp many_34 tlen tat_35 qlen md gat kind (.ref (k wi)) (.ref (k ti)) gs th st rq bl te og sc kd_36 sr_37 wo_38 sa_39 qb du) := hD1.weaken (fun _ _ _ h9 => hFc _ h9)
      refine lv_iconst (v := 1) hx hb d_T_scanWord_63 (by decide) ?_
      exact fin 1 (many_34, tat_35, kd_36, sr_37, wo_38, sa_39) _ _ _ ls d_T_scanWord_64 rfl ⟨(by (try dsimp only); omega), (by (try dsimp only); omega), (by (try dsimp only); omega), (by (try dsimp only); omega), p_46, rfl⟩ hP hD hS
    · refine lv_aload_n hx hb d_T_scanWord_36 rfl (lv_at hl 1 rfl) ?_
      refine lv_iload_n hx hb d_T_scanWord_37 rfl (lv_at hl 0 rfl) ?_
      refine lv_iconst (v := 1) hx hb d_T_scanWord_38 (by decide) ?_
      refine lv_iadd hx hb d_T_scanWord_39 ?_
      have e_47 : Int32.toInt (r_2 + 1) = (Int32.toInt r_2) + 1 := i_add rfl (show Int32.toInt 1 = 1 by decide) (by omega) (by omega)
      have hFc := va_free (wc := (WE h g len fp many tlen tat qlen md gat kind (.ref (k wi)) (.ref (k ti)) gs th st rq bl te og sc kd sr wo sa qb du)) hD hS hA [0, 1, 2, 3, 4, 5, 6, 7, 8, 9, 10] rfl
      refine va_calli (va_runV (As := [.int (r_2 + 1)]) (rest := []) ⟨hx, hb, hml, hown, ht⟩ (c_T_scanText l dC dI k h g len fp many tlen tat qlen md gat kind gs th st rq bl te og wi ti sc kd sr sa qb du wo (r_2 + 1) _ (by omega) (by omega) (by omega) (by omega) (by omega) (by omega) (by omega) (by omega) v_4) (cwV 1 ht (g_V k_332 k_334 k_9 k_75 k_335) rfl rfl rfl (by decide +kernel) ⟨(Nat.le_of_ble_eq_true rfl), (Nat.le_of_ble_eq_true rfl)⟩) ⟨fb_X, va_recv hK hP (ci := 1) (q0 := 2) rfl rfl, pre_X hE hS hFc hP hK hD⟩ rfl rfl hl.1 rfl (lv_room (Nat.le_of_ble_eq_true rfl)) d_T_scanWord_40 ⟨(Nat.le_of_ble_eq_true rfl), (Nat.le_of_ble_eq_true rfl)⟩) hS (fun q _ h9 => hFc q h9) hFc (fun r_55 u_54 t H locs het hvm hw hB hz1 hk1 hS => ?_)
      obtain ⟨many_48, tat_49, kd_50, sr_51, wo_52, sa_53⟩ := u_54
      try dsimp only at hw
      obtain ⟨p_56, p_57, p_58, p_59, p_60, p_61⟩ := hw
      obtain ⟨hP1, hK1, hD1⟩ := hB
      rw [het] at hP1
      have hP : va_P (dC, dI) cls (WE h g len fp many_48 tlen tat_49 qlen md gat kind (.ref (k wi)) (.ref (k ti)) gs th st rq bl te og sc kd_50 sr_51 wo_52 sa_53 qb du) H := hP1
      have hD : va_D A (WE h g len fp many_48 tlen tat_49 qlen md gat kind (.ref (k wi)) (.ref (k ti)) gs th st rq bl te og sc kd_50 sr_51 wo_52 sa_53 qb du) := hD1.weaken (fun _ _ _ h9 => hFc _ h9)
      exact fin r_55 (many_48, tat_49, kd_50, sr_51, wo_52, sa_53) _ _ _ ls d_T_scanWord_43 p_61 ⟨(by (try dsimp only); omega), (by (try dsimp only); omega), (by (try dsimp only); omega), (by (try dsimp only); omega), p_60, p_61⟩ hP hD hS
set_option maxHeartbeats 4000000 in
set_option maxRecDepth 100000 in
theorem c_T_scanWord (l : Launch) (dC : Nat → ClassId) (dI : Nat → Nat → Nat) (k : Nat → Nat) (h : Nat → Nat) (g : Nat → ClassId) (len : Int32) (fp : Int32) (many : Int32) (tlen : Int32) (tat : Int32) (qlen : Int32) (md : Int32) (gat : Int32) (kind : Int32) (gs : Int32) (th : Int32) (st : Int32) (rq : Int32) (bl : Int32) (te : Int32) (og : Int32) (wi : Nat) (ti : Nat) (sc : Nat → Int32) (kd : Nat → Int32) (sr : Nat → Int32) (sa : Nat → Int32) (qb : Nat → Int32) (du : Nat → Int32) (wo : Nat → Option Nat)  (sz : Nat) (h_0 : 0 ≤ Int32.toInt tlen) (h_1 : Int32.toInt tlen ≤ 400) (v_0 : 0 ≤ Int32.toInt many) (v_1 : Int32.toInt many ≤ 401) (v_2 : 0 ≤ Int32.toInt tat) (v_3 : Int32.toInt tat ≤ Int32.toInt tlen) (v_4 : WOk k wo) : Met l y_T_scanWord (.code y_T_scanWord b_T_scanWord 2 (some .boolean) :: TT) ({ frames := 6, cells := 0, slots := 0, locals := 134 }) (va_Pc [.ref (h 2)] (PX dC dI k (TE g) (WE h g len fp many tlen tat qlen md gat kind (.ref (k wi)) (.ref (k ti)) gs th st rq bl te og sc kd sr wo sa qb du) sz)) (va_Qi (fun (r : Int32) (u : Int32 × Int32 × (Nat → Int32) × (Nat → Int32) × (Nat → Option Nat) × (Nat → Int32)) => 0 ≤ Int32.toInt u.1 ∧ Int32.toInt u.1 ≤ 401 ∧ 0 ≤ Int32.toInt u.2.1 ∧ Int32.toInt u.2.1 ≤ Int32.toInt tlen ∧ WOk k u.2.2.2.2.1 ∧ narrow .boolean (.int r) = .int r) (fun u t => BX dC dI (TE g) (va_A (WE h g len fp many tlen tat qlen md gat kind (.ref (k wi)) (.ref (k ti)) gs th st rq bl te og sc kd sr wo sa qb du) sz) (WE h g len fp u.1 tlen u.2.1 qlen md gat kind (.ref (k wi)) (.ref (k ti)) gs th st rq bl te og sc u.2.2.1 u.2.2.2.1 u.2.2.2.2.1 u.2.2.2.2.2 qb du) t) (va_A (WE h g len fp many tlen tat qlen md gat kind (.ref (k wi)) (.ref (k ti)) gs th st rq bl te og sc kd sr wo sa qb du) sz)) 0 0 (va_A (WE h g len fp many tlen tat qlen md gat kind (.ref (k wi)) (.ref (k ti)) gs th st rq bl te og sc kd sr wo sa qb du) sz) := by
  refine Met.ofW (cc := b_T_scanWord) (maxL := 2) (ret := (some .boolean)) (by decide) rfl ?_
  intro p e s m args below meth c s₁ B hml hv
  obtain ⟨rfl, hsz, hE, hP, hK, hD0⟩ := hv
  have hx := B.exec
  have hb := B.bytes
  have hr := B.returns
  have ht : ∀ w ∈ TT, w.before _ s = true := fun w hw => atoms_spec (ws := .code y_T_scanWord b_T_scanWord 2 (some .boolean) :: TT) B.pre w (List.mem_cons_of_mem _ hw)
  have hown : s.vm.findClass "SieveDesk$Tokens" = some m.cls := findClass_of_methodNamed B.named
  have hlocks := B.notSynchronized
  subst hsz
  have hD := hD0.self (sz := s.heap.size)
  generalize hAe : va_A (WE h g len fp many tlen tat qlen md gat kind (.ref (k wi)) (.ref (k ti)) gs th st rq bl te og sc kd sr wo sa qb du) s.heap.size = A at hE hD ⊢
  have hA : ∀ q : Nat, s.heap.size ≤ q → A q := fun q h9 => by rw [← hAe]; exact Or.inr h9
  have hS : va_S A s.heap s.heap [] := va_S.rf
  have hl := lv_entry ([.ref (h 2)]) (n := 2) (Nat.le_of_ble_eq_true rfl)
  rw [lg_entry_eq]
  generalize (lg_sl ([.ref (h 2)]) ++ List.replicate (2 - (lg_sl ([.ref (h 2)])).length) Slot.unset).toArray = ls at hl ⊢
  have hl : lv_has ls 2 [(0, .ref (h 2))] := hl
  exact bd_T_scanWord_0  hx hb hml hown ht hE hA hK h_0 h_1 (fun r u H locs pc ls hd hn hp hP hD hS => W.zret hx hb hr hn (fun t het hW => ⟨⟨r, u, rfl, hp, by rw [het]; exact hP, va_K.moved hW.alike hK, hD⟩, hS.F het⟩) hS.2.2 hd) many tat kd sr wo sa v_0 v_1 v_2 v_3 v_4 _ _ ls hP hD hS hl
set_option maxHeartbeats 4000000 in
set_option maxRecDepth 100000 in
theorem bd_T_scanTag_0 {p : Program} {l : Launch} {e : Env} {s : State} {m : MethodId} {args : Array Value} {below : List Frame} {meth : Method} {c : Code} {Q : State → Prop} {A : Nat → Prop} {dC : Nat → ClassId} {dI : Nat → Nat → Nat} {k h : Nat → Nat} {g : Nat → ClassId} {len : Int32} {fp : Int32} {tlen : Int32} {qlen : Int32} {md : Int32} {gat : Int32} {kind : Int32} {gs : Int32} {th : Int32} {st : Int32} {rq : Int32} {bl : Int32} {te : Int32} {og : Int32} {wi : Nat} {ti : Nat} {sc : Nat → Int32} {qb : Nat → Int32} {du : Nat → Int32} (hx : p.tables.exec = Jvm.exec) (hb : c.code = b_T_scanTag) (hml : c.maxLocals = 2) (hown : s.vm.findClass "SieveDesk$Tokens" = some m.cls) (ht : ∀ w ∈ TT, w.before args s = true) (hE : KE k A s s.heap) (hA : ∀ q : Nat, s.heap.size ≤ q → A q) (hK : va_K (dC, dI) cls (TE g) s)  (h_0 : 0 ≤ Int32.toInt tlen) (h_1 : Int32.toInt tlen ≤ 400) (fin : ∀ (r : Int32) (u : Int32 × Int32 × (Nat → Int32) × (Nat → Int32) × (Nat → Option Nat) × (Nat → Int32)) (H : Heap) (locs : List Loc) (pc : Nat) (ls : Array Slot), decode b_T_scanTag pc = .ok (.ireturn, 1) → narrow .boolean (.int r) = .int r → (0 ≤ Int32.toInt u.1 ∧ Int32.toInt u.1 ≤ 401 ∧ 0 ≤ Int32.toInt u.2.1 ∧ Int32.toInt u.2.1 ≤ Int32.toInt tlen ∧ WOk k u.2.2.2.2.1 ∧ narrow .boolean (.int r) = .int r) → va_P (dC, dI) cls (WE h g len fp u.1 tlen u.2.1 qlen md gat kind (.ref (k wi)) (.ref (k ti)) gs th st rq bl te og sc u.2.2.1 u.2.2.2.1 u.2.2.2.2.1 u.2.2.2.2.2 qb du) H → va_D A (WE h g len fp u.1 tlen u.2.1 qlen md gat kind (.ref (k wi)) (.ref (k ti)) gs th st rq bl te og sc u.2.2.1 u.2.2.2.1 u.2.2.2.2.1 u.2.2.2.2.2 qb du) → va_S A s.heap H locs → W p l e ({ frames := 6, cells := 0, slots := 0, locals := 134 } : Room) s m args below meth c H locs 0 0 Q (F0 m pc ls [.int r])) : ∀ (many : Int32) (tat : Int32) (kd : Nat → Int32) (sr : Nat → Int32) (wo : Nat → Option Nat) (sa : Nat → Int32), 0 ≤ Int32.toInt many → Int32.toInt many ≤ 401 → 0 ≤ Int32.toInt tat → Int32.toInt tat ≤ Int32.toInt tlen → WOk k wo → ∀ (H : Heap) (locs : List Loc) (ls : Array Slot), va_P (dC, dI) cls (WE h g len fp many tlen tat qlen md gat kind (.ref (k wi)) (.ref (k ti)) gs th st rq bl te og sc kd sr wo sa qb du) H → va_D A (WE h g len fp many tlen tat qlen md gat kind (.ref (k wi)) (.ref (k ti)) gs th st rq bl te og sc kd sr wo sa qb du) → va_S A s.heap H locs → lv_has ls 2 [(0, .ref (h 2))] → W p l e ({ frames := 6, cells := 0, slots := 0, locals := 134 } : Room) s m args below meth c H locs 0 0 Q (F0 m 0 ls []) := by
  intro many tat kd sr wo sa v_0 v_1 v_2 v_3 v_4 H locs ls hP hD hS hl
  refine lv_aload_n hx hb d_T_scanTag_0 rfl (lv_at hl 0 rfl) ?_
  refine lv_aload_n hx hb d_T_scanTag_1 rfl (lv_at hl 0 rfl) ?_
  refine va_get (D := (dC, dI)) (ci := 1) (v := .int tat) (C := "SieveDesk$Tokens") (T := F_T) (N := 9) hx hb ht i_T hown hK hP 2 rfl rfl 8 (by decide) (ht _ k_132) (fun _ h9 => h9) rfl d_T_scanTag_2 ?_
  refine lv_iconst (v := 1) hx hb d_T_scanTag_5 (by decide) ?_
  refine lv_iadd hx hb d_T_scanTag_6 ?_
  have e_1 : Int32.toInt (tat + 1) = (Int32.toInt tat) + 1 := i_add rfl (show Int32.toInt 1 = 1 by decide) (by omega) (by omega)
  have hFc := va_free (wc := (WE h g len fp many tlen tat qlen md gat kind (.ref (k wi)) (.ref (k ti)) gs th st rq bl te og sc kd sr wo sa qb du)) hD hS hA [0, 1, 2, 3, 4, 5, 6, 7, 8, 9, 10] rfl
  refine va_calli (va_runV (As := [.int (tat + 1)]) (rest := []) ⟨hx, hb, hml, hown, ht⟩ (c_T_byteAt l dC dI k h g len fp many tlen tat qlen md gat kind gs th st rq bl te og wi ti sc kd sr sa qb du wo (tat + 1) _  ) (cwV 1 ht (g_V k_239 k_241 k_2 k_75 k_242) rfl rfl rfl (by decide +kernel) ⟨(Nat.le_of_ble_eq_true rfl), (Nat.le_of_ble_eq_true rfl)⟩) ⟨fb_X, va_recv hK hP (ci := 1) (q0 := 2) rfl rfl, pre_X hE hS hFc hP hK hD⟩ rfl rfl hl.1 rfl (lv_room (Nat.le_of_ble_eq_true rfl)) d_T_scanTag_7 ⟨(Nat.le_of_ble_eq_true rfl), (Nat.le_of_ble_eq_true rfl)⟩) hS (fun q _ h9 => hFc q h9) hFc (fun r_3 u_2 t H locs het hvm hw hB hz1 hk1 hS => ?_)
  obtain ⟨p_4, p_5, p_6⟩ := hw
  obtain ⟨hP1, hK1, hD1⟩ := hB
  rw [het] at hP1
  have hP : va_P (dC, dI) cls (WE h g len fp many tlen tat qlen md gat kind (.ref (k wi)) (.ref (k ti)) gs th st rq bl te og sc kd sr wo sa qb du) H := hP1
  have hD : va_D A (WE h g len fp many tlen tat qlen md gat kind (.ref (k wi)) (.ref (k ti)) gs th st rq bl te og sc kd sr wo sa qb du) := hD1.weaken (fun _ _ _ h9 => hFc _ h9)
  refine vp_callSi (cr_of (va_runSN (As := [.int r_3]) (rest := []) ⟨hx, hb, hml, hown, ht⟩ (c_S_startsWord l k r_3 ) ⟨va_cnB 1 ht (g_C k_262) rfl rfl rfl (hE.1 _ n_260) (ht _ k_74) (by decide +kernel) ⟨(Nat.le_of_ble_eq_true rfl), (Nat.le_of_ble_eq_true rfl)⟩, (ht _ k_261), trivial⟩ ⟨fb_J, pre_J hE hS⟩ rfl rfl hl.1 rfl (lv_room (Nat.le_of_ble_eq_true rfl)) d_T_scanTag_10 ⟨(Nat.le_of_ble_eq_true rfl), (Nat.le_of_ble_eq_true rfl)⟩)) (fun r_7 hw => ?_)
  obtain ⟨p_8, p_9⟩ := hw
  refine lv_if_ne (tgt := 18) hx hb d_T_scanTag_13 (by decide) (fun c_10 => ?_) (fun c_10 => ?_)
  · have dc_10 := i_ne c_10 rfl (show Int32.toInt 0 = 0 by decide)
    refine lv_aload_n hx hb d_T_scanTag_18 rfl (lv_at hl 0 rfl) ?_
    refine lv_aload_n hx hb d_T_scanTag_19 rfl (lv_at hl 0 rfl) ?_
    refine va_get (D := (dC, dI)) (ci := 1) (v := .int tat) (C := "SieveDesk$Tokens") (T := F_T) (N := 9) hx hb ht i_T hown hK hP 2 rfl rfl 8 (by decide) (ht _ k_132) (fun _ h9 => h9) rfl d_T_scanTag_20 ?_
    refine lv_iconst (v := 1) hx hb d_T_scanTag_23 (by decide) ?_
    refine lv_iadd hx hb d_T_scanTag_24 ?_
    have e_11 : Int32.toInt (tat + 1) = (Int32.toInt tat) + 1 := i_add rfl (show Int32.toInt 1 = 1 by decide) (by omega) (by omega)
    have hFc := va_free (wc := (WE h g len fp many tlen tat qlen md gat kind (.ref (k wi)) (.ref (k ti)) gs th st rq bl te og sc kd sr wo sa qb du)) hD hS hA [0, 1, 2, 3, 4, 5, 6, 7, 8, 9, 10] rfl
    refine va_calli (va_runV (As := [.int (tat + 1)]) (rest := []) ⟨hx, hb, hml, hown, ht⟩ (c_T_wordEnd l dC dI k h g len fp many tlen tat qlen md gat kind gs th st rq bl te og wi ti sc kd sr sa qb du wo (tat + 1) _ (by omega) (by omega) (by omega) (by omega) ) (cwV 1 ht (g_V k_270 k_272 k_8 k_75 k_273) rfl rfl rfl (by decide +kernel) ⟨(Nat.le_of_ble_eq_true rfl), (Nat.le_of_ble_eq_true rfl)⟩) ⟨fb_X, va_recv hK hP (ci := 1) (q0 := 2) rfl rfl, pre_X hE hS hFc hP hK hD⟩ rfl rfl hl.1 rfl (lv_room (Nat.le_of_ble_eq_true rfl)) d_T_scanTag_25 ⟨(Nat.le_of_ble_eq_true rfl), (Nat.le_of_ble_eq_true rfl)⟩) hS (fun q _ h9 => hFc q h9) hFc (fun r_13 u_12 t H locs het hvm hw hB hz1 hk1 hS => ?_)
    obtain ⟨p_14, p_15⟩ := hw
    obtain ⟨hP1, hK1, hD1⟩ := hB
    rw [het] at hP1
    have hP : va_P (dC, dI) cls (WE h g len fp many tlen tat qlen md gat kind (.ref (k wi)) (.ref (k ti)) gs th st rq bl te og sc kd sr wo sa qb du) H := hP1
    have hD : va_D A (WE h g len fp many tlen tat qlen md gat kind (.ref (k wi)) (.ref (k ti)) gs th st rq bl te og sc kd sr wo sa qb du) := hD1.weaken (fun _ _ _ h9 => hFc _ h9)
    refine lv_istore_n (lv' := [(1, .int r_13), (0, .ref (h 2))]) hx hb d_T_scanTag_28 rfl hl (by decide) rfl (fun ls hl => ?_)
    refine lv_aload_n hx hb d_T_scanTag_29 rfl (lv_at hl 1 rfl) ?_
    refine lv_iconst (v := 2) hx hb d_T_scanTag_30 (by decide) ?_
    refine lv_aload_n hx hb d_T_scanTag_31 rfl (lv_at hl 1 rfl) ?_
    refine va_get (D := (dC, dI)) (ci := 1) (v := .ref (h 1)) (C := "SieveDesk$Tokens") (T := F_T) (N := 9) hx hb ht i_T hown hK hP 2 rfl rfl 0 (by decide) (ht _ k_119) (fun _ h9 => h9) rfl d_T_scanTag_32 ?_
    refine lv_aload_n hx hb d_T_scanTag_35 rfl (lv_at hl 1 rfl) ?_
    refine va_get (D := (dC, dI)) (ci := 1) (v := .int tat) (C := "SieveDesk$Tokens") (T := F_T) (N := 9) hx hb ht i_T hown hK hP 2 rfl rfl 8 (by decide) (ht _ k_132) (fun _ h9 => h9) rfl d_T_scanTag_36 ?_
    refine lv_iconst (v := 1) hx hb d_T_scanTag_39 (by decide) ?_
    refine lv_iadd hx hb d_T_scanTag_40 ?_
    have e_16 : Int32.toInt (tat + 1) = (Int32.toInt tat) + 1 := i_add rfl (show Int32.toInt 1 = 1 by decide) (by omega) (by omega)
    refine lv_iload_n hx hb d_T_scanTag_41 rfl (lv_at hl 0 rfl) ?_
    have hFc := va_free (wc := (WE h g len fp many tlen tat qlen md gat kind (.ref (k wi)) (.ref (k ti)) gs th st rq bl te og sc kd sr wo sa qb du)) hD hS hA [0, 1, 2, 3, 4, 5, 6, 7, 8, 9, 10] rfl
    refine va_callr (va_runSN (As := [.ref (h 1), .int (tat + 1), .int r_13]) (rest := [.int 2, .ref (h 2)]) ⟨hx, hb, hml, hown, ht⟩ (c_D_spelled l dC dI k h g len fp many tlen tat qlen md gat kind gs th st rq bl te og wi ti sc kd sr sa qb du wo (tat + 1) r_13 _ (by omega) (by omega) (by omega) ) ⟨va_cnB 3 ht (g_C k_342) rfl rfl rfl (hE.1 _ n_340) (ht _ k_79) (by decide +kernel) ⟨(Nat.le_of_ble_eq_true rfl), (Nat.le_of_ble_eq_true rfl)⟩, (ht _ k_341), trivial⟩ ⟨fb_X, pre_X hE hS hFc hP hK hD⟩ rfl rfl hl.1 rfl (lv_room (Nat.le_of_ble_eq_true rfl)) d_T_scanTag_42 ⟨(Nat.le_of_ble_eq_true rfl), (Nat.le_of_ble_eq_true rfl)⟩) hS (fun q _ h9 => hFc q h9) hFc (fun u_17 ra t H locs het hvm hw hB hz1 hk1 hS => ?_)
    have p_19 := hw
    obtain ⟨hra, hP1, hK1, hD1⟩ := hB
    subst hra
    rw [het] at hP1
    have hP : va_P (dC, dI) cls (WE h g len fp many tlen tat qlen md gat kind (.ref (k wi)) (.ref (k ti)) gs th st rq bl te og sc kd sr wo sa qb du) H := hP1
    have hD : va_D A (WE h g len fp many tlen tat qlen md gat kind (.ref (k wi)) (.ref (k ti)) gs th st rq bl te og sc kd sr wo sa qb du) := hD1.weaken (fun _ _ _ h9 => hFc _ h9)
    refine lv_iconst (v := 0) hx hb d_T_scanTag_45 (by decide) ?_
    refine lv_iload_n hx hb d_T_scanTag_46 rfl (lv_at hl 0 rfl) ?_
    have hc_2 : Int32.toInt 2 = 2 := by decide
    have hc_0 : Int32.toInt 0 = 0 := by decide
    have hFc := va_free (wc := (WE h g len fp many tlen tat qlen md gat kind (.ref (k wi)) (.ref (k ti)) gs th st rq bl te og sc kd sr wo sa qb du)) hD hS hA [0, 1, 2, 3, 4, 5, 6, 7, 8, 9, 10] rfl
    refine va_callv (va_runV (As := [.int 2, .ref (k u_17), .int 0, .int r_13]) (rest := []) ⟨hx, hb, hml, hown, ht⟩ (c_T_add l dC dI k h g len fp many tlen tat qlen md gat kind gs th st rq bl te og wi ti sc kd sr sa qb du wo 2 u_17 0 r_13 _ (by omega) (by omega) (by omega) (by omega) (by omega) (by omega) (by omega) (by omega) (by omega) v_4) (cwV 4 ht (g_V k_252 k_254 k_5 k_75 k_255) rfl rfl rfl (by decide +kernel) ⟨(Nat.le_of_ble_eq_true rfl), (Nat.le_of_ble_eq_true rfl)⟩) ⟨fb_X, va_recv hK hP (ci := 1) (q0 := 2) rfl rfl, pre_X hE hS hFc hP hK hD⟩ rfl rfl hl.1 rfl (lv_room (Nat.le_of_ble_eq_true rfl)) d_T_scanTag_47 ⟨(Nat.le_of_ble_eq_true rfl), (Nat.le_of_ble_eq_true rfl)⟩) hS (fun q _ h9 => hFc q h9) hFc (fun u_26 t H locs het hvm hw hB hz1 hk1 hS => ?_)
    obtain ⟨many_20, tat_21, kd_22, sr_23, wo_24, sa_25⟩ := u_26
    try dsimp only at hw
    obtain ⟨p_28, p_29, p_30, p_31, p_32⟩ := hw
    obtain ⟨hP1, hK1, hD1⟩ := hB
    rw [het] at hP1
    have hP : va_P (dC, dI) cls (WE h g len fp many_20 tlen tat_21 qlen md gat kind (.ref (k wi)) (.ref (k ti)) gs th st rq bl te og sc kd_22 sr_23 wo_24 sa_25 qb du) H := hP1
    have hD : va_D A (WE h g len fp many_20 tlen tat_21 qlen md gat kind (.ref (k wi)) (.ref (k ti)) gs th st rq bl te og sc kd_22 sr_23 wo_24 sa_25 qb du) := hD1.weaken (fun _ _ _ h9 => hFc _ h9)
    refine lv_iconst (v := 1) hx hb d_T_scanTag_50 (by decide) ?_
    have hc_1 : Int32.toInt 1 = 1 := by decide
    exact fin 1 (many_20, tat_21, kd_22, sr_23, wo_24, sa_25) _ _ _ ls d_T_scanTag_51 rfl ⟨(by (try dsimp only); omega), (by (try dsimp only); omega), (by (try dsimp only); omega), (by (try dsimp only); omega), p_32, rfl⟩ hP hD hS
  · have dc_10 := i_eq c_10 rfl (show Int32.toInt 0 = 0 by decide)
    refine lv_iconst (v := 0) hx hb d_T_scanTag_16 (by decide) ?_
    have hc_0 : Int32.toInt 0 = 0 := by decide
    exact fin 0 (many, tat, kd, sr, wo, sa) _ _ _ ls d_T_scanTag_17 rfl ⟨(by (try dsimp only); omega), (by (try dsimp only); omega), (by (try dsimp only); omega), (by (try dsimp only); omega), v_4, rfl⟩ hP hD hS
set_option maxHeartbeats 4000000 in
set_option maxRecDepth 100000 in
theorem c_T_scanTag (l : Launch) (dC : Nat → ClassId) (dI : Nat → Nat → Nat) (k : Nat → Nat) (h : Nat → Nat) (g : Nat → ClassId) (len : Int32) (fp : Int32) (many : Int32) (tlen : Int32) (tat : Int32) (qlen : Int32) (md : Int32) (gat : Int32) (kind : Int32) (gs : Int32) (th : Int32) (st : Int32) (rq : Int32) (bl : Int32) (te : Int32) (og : Int32) (wi : Nat) (ti : Nat) (sc : Nat → Int32) (kd : Nat → Int32) (sr : Nat → Int32) (sa : Nat → Int32) (qb : Nat → Int32) (du : Nat → Int32) (wo : Nat → Option Nat)  (sz : Nat) (h_0 : 0 ≤ Int32.toInt tlen) (h_1 : Int32.toInt tlen ≤ 400) (v_0 : 0 ≤ Int32.toInt many) (v_1 : Int32.toInt many ≤ 401) (v_2 : 0 ≤ Int32.toInt tat) (v_3 : Int32.toInt tat ≤ Int32.toInt tlen) (v_4 : WOk k wo) : Met l y_T_scanTag (.code y_T_scanTag b_T_scanTag 2 (some .boolean) :: TT) ({ frames := 6, cells := 0, slots := 0, locals := 134 }) (va_Pc [.ref (h 2)] (PX dC dI k (TE g) (WE h g len fp many tlen tat qlen md gat kind (.ref (k wi)) (.ref (k ti)) gs th st rq bl te og sc kd sr wo sa qb du) sz)) (va_Qi (fun (r : Int32) (u : Int32 × Int32 × (Nat → Int32) × (Nat → Int32) × (Nat → Option Nat) × (Nat → Int32)) => 0 ≤ Int32.toInt u.1 ∧ Int32.toInt u.1 ≤ 401 ∧ 0 ≤ Int32.toInt u.2.1 ∧ Int32.toInt u.2.1 ≤ Int32.toInt tlen ∧ WOk k u.2.2.2.2.1 ∧ narrow .boolean (.int r) = .int r) (fun u t => BX dC dI (TE g) (va_A (WE h g len fp many tlen tat qlen md gat kind (.ref (k wi)) (.ref (k ti)) gs th st rq bl te og sc kd sr wo sa qb du) sz) (WE h g len fp u.1 tlen u.2.1 qlen md gat kind (.ref (k wi)) (.ref (k ti)) gs th st rq bl te og sc u.2.2.1 u.2.2.2.1 u.2.2.2.2.1 u.2.2.2.2.2 qb du) t) (va_A (WE h g len fp many tlen tat qlen md gat kind (.ref (k wi)) (.ref (k ti)) gs th st rq bl te og sc kd sr wo sa qb du) sz)) 0 0 (va_A (WE h g len fp many tlen tat qlen md gat kind (.ref (k wi)) (.ref (k ti)) gs th st rq bl te og sc kd sr wo sa qb du) sz) := by
  refine Met.ofW (cc := b_T_scanTag) (maxL := 2) (ret := (some .boolean)) (by decide) rfl ?_
  intro p e s m args below meth c s₁ B hml hv
  obtain ⟨rfl, hsz, hE, hP, hK, hD0⟩ := hv
  have hx := B.exec
  have hb := B.bytes
  have hr := B.returns
  have ht : ∀ w ∈ TT, w.before _ s = true := fun w hw => atoms_spec (ws := .code y_T_scanTag b_T_scanTag 2 (some .boolean) :: TT) B.pre w (List.mem_cons_of_mem _ hw)
  have hown : s.vm.findClass "SieveDesk$Tokens" = some m.cls := findClass_of_methodNamed B.named
  have hlocks := B.notSynchronized
  subst hsz
  have hD := hD0.self (sz := s.heap.size)
  generalize hAe : va_A (WE h g len fp many tlen tat qlen md gat kind (.ref (k wi)) (.ref (k ti)) gs th st rq bl te og sc kd sr wo sa qb du) s.heap.size = A at hE hD ⊢
  have hA : ∀ q : Nat, s.heap.size ≤ q → A q := fun q h9 => by rw [← hAe]; exact Or.inr h9
  have hS : va_S A s.heap s.heap [] := va_S.rf
  have hl := lv_entry ([.ref (h 2)]) (n := 2) (Nat.le_of_ble_eq_true rfl)
  rw [lg_entry_eq]
  generalize (lg_sl ([.ref (h 2)]) ++ List.replicate (2 - (lg_sl ([.ref (h 2)])).length) Slot.unset).toArray = ls at hl ⊢
  have hl : lv_has ls 2 [(0, .ref (h 2))] := hl
  exact bd_T_scanTag_0  hx hb hml hown ht hE hA hK h_0 h_1 (fun r u H locs pc ls hd hn hp hP hD hS => W.zret hx hb hr hn (fun t het hW => ⟨⟨r, u, rfl, hp, by rw [het]; exact hP, va_K.moved hW.alike hK, hD⟩, hS.F het⟩) hS.2.2 hd) many tat kd sr wo sa v_0 v_1 v_2 v_3 v_4 _ _ ls hP hD hS hl
set_option maxHeartbeats 4000000 in
set_option maxRecDepth 100000 in
theorem lp_T_scanNumber_7 {p : Program} {l : Launch} {e : Env} {s : State} {m : MethodId} {args : Array Value} {below : List Frame} {meth : Method} {c : Code} {Q : State → Prop} {A : Nat → Prop} {dC : Nat → ClassId} {dI : Nat → Nat → Nat} {k h : Nat → Nat} {g : Nat → ClassId} {len : Int32} {fp : Int32} {tlen : Int32} {qlen : Int32} {md : Int32} {gat : Int32} {kind : Int32} {gs : Int32} {th : Int32} {st : Int32} {rq : Int32} {bl : Int32} {te : Int32} {og : Int32} {wi : Nat} {ti : Nat} {sc : Nat → Int32} {qb : Nat → Int32} {du : Nat → Int32} (hx : p.tables.exec = Jvm.exec) (hb : c.code = b_T_scanNumber) (hml : c.maxLocals = 5) (hown : s.vm.findClass "SieveDesk$Tokens" = some m.cls) (ht : ∀ w ∈ TT, w.before args s = true) (hE : KE k A s s.heap) (hA : ∀ q : Nat, s.heap.size ≤ q → A q) (hK : va_K (dC, dI) cls (TE g) s)  (h_0 : 0 ≤ Int32.toInt tlen) (h_1 : Int32.toInt tlen ≤ 400) (fin : ∀ (r : Int32) (u : Int32 × Int32 × (Nat → Int32) × (Nat → Int32) × (Nat → Option Nat) × (Nat → Int32)) (H : Heap) (locs : List Loc) (pc : Nat) (ls : Array Slot), decode b_T_scanNumber pc = .ok (.ireturn, 1) → narrow .boolean (.int r) = .int r → (0 ≤ Int32.toInt u.1 ∧ Int32.toInt u.1 ≤ 401 ∧ 0 ≤ Int32.toInt u.2.1 ∧ Int32.toInt u.2.1 ≤ Int32.toInt tlen ∧ WOk k u.2.2.2.2.1 ∧ narrow .boolean (.int r) = .int r) → va_P (dC, dI) cls (WE h g len fp u.1 tlen u.2.1 qlen md gat kind (.ref (k wi)) (.ref (k ti)) gs th st rq bl te og sc u.2.2.1 u.2.2.2.1 u.2.2.2.2.1 u.2.2.2.2.2 qb du) H → va_D A (WE h g len fp u.1 tlen u.2.1 qlen md gat kind (.ref (k wi)) (.ref (k ti)) gs th st rq bl te og sc u.2.2.1 u.2.2.2.1 u.2.2.2.2.1 u.2.2.2.2.2 qb du) → va_S A s.heap H locs → W p l e ({ frames := 2, cells := 0, slots := 0, locals := 40 } : Room) s m args below meth c H locs 0 0 Q (F0 m pc ls [.int r])) : ∀ (nn : Nat), ∀ (va : Int64) (en : Int32) (many : Int32) (tat : Int32) (kd : Nat → Int32) (sr : Nat → Int32) (wo : Nat → Option Nat) (sa : Nat → Int32), 0 ≤ Int32.toInt en → Int32.toInt en ≤ Int32.toInt tlen → 0 ≤ Int32.toInt many → Int32.toInt many ≤ 401 → 0 ≤ Int32.toInt tat → Int32.toInt tat ≤ Int32.toInt tlen → WOk k wo → (400 - Int32.toInt en).toNat < nn → ∀ (H : Heap) (locs : List Loc) (ls : Array Slot), va_P (dC, dI) cls (WE h g len fp many tlen tat qlen md gat kind (.ref (k wi)) (.ref (k ti)) gs th st rq bl te og sc kd sr wo sa qb du) H → va_D A (WE h g len fp many tlen tat qlen md gat kind (.ref (k wi)) (.ref (k ti)) gs th st rq bl te og sc kd sr wo sa qb du) → va_S A s.heap H locs → lv_has ls 5 [(1, .long va), (3, .int en), (0, .ref (h 2))] → W p l e ({ frames := 2, cells := 0, slots := 0, locals := 40 } : Room) s m args below meth c H locs 0 0 Q (F0 m 7 ls []) := by
  intro nn
  induction nn with
  | zero =>
    intro _ _ _ _ _ _ _ _ _ _ _ _ _ _ _ hm
    exact absurd hm (Nat.not_lt_zero _)
  | succ nn ih =>
    intro va en many tat kd sr wo sa v_0 v_1 v_2 v_3 v_4 v_5 v_6 hm H locs ls hP hD hS hl
    refine lv_iload_n hx hb d_T_scanNumber_7 rfl (lv_at hl 1 rfl) ?_
    refine lv_aload_n hx hb d_T_scanNumber_8 rfl (lv_at hl 2 rfl) ?_
    refine va_get (D := (dC, dI)) (ci := 1) (v := .int tlen) (C := "SieveDesk$Tokens") (T := F_T) (N := 9) hx hb ht i_T hown hK hP 2 rfl rfl 7 (by decide) (ht _ k_131) (fun _ h9 => h9) rfl d_T_scanNumber_9 ?_
    refine lv_icmp_ge (tgt := 55) hx hb d_T_scanNumber_12 (by decide) (fun c_1 => ?_) (fun c_1 => ?_)
    · have dc_1 := i_le c_1 rfl rfl
      refine lv_aload_n hx hb d_T_scanNumber_55 rfl (lv_at hl 2 rfl) ?_
      refine lv_iload_n hx hb d_T_scanNumber_56 rfl (lv_at hl 1 rfl) ?_
      have hFc := va_free (wc := (WE h g len fp many tlen tat qlen md gat kind (.ref (k wi)) (.ref (k ti)) gs th st rq bl te og sc kd sr wo sa qb du)) hD hS hA [0, 1, 2, 3, 4, 5, 6, 7, 8, 9, 10] rfl
      refine va_calli (va_runV (As := [.int en]) (rest := []) ⟨hx, hb, hml, hown, ht⟩ (c_T_byteAt l dC dI k h g len fp many tlen tat qlen md gat kind gs th st rq bl te og wi ti sc kd sr sa qb du wo en _  ) (cwV 1 ht (g_V k_239 k_241 k_2 k_75 k_242) rfl rfl rfl (by decide +kernel) ⟨(Nat.le_of_ble_eq_true rfl), (Nat.le_of_ble_eq_true rfl)⟩) ⟨fb_X, va_recv hK hP (ci := 1) (q0 := 2) rfl rfl, pre_X hE hS hFc hP hK hD⟩ rfl rfl hl.1 rfl (lv_room (Nat.le_of_ble_eq_true rfl)) d_T_scanNumber_57 ⟨(Nat.le_of_ble_eq_true rfl), (Nat.le_of_ble_eq_true rfl)⟩) hS (fun q _ h9 => hFc q h9) hFc (fun r_3 u_2 t H locs het hvm hw hB hz1 hk1 hS => ?_)
      obtain ⟨p_4, p_5, p_6⟩ := hw
      obtain ⟨hP1, hK1, hD1⟩ := hB
      rw [het] at hP1
      have hP : va_P (dC, dI) cls (WE h g len fp many tlen tat qlen md gat kind (.ref (k wi)) (.ref (k ti)) gs th st rq bl te og sc kd sr wo sa qb du) H := hP1
      have hD : va_D A (WE h g len fp many tlen tat qlen md gat kind (.ref (k wi)) (.ref (k ti)) gs th st rq bl te og sc kd sr wo sa qb du) := hD1.weaken (fun _ _ _ h9 => hFc _ h9)
      refine vp_callSi (W.runS (As := [.int r_3]) (rest := []) ⟨hx, hb, hml, hown, ht⟩ (c_T_shiftOf l k r_3 ) (va_cwS 1 ht (g_S k_362 k_363 k_75 k_364) rfl rfl rfl (by decide +kernel) ⟨(Nat.le_of_ble_eq_true rfl), (Nat.le_of_ble_eq_true rfl)⟩) ⟨fb_J, pre_J hE hS⟩ rfl rfl hl.1 rfl (lv_room (Nat.le_of_ble_eq_true rfl)) d_T_scanNumber_60 ⟨(Nat.le_of_ble_eq_true rfl), (Nat.le_of_ble_eq_true rfl)⟩) (fun r_7 hw => ?_)
      have p_8 := hw
      refine lv_istore (lv' := [(4, .int r_7), (1, .long va), (3, .int en), (0, .ref (h 2))]) hx hb d_T_scanNumber_63 hl (by decide) rfl (fun ls hl => ?_)
      refine lv_iload hx hb d_T_scanNumber_65 (lv_at hl 0 rfl) ?_
      refine lv_if_le (tgt := 73) hx hb d_T_scanNumber_67 (by decide) (fun c_9 => ?_) (fun c_9 => ?_)
      · have dc_9 := i_le c_9 rfl (show Int32.toInt 0 = 0 by decide)
        refine lv_lload_n hx hb d_T_scanNumber_73 rfl (lv_at hl 1 rfl) ?_
        refine lv_iload hx hb d_T_scanNumber_74 (lv_at hl 0 rfl) ?_
        refine lv_lshl (v := (va <<< ((Int32.toInt64 r_7) &&& 63))) hx hb d_T_scanNumber_76 rfl ?_
        refine lv_ldc2 (v := 2147483647) hx hb hown (ht _ k_365) d_T_scanNumber_77 ?_
        refine W.lcmp hx hb d_T_scanNumber_80 ?_
        refine lv_topi (fun lc_10 elc_10 => ?_)
        refine lv_if_gt (tgt := 95) hx hb d_T_scanNumber_81 (by decide) (fun c_11 => ?_) (fun c_11 => ?_)
        · refine lv_iconst (v := 0) hx hb d_T_scanNumber_95 (by decide) ?_
          have hc_0 : Int32.toInt 0 = 0 := by decide
          exact fin 0 (many, tat, kd, sr, wo, sa) _ _ _ ls d_T_scanNumber_96 rfl ⟨(by (try dsimp only); omega), (by (try dsimp only); omega), (by (try dsimp only); omega), (by (try dsimp only); omega), v_6, rfl⟩ hP hD hS
        · refine lv_aload_n hx hb d_T_scanNumber_84 rfl (lv_at hl 3 rfl) ?_
          refine lv_iload_n hx hb d_T_scanNumber_85 rfl (lv_at hl 2 rfl) ?_
          have hFc := va_free (wc := (WE h g len fp many tlen tat qlen md gat kind (.ref (k wi)) (.ref (k ti)) gs th st rq bl te og sc kd sr wo sa qb du)) hD hS hA [0, 1, 2, 3, 4, 5, 6, 7, 8, 9, 10] rfl
          refine va_calli (va_runV (As := [.int en]) (rest := []) ⟨hx, hb, hml, hown, ht⟩ (c_T_byteAt l dC dI k h g len fp many tlen tat qlen md gat kind gs th st rq bl te og wi ti sc kd sr sa qb du wo en _  ) (cwV 1 ht (g_V k_239 k_241 k_2 k_75 k_242) rfl rfl rfl (by decide +kernel) ⟨(Nat.le_of_ble_eq_true rfl), (Nat.le_of_ble_eq_true rfl)⟩) ⟨fb_X, va_recv hK hP (ci := 1) (q0 := 2) rfl rfl, pre_X hE hS hFc hP hK hD⟩ rfl rfl hl.1 rfl (lv_room (Nat.le_of_ble_eq_true rfl)) d_T_scanNumber_86 ⟨(Nat.le_of_ble_eq_true rfl), (Nat.le_of_ble_eq_true rfl)⟩) hS (fun q _ h9 => hFc q h9) hFc (fun r_13 u_12 t H locs het hvm hw hB hz1 hk1 hS => ?_)
          obtain ⟨p_14, p_15, p_16⟩ := hw
          obtain ⟨hP1, hK1, hD1⟩ := hB
          rw [het] at hP1
          have hP : va_P (dC, dI) cls (WE h g len fp many tlen tat qlen md gat kind (.ref (k wi)) (.ref (k ti)) gs th st rq bl te og sc kd sr wo sa qb du) H := hP1
          have hD : va_D A (WE h g len fp many tlen tat qlen md gat kind (.ref (k wi)) (.ref (k ti)) gs th st rq bl te og sc kd sr wo sa qb du) := hD1.weaken (fun _ _ _ h9 => hFc _ h9)
          refine vp_callSi (cr_of (va_runSN (As := [.int r_13]) (rest := []) ⟨hx, hb, hml, hown, ht⟩ (c_S_goesOnWord l k r_13 ) ⟨va_cnB 1 ht (g_C k_276) rfl rfl rfl (hE.1 _ n_274) (ht _ k_74) (by decide +kernel) ⟨(Nat.le_of_ble_eq_true rfl), (Nat.le_of_ble_eq_true rfl)⟩, (ht _ k_275), trivial⟩ ⟨fb_J, pre_J hE hS⟩ rfl rfl hl.1 rfl (lv_room (Nat.le_of_ble_eq_true rfl)) d_T_scanNumber_89 ⟨(Nat.le_of_ble_eq_true rfl), (Nat.le_of_ble_eq_true rfl)⟩)) (fun r_17 hw => ?_)
          obtain ⟨p_18, p_19⟩ := hw
          refine lv_if_eq (tgt := 97) hx hb d_T_scanNumber_92 (by decide) (fun c_20 => ?_) (fun c_20 => ?_)
          · have dc_20 := i_eq c_20 rfl (show Int32.toInt 0 = 0 by decide)
            refine lv_aload_n hx hb d_T_scanNumber_97 rfl (lv_at hl 3 rfl) ?_
            refine lv_iconst (v := 3) hx hb d_T_scanNumber_98 (by decide) ?_
            refine va_gets hx hb (ke_W_NONE hE) hS hown (ht _ k_251) (fun _ h9 => h9) d_T_scanNumber_99 ?_
            refine lv_iconst (v := 0) hx hb d_T_scanNumber_102 (by decide) ?_
            refine lv_iload_n hx hb d_T_scanNumber_103 rfl (lv_at hl 2 rfl) ?_
            have hc_3 : Int32.toInt 3 = 3 := by decide
            have hc_0 : Int32.toInt 0 = 0 := by decide
            have hFc := va_free (wc := (WE h g len fp many tlen tat qlen md gat kind (.ref (k wi)) (.ref (k ti)) gs th st rq bl te og sc kd sr wo sa qb du)) hD hS hA [0, 1, 2, 3, 4, 5, 6, 7, 8, 9, 10] rfl
            refine va_callv (va_runV (As := [.int 3, .ref (k 0), .int 0, .int en]) (rest := []) ⟨hx, hb, hml, hown, ht⟩ (c_T_add l dC dI k h g len fp many tlen tat qlen md gat kind gs th st rq bl te og wi ti sc kd sr sa qb du wo 3 0 0 en _ (by omega) (by omega) (by omega) (by omega) (by omega) (by omega) (by omega) (by omega) (by omega) v_6) (cwV 4 ht (g_V k_252 k_254 k_5 k_75 k_255) rfl rfl rfl (by decide +kernel) ⟨(Nat.le_of_ble_eq_true rfl), (Nat.le_of_ble_eq_true rfl)⟩) ⟨fb_X, va_recv hK hP (ci := 1) (q0 := 2) rfl rfl, pre_X hE hS hFc hP hK hD⟩ rfl rfl hl.1 rfl (lv_room (Nat.le_of_ble_eq_true rfl)) d_T_scanNumber_104 ⟨(Nat.le_of_ble_eq_true rfl), (Nat.le_of_ble_eq_true rfl)⟩) hS (fun q _ h9 => hFc q h9) hFc (fun u_27 t H locs het hvm hw hB hz1 hk1 hS => ?_)
            obtain ⟨many_21, tat_22, kd_23, sr_24, wo_25, sa_26⟩ := u_27
            try dsimp only at hw
            obtain ⟨p_29, p_30, p_31, p_32, p_33⟩ := hw
            obtain ⟨hP1, hK1, hD1⟩ := hB
            rw [het] at hP1
            have hP : va_P (dC, dI) cls (WE h g len fp many_21 tlen tat_22 qlen md gat kind (.ref (k wi)) (.ref (k ti)) gs th st rq bl te og sc kd_23 sr_24 wo_25 sa_26 qb du) H := hP1
            have hD : va_D A (WE h g len fp many_21 tlen tat_22 qlen md gat kind (.ref (k wi)) (.ref (k ti)) gs th st rq bl te og sc kd_23 sr_24 wo_25 sa_26 qb du) := hD1.weaken (fun _ _ _ h9 => hFc _ h9)
            refine lv_iconst (v := 1) hx hb d_T_scanNumber_107 (by decide) ?_
            have hc_1 : Int32.toInt 1 = 1 := by decide
            exact fin 1 (many_21, tat_22, kd_23, sr_24, wo_25, sa_26) _ _ _ ls d_T_scanNumber_108 rfl ⟨(by (try dsimp only); omega), (by (try dsimp only); omega), (by (try dsimp only); omega), (by (try dsimp only); omega), p_33, rfl⟩ hP hD hS
          · have dc_20 := i_ne c_20 rfl (show Int32.toInt 0 = 0 by decide)
            refine lv_iconst (v := 0) hx hb d_T_scanNumber_95 (by decide) ?_
            have hc_0 : Int32.toInt 0 = 0 := by decide
            exact fin 0 (many, tat, kd, sr, wo, sa) _ _ _ ls d_T_scanNumber_96 rfl ⟨(by (try dsimp only); omega), (by (try dsimp only); omega), (by (try dsimp only); omega), (by (try dsimp only); omega), v_6, rfl⟩ hP hD hS
      · have dc_9 := i_nle c_9 rfl (show Int32.toInt 0 = 0 by decide)
        refine lv_iinc (v := (en + 1)) (lv' := [(3, .int (en + 1)), (4, .int r_7), (1, .long va), (0, .ref (h 2))]) hx hb d_T_scanNumber_70 hl (k := 2) rfl rfl (by decide) rfl (fun ls hl => ?_)
        have e_34 : Int32.toInt (en + 1) = (Int32.toInt en) + 1 := i_add rfl (show Int32.toInt 1 = 1 by decide) (by omega) (by omega)
        refine lv_lload_n hx hb d_T_scanNumber_73 rfl (lv_at hl 2 rfl) ?_
        refine lv_iload hx hb d_T_scanNumber_74 (lv_at hl 1 rfl) ?_
        refine lv_lshl (v := (va <<< ((Int32.toInt64 r_7) &&& 63))) hx hb d_T_scanNumber_76 rfl ?_
        refine lv_ldc2 (v := 2147483647) hx hb hown (ht _ k_365) d_T_scanNumber_77 ?_
        refine W.lcmp hx hb d_T_scanNumber_80 ?_
        refine lv_topi (fun lc_35 elc_35 => ?_)
        refine lv_if_gt (tgt := 95) hx hb d_T_scanNumber_81 (by decide) (fun c_36 => ?_) (fun c_36 => ?_)
        · refine lv_iconst (v := 0) hx hb d_T_scanNumber_95 (by decide) ?_
          have hc_0 : Int32.toInt 0 = 0 := by decide
          exact fin 0 (many, tat, kd, sr, wo, sa) _ _ _ ls d_T_scanNumber_96 rfl ⟨(by (try dsimp only); omega), (by (try dsimp only); omega), (by (try dsimp only); omega), (by (try dsimp only); omega), v_6, rfl⟩ hP hD hS
        · refine lv_aload_n hx hb d_T_scanNumber_84 rfl (lv_at hl 3 rfl) ?_
          refine lv_iload_n hx hb d_T_scanNumber_85 rfl (lv_at hl 0 rfl) ?_
          have hFc := va_free (wc := (WE h g len fp many tlen tat qlen md gat kind (.ref (k wi)) (.ref (k ti)) gs th st rq bl te og sc kd sr wo sa qb du)) hD hS hA [0, 1, 2, 3, 4, 5, 6, 7, 8, 9, 10] rfl
          refine va_calli (va_runV (As := [.int (en + 1)]) (rest := []) ⟨hx, hb, hml, hown, ht⟩ (c_T_byteAt l dC dI k h g len fp many tlen tat qlen md gat kind gs th st rq bl te og wi ti sc kd sr sa qb du wo (en + 1) _  ) (cwV 1 ht (g_V k_239 k_241 k_2 k_75 k_242) rfl rfl rfl (by decide +kernel) ⟨(Nat.le_of_ble_eq_true rfl), (Nat.le_of_ble_eq_true rfl)⟩) ⟨fb_X, va_recv hK hP (ci := 1) (q0 := 2) rfl rfl, pre_X hE hS hFc hP hK hD⟩ rfl rfl hl.1 rfl (lv_room (Nat.le_of_ble_eq_true rfl)) d_T_scanNumber_86 ⟨(Nat.le_of_ble_eq_true rfl), (Nat.le_of_ble_eq_true rfl)⟩) hS (fun q _ h9 => hFc q h9) hFc (fun r_38 u_37 t H locs het hvm hw hB hz1 hk1 hS => ?_)
          obtain ⟨p_39, p_40, p_41⟩ := hw
          obtain ⟨hP1, hK1, hD1⟩ := hB
          rw [het] at hP1
          have hP : va_P (dC, dI) cls (WE h g len fp many tlen tat qlen md gat kind (.ref (k wi)) (.ref (k ti)) gs th st rq bl te og sc kd sr wo sa qb du) H := hP1
          have hD : va_D A (WE h g len fp many tlen tat qlen md gat kind (.ref (k wi)) (.ref (k ti)) gs th st rq bl te og sc kd sr wo sa qb du) := hD1.weaken (fun _ _ _ h9 => hFc _ h9)
          refine vp_callSi (cr_of (va_runSN (As := [.int r_38]) (rest := []) ⟨hx, hb, hml, hown, ht⟩ (c_S_goesOnWord l k r_38 ) ⟨va_cnB 1 ht (g_C k_276) rfl rfl rfl (hE.1 _ n_274) (ht _ k_74) (by decide +kernel) ⟨(Nat.le_of_ble_eq_true rfl), (Nat.le_of_ble_eq_true rfl)⟩, (ht _ k_275), trivial⟩ ⟨fb_J, pre_J hE hS⟩ rfl rfl hl.1 rfl (lv_room (Nat.le_of_ble_eq_true rfl)) d_T_scanNumber_89 ⟨(Nat.le_of_ble_eq_true rfl), (Nat.le_of_ble_eq_true rfl)⟩)) (fun r_42 hw => ?_)
          obtain ⟨p_43, p_44⟩ := hw
          refine lv_if_eq (tgt := 97) hx hb d_T_scanNumber_92 (by decide) (fun c_45 => ?_) (fun c_45 => ?_)
          · have dc_45 := i_eq c_45 rfl (show Int32.toInt 0 = 0 by decide)
            refine lv_aload_n hx hb d_T_scanNumber_97 rfl (lv_at hl 3 rfl) ?_
            refine lv_iconst (v := 3) hx hb d_T_scanNumber_98 (by decide) ?_
            refine va_gets hx hb (ke_W_NONE hE) hS hown (ht _ k_251) (fun _ h9 => h9) d_T_scanNumber_99 ?_
            refine lv_iconst (v := 0) hx hb d_T_scanNumber_102 (by decide) ?_
            refine lv_iload_n hx hb d_T_scanNumber_103 rfl (lv_at hl 0 rfl) ?_
            have hc_3 : Int32.toInt 3 = 3 := by decide
            have hc_0 : Int32.toInt 0 = 0 := by decide
            have hFc := va_free (wc := (WE h g len fp many tlen tat qlen md gat kind (.ref (k wi)) (.ref (k ti)) gs th st rq bl te og sc kd sr wo sa qb du)) hD hS hA [0, 1, 2, 3, 4, 5, 6, 7, 8, 9, 10] rfl
            refine va_callv (va_runV (As := [.int 3, .ref (k 0), .int 0, .int (en + 1)]) (rest := []) ⟨hx, hb, hml, hown, ht⟩ (c_T_add l dC dI k h g len fp many tlen tat qlen md gat kind gs th st rq bl te og wi ti sc kd sr sa qb du wo 3 0 0 (en + 1) _ (by omega) (by omega) (by omega) (by omega) (by omega) (by omega) (by omega) (by omega) (by omega) v_6) (cwV 4 ht (g_V k_252 k_254 k_5 k_75 k_255) rfl rfl rfl (by decide +kernel) ⟨(Nat.le_of_ble_eq_true rfl), (Nat.le_of_ble_eq_true rfl)⟩) ⟨fb_X, va_recv hK hP (ci := 1) (q0 := 2) rfl rfl, pre_X hE hS hFc hP hK hD⟩ rfl rfl hl.1 rfl (lv_room (Nat.le_of_ble_eq_true rfl)) d_T_scanNumber_104 ⟨(Nat.le_of_ble_eq_true rfl), (Nat.le_of_ble_eq_true rfl)⟩) hS (fun q _ h9 => hFc q h9) hFc (fun u_52 t H locs het hvm hw hB hz1 hk1 hS => ?_)
            obtain ⟨many_46, tat_47, kd_48, sr_49, wo_50, sa_51⟩ := u_52
            try dsimp only at hw
            obtain ⟨p_54, p_55, p_56, p_57, p_58⟩ := hw
            obtain ⟨hP1, hK1, hD1⟩ := hB
            rw [het] at hP1
            have hP : va_P (dC, dI) cls (WE h g len fp many_46 tlen tat_47 qlen md gat kind (.ref (k wi)) (.ref (k ti)) gs th st rq bl te og sc kd_48 sr_49 wo_50 sa_51 qb du) H := hP1
            have hD : va_D A (WE h g len fp many_46 tlen tat_47 qlen md gat kind (.ref (k wi)) (.ref (k ti)) gs th st rq bl te og sc kd_48 sr_49 wo_50 sa_51 qb du) := hD1.weaken (fun _ _ _ h9 => hFc _ h9)
            refine lv_iconst (v := 1) hx hb d_T_scanNumber_107 (by decide) ?_
            have hc_1 : Int32.toInt 1 = 1 := by decide
            exact fin 1 (many_46, tat_47, kd_48, sr_49, wo_50, sa_51) _ _ _ ls d_T_scanNumber_108 rfl ⟨(by (try dsimp only); omega), (by (try dsimp only); omega), (by (try dsimp only); omega), (by (try dsimp only); omega), p_58, rfl⟩ hP hD hS
          · have dc_45 := i_ne c_45 rfl (show Int32.toInt 0 = 0 by decide)
            refine lv_iconst (v := 0) hx hb d_T_scanNumber_95 (by decide) ?_
            have hc_0 : Int32.toInt 0 = 0 := by decide
            exact fin 0 (many, tat, kd, sr, wo, sa) _ _ _ ls d_T_scanNumber_96 rfl ⟨(by (try dsimp only); omega), (by (try dsimp only); omega), (by (try dsimp only); omega), (by (try dsimp only); omega), v_6, rfl⟩ hP hD hS
    · have dc_1 := i_nle c_1 rfl rfl
      refine lv_aload_n hx hb d_T_scanNumber_15 rfl (lv_at hl 2 rfl) ?_
      refine lv_iload_n hx hb d_T_scanNumber_16 rfl (lv_at hl 1 rfl) ?_
      have hFc := va_free (wc := (WE h g len fp many tlen tat qlen md gat kind (.ref (k wi)) (.ref (k ti)) gs th st rq bl te og sc kd sr wo sa qb du)) hD hS hA [0, 1, 2, 3, 4, 5, 6, 7, 8, 9, 10] rfl
      refine va_calli (va_runV (As := [.int en]) (rest := []) ⟨hx, hb, hml, hown, ht⟩ (c_T_byteAt l dC dI k h g len fp many tlen tat qlen md gat kind gs th st rq bl te og wi ti sc kd sr sa qb du wo en _  ) (cwV 1 ht (g_V k_239 k_241 k_2 k_75 k_242) rfl rfl rfl (by decide +kernel) ⟨(Nat.le_of_ble_eq_true rfl), (Nat.le_of_ble_eq_true rfl)⟩) ⟨fb_X, va_recv hK hP (ci := 1) (q0 := 2) rfl rfl, pre_X hE hS hFc hP hK hD⟩ rfl rfl hl.1 rfl (lv_room (Nat.le_of_ble_eq_true rfl)) d_T_scanNumber_17 ⟨(Nat.le_of_ble_eq_true rfl), (Nat.le_of_ble_eq_true rfl)⟩) hS (fun q _ h9 => hFc q h9) hFc (fun r_60 u_59 t H locs het hvm hw hB hz1 hk1 hS => ?_)
      obtain ⟨p_61, p_62, p_63⟩ := hw
      obtain ⟨hP1, hK1, hD1⟩ := hB
      rw [het] at hP1
      have hP : va_P (dC, dI) cls (WE h g len fp many tlen tat qlen md gat kind (.ref (k wi)) (.ref (k ti)) gs th st rq bl te og sc kd sr wo sa qb du) H := hP1
      have hD : va_D A (WE h g len fp many tlen tat qlen md gat kind (.ref (k wi)) (.ref (k ti)) gs th st rq bl te og sc kd sr wo sa qb du) := hD1.weaken (fun _ _ _ h9 => hFc _ h9)
      refine vp_callSi (cr_of (va_runSN (As := [.int r_60]) (rest := []) ⟨hx, hb, hml, hown, ht⟩ (c_S_isDigit l k r_60 ) ⟨va_cnB 1 ht (g_C k_279) rfl rfl rfl (hE.1 _ n_351) (ht _ k_74) (by decide +kernel) ⟨(Nat.le_of_ble_eq_true rfl), (Nat.le_of_ble_eq_true rfl)⟩, (ht _ k_278), trivial⟩ ⟨fb_J, pre_J hE hS⟩ rfl rfl hl.1 rfl (lv_room (Nat.le_of_ble_eq_true rfl)) d_T_scanNumber_20 ⟨(Nat.le_of_ble_eq_true rfl), (Nat.le_of_ble_eq_true rfl)⟩)) (fun r_64 hw => ?_)
      obtain ⟨p_65, p_66⟩ := hw
      refine lv_if_eq (tgt := 55) hx hb d_T_scanNumber_23 (by decide) (fun c_67 => ?_) (fun c_67 => ?_)
      · have dc_67 := i_eq c_67 rfl (show Int32.toInt 0 = 0 by decide)
        refine lv_aload_n hx hb d_T_scanNumber_55 rfl (lv_at hl 2 rfl) ?_
        refine lv_iload_n hx hb d_T_scanNumber_56 rfl (lv_at hl 1 rfl) ?_
        have hFc := va_free (wc := (WE h g len fp many tlen tat qlen md gat kind (.ref (k wi)) (.ref (k ti)) gs th st rq bl te og sc kd sr wo sa qb du)) hD hS hA [0, 1, 2, 3, 4, 5, 6, 7, 8, 9, 10] rfl
        refine va_calli (va_runV (As := [.int en]) (rest := []) ⟨hx, hb, hml, hown, ht⟩ (c_T_byteAt l dC dI k h g len fp many tlen tat qlen md gat kind gs th st rq bl te og wi ti sc kd sr sa qb du wo en _  ) (cwV 1 ht (g_V k_239 k_241 k_2 k_75 k_242) rfl rfl rfl (by decide +kernel) ⟨(Nat.le_of_ble_eq_true rfl), (Nat.le_of_ble_eq_true rfl)⟩) ⟨fb_X, va_recv hK hP (ci := 1) (q0 := 2) rfl rfl, pre_X hE hS hFc hP hK hD⟩ rfl rfl hl.1 rfl (lv_room (Nat.le_of_ble_eq_true rfl)) d_T_scanNumber_57 ⟨(Nat.le_of_ble_eq_true rfl), (Nat.le_of_ble_eq_true rfl)⟩) hS (fun q _ h9 => hFc q h9) hFc (fun r_69 u_68 t H locs het hvm hw hB hz1 hk1 hS => ?_)
        obtain ⟨p_70, p_71, p_72⟩ := hw
        obtain ⟨hP1, hK1, hD1⟩ := hB
        rw [het] at hP1
        have hP : va_P (dC, dI) cls (WE h g len fp many tlen tat qlen md gat kind (.ref (k wi)) (.ref (k ti)) gs th st rq bl te og sc kd sr wo sa qb du) H := hP1
        have hD : va_D A (WE h g len fp many tlen tat qlen md gat kind (.ref (k wi)) (.ref (k ti)) gs th st rq bl te og sc kd sr wo sa qb du) := hD1.weaken (fun _ _ _ h9 => hFc _ h9)
        refine vp_callSi (W.runS (As := [.int r_69]) (rest := []) ⟨hx, hb, hml, hown, ht⟩ (c_T_shiftOf l k r_69 ) (va_cwS 1 ht (g_S k_362 k_363 k_75 k_364) rfl rfl rfl (by decide +kernel) ⟨(Nat.le_of_ble_eq_true rfl), (Nat.le_of_ble_eq_true rfl)⟩) ⟨fb_J, pre_J hE hS⟩ rfl rfl hl.1 rfl (lv_room (Nat.le_of_ble_eq_true rfl)) d_T_scanNumber_60 ⟨(Nat.le_of_ble_eq_true rfl), (Nat.le_of_ble_eq_true rfl)⟩) (fun r_73 hw => ?_)
        have p_74 := hw
        refine lv_istore (lv' := [(4, .int r_73), (1, .long va), (3, .int en), (0, .ref (h 2))]) hx hb d_T_scanNumber_63 hl (by decide) rfl (fun ls hl => ?_)
        refine lv_iload hx hb d_T_scanNumber_65 (lv_at hl 0 rfl) ?_
        refine lv_if_le (tgt := 73) hx hb d_T_scanNumber_67 (by decide) (fun c_75 => ?_) (fun c_75 => ?_)
        · have dc_75 := i_le c_75 rfl (show Int32.toInt 0 = 0 by decide)
          refine lv_lload_n hx hb d_T_scanNumber_73 rfl (lv_at hl 1 rfl) ?_
          refine lv_iload hx hb d_T_scanNumber_74 (lv_at hl 0 rfl) ?_
          refine lv_lshl (v := (va <<< ((Int32.toInt64 r_73) &&& 63))) hx hb d_T_scanNumber_76 rfl ?_
          refine lv_ldc2 (v := 2147483647) hx hb hown (ht _ k_365) d_T_scanNumber_77 ?_
          refine W.lcmp hx hb d_T_scanNumber_80 ?_
          refine lv_topi (fun lc_76 elc_76 => ?_)
          refine lv_if_gt (tgt := 95) hx hb d_T_scanNumber_81 (by decide) (fun c_77 => ?_) (fun c_77 => ?_)
          · refine lv_iconst (v := 0) hx hb d_T_scanNumber_95 (by decide) ?_
            have hc_0 : Int32.toInt 0 = 0 := by decide
            exact fin 0 (many, tat, kd, sr, wo, sa) _ _ _ ls d_T_scanNumber_96 rfl ⟨(by (try dsimp only); omega), (by (try dsimp only); omega), (by (try dsimp only); omega), (by (try dsimp only); omega), v_6, rfl⟩ hP hD hS
          · refine lv_aload_n hx hb d_T_scanNumber_84 rfl (lv_at hl 3 rfl) ?_
            refine lv_iload_n hx hb d_T_scanNumber_85 rfl (lv_at hl 2 rfl) ?_
            have hFc := va_free (wc := (WE h g len fp many tlen tat qlen md gat kind (.ref (k wi)) (.ref (k ti)) gs th st rq bl te og sc kd sr wo sa qb du)) hD hS hA [0, 1, 2, 3, 4, 5, 6, 7, 8, 9, 10] rfl
            refine va_calli (va_runV (As := [.int en]) (rest := []) ⟨hx, hb, hml, hown, ht⟩ (c_T_byteAt l dC dI k h g len fp many tlen tat qlen md gat kind gs th st rq bl te og wi ti sc kd sr sa qb du wo en _  ) (cwV 1 ht (g_V k_239 k_241 k_2 k_75 k_242) rfl rfl rfl (by decide +kernel) ⟨(Nat.le_of_ble_eq_true rfl), (Nat.le_of_ble_eq_true rfl)⟩) ⟨fb_X, va_recv hK hP (ci := 1) (q0 := 2) rfl rfl, pre_X hE hS hFc hP hK hD⟩ rfl rfl hl.1 rfl (lv_room (Nat.le_of_ble_eq_true rfl)) d_T_scanNumber_86 ⟨(Nat.le_of_ble_eq_true rfl), (Nat.le_of_ble_eq_true rfl)⟩) hS (fun q _ h9 => hFc q h9) hFc (fun r_79 u_78 t H locs het hvm hw hB hz1 hk1 hS => ?_)
            obtain ⟨p_80, p_81, p_82⟩ := hw
            obtain ⟨hP1, hK1, hD1⟩ := hB
            rw [het] at hP1
            have hP : va_P (dC, dI) cls (WE h g len fp many tlen tat qlen md gat kind (.ref (k wi)) (.ref (k ti)) gs th st rq bl te og sc kd sr wo sa qb du) H := hP1
            have hD : va_D A (WE h g len fp many tlen tat qlen md gat kind (.ref (k wi)) (.ref (k ti)) gs th st rq bl te og sc kd sr wo sa qb du) := hD1.weaken (fun _ _ _ h9 => hFc _ h9)
            refine vp_callSi (cr_of (va_runSN (As := [.int r_79]) (rest := []) ⟨hx, hb, hml, hown, ht⟩ (c_S_goesOnWord l k r_79 ) ⟨va_cnB 1 ht (g_C k_276) rfl rfl rfl (hE.1 _ n_274) (ht _ k_74) (by decide +kernel) ⟨(Nat.le_of_ble_eq_true rfl), (Nat.le_of_ble_eq_true rfl)⟩, (ht _ k_275), trivial⟩ ⟨fb_J, pre_J hE hS⟩ rfl rfl hl.1 rfl (lv_room (Nat.le_of_ble_eq_true rfl)) d_T_scanNumber_89 ⟨(Nat.le_of_ble_eq_true rfl), (Nat.le_of_ble_eq_true rfl)⟩)) (fun r_83 hw => ?_)
            obtain ⟨p_84, p_85⟩ := hw
            refine lv_if_eq (tgt := 97) hx hb d_T_scanNumber_92 (by decide) (fun c_86 => ?_) (fun c_86 => ?_)
            · have dc_86 := i_eq c_86 rfl (show Int32.toInt 0 = 0 by decide)
              refine lv_aload_n hx hb d_T_scanNumber_97 rfl (lv_at hl 3 rfl) ?_
              refine lv_iconst (v := 3) hx hb d_T_scanNumber_98 (by decide) ?_
              refine va_gets hx hb (ke_W_NONE hE) hS hown (ht _ k_251) (fun _ h9 => h9) d_T_scanNumber_99 ?_
              refine lv_iconst (v := 0) hx hb d_T_scanNumber_102 (by decide) ?_
              refine lv_iload_n hx hb d_T_scanNumber_103 rfl (lv_at hl 2 rfl) ?_
              have hc_3 : Int32.toInt 3 = 3 := by decide
              have hc_0 : Int32.toInt 0 = 0 := by decide
              have hFc := va_free (wc := (WE h g len fp many tlen tat qlen md gat kind (.ref (k wi)) (.ref (k ti)) gs th st rq bl te og sc kd sr wo sa qb du)) hD hS hA [0, 1, 2, 3, 4, 5, 6, 7, 8, 9, 10] rfl
              refine va_callv (va_runV (As := [.int 3, .ref (k 0), .int 0, .int en]) (rest := []) ⟨hx, hb, hml, hown, ht⟩ (c_T_add l dC dI k h g len fp many tlen tat qlen md gat kind gs th st rq bl te og wi ti sc kd sr sa qb du wo 3 0 0 en _ (by omega) (by omega) (by omega) (by omega) (by omega) (by omega) (by omega) (by omega) (by omega) v_6) (cwV 4 ht (g_V k_252 k_254 k_5 k_75 k_255) rfl rfl rfl (by decide +kernel) ⟨(Nat.le_of_ble_eq_true rfl), (Nat.le_of_ble_eq_true rfl)⟩) ⟨fb_X, va_recv hK hP (ci := 1) (q0 := 2) rfl rfl, pre_X hE hS hFc hP hK hD⟩ rfl rfl hl.1 rfl (lv_room (Nat.le_of_ble_eq_true rfl)) d_T_scanNumber_104 ⟨(Nat.le_of_ble_eq_true rfl), (Nat.le_of_ble_eq_true rfl)⟩) hS (fun q _ h9 => hFc q h9) hFc (fun u_93 t H locs het hvm hw hB hz1 hk1 hS => ?_)
              obtain ⟨many_87, tat_88, kd_89, sr_90, wo_91, sa_92⟩ := u_93
              try dsimp only at hw
              obtain ⟨p_95, p_96, p_97, p_98, p_99⟩ := hw
              obtain ⟨hP1, hK1, hD1⟩ := hB
              rw [het] at hP1
              have hP : va_P (dC, dI) cls (WE h g len fp many_87 tlen tat_88 qlen md gat kind (.ref (k wi)) (.ref (k ti)) gs th st rq bl te og sc kd_89 sr_90 wo_91 sa_92 qb du) H := hP1
              have hD : va_D A (WE h g len fp many_87 tlen tat_88 qlen md gat kind (.ref (k wi)) (.ref (k ti)) gs th st rq bl te og sc kd_89 sr_90 wo_91 sa_92 qb du) := hD1.weaken (fun _ _ _ h9 => hFc _ h9)
              refine lv_iconst (v := 1) hx hb d_T_scanNumber_107 (by decide) ?_
              have hc_1 : Int32.toInt 1 = 1 := by decide
              exact fin 1 (many_87, tat_88, kd_89, sr_90, wo_91, sa_92) _ _ _ ls d_T_scanNumber_108 rfl ⟨(by (try dsimp only); omega), (by (try dsimp only); omega), (by (try dsimp only); omega), (by (try dsimp only); omega), p_99, rfl⟩ hP hD hS
            · have dc_86 := i_ne c_86 rfl (show Int32.toInt 0 = 0 by decide)
              refine lv_iconst (v := 0) hx hb d_T_scanNumber_95 (by decide) ?_
              have hc_0 : Int32.toInt 0 = 0 := by decide
              exact fin 0 (many, tat, kd, sr, wo, sa) _ _ _ ls d_T_scanNumber_96 rfl ⟨(by (try dsimp only); omega), (by (try dsimp only); omega), (by (try dsimp only); omega), (by (try dsimp only); omega), v_6, rfl⟩ hP hD hS
        · have dc_75 := i_nle c_75 rfl (show Int32.toInt 0 = 0 by decide)
          refine lv_iinc (v := (en + 1)) (lv' := [(3, .int (en + 1)), (4, .int r_73), (1, .long va), (0, .ref (h 2))]) hx hb d_T_scanNumber_70 hl (k := 2) rfl rfl (by decide) rfl (fun ls hl => ?_)
          have e_100 : Int32.toInt (en + 1) = (Int32.toInt en) + 1 := i_add rfl (show Int32.toInt 1 = 1 by decide) (by omega) (by omega)
          refine lv_lload_n hx hb d_T_scanNumber_73 rfl (lv_at hl 2 rfl) ?_
          refine lv_iload hx hb d_T_scanNumber_74 (lv_at hl 1 rfl) ?_
          refine lv_lshl (v := (va <<< ((Int32.toInt64 r_73) &&& 63))) hx hb d_T_scanNumber_76 rfl ?_
          refine lv_ldc2 (v := 2147483647) hx hb hown (ht _ k_365) d_T_scanNumber_77 ?_
          refine W.lcmp hx hb d_T_scanNumber_80 ?_
          refine lv_topi (fun lc_101 elc_101 => ?_)
          refine lv_if_gt (tgt := 95) hx hb d_T_scanNumber_81 (by decide) (fun c_102 => ?_) (fun c_102 => ?_)
          · refine lv_iconst (v := 0) hx hb d_T_scanNumber_95 (by decide) ?_
            have hc_0 : Int32.toInt 0 = 0 := by decide
            exact fin 0 (many, tat, kd, sr, wo, sa) _ _ _ ls d_T_scanNumber_96 rfl ⟨(by (try dsimp only); omega), (by (try dsimp only); omega), (by (try dsimp only); omega), (by (try dsimp only); omega), v_6, rfl⟩ hP hD hS
          · refine lv_aload_n hx hb d_T_scanNumber_84 rfl (lv_at hl 3 rfl) ?_
            refine lv_iload_n hx hb d_T_scanNumber_85 rfl (lv_at hl 0 rfl) ?_
            have hFc := va_free (wc := (WE h g len fp many tlen tat qlen md gat kind (.ref (k wi)) (.ref (k ti)) gs th st rq bl te og sc kd sr wo sa qb du)) hD hS hA [0, 1, 2, 3, 4, 5, 6, 7, 8, 9, 10] rfl
            refine va_calli (va_runV (As := [.int (en + 1)]) (rest := []) ⟨hx, hb, hml, hown, ht⟩ (c_T_byteAt l dC dI k h g len fp many tlen tat qlen md gat kind gs th st rq bl te og wi ti sc kd sr sa qb du wo (en + 1) _  ) (cwV 1 ht (g_V k_239 k_241 k_2 k_75 k_242) rfl rfl rfl (by decide +kernel) ⟨(Nat.le_of_ble_eq_true rfl), (Nat.le_of_ble_eq_true rfl)⟩) ⟨fb_X, va_recv hK hP (ci := 1) (q0 := 2) rfl rfl, pre_X hE hS hFc hP hK hD⟩ rfl rfl hl.1 rfl (lv_room (Nat.le_of_ble_eq_true rfl)) d_T_scanNumber_86 ⟨(Nat.le_of_ble_eq_true rfl), (Nat.le_of_ble_eq_true rfl)⟩) hS (fun q _ h9 => hFc q h9) hFc (fun r_104 u_103 t H locs het hvm hw hB hz1 hk1 hS => ?_)
            obtain ⟨p_105, p_106, p_107⟩ := hw
            obtain ⟨hP1, hK1, hD1⟩ := hB
            rw [het] at hP1
            have hP : va_P (dC, dI) cls (WE h g len fp many tlen tat qlen md gat kind (.ref (k wi)) (.ref (k ti)) gs th st rq bl te og sc kd sr wo sa qb du) H := hP1
            have hD : va_D A (WE h g len fp many tlen tat qlen md gat kind (.ref (k wi)) (.ref (k ti)) gs th st rq bl te og sc kd sr wo sa qb du) := hD1.weaken (fun _ _ _ h9 => hFc _ h9)
            refine vp_callSi (cr_of (va_runSN (As := [.int r_104]) (rest := []) ⟨hx, hb, hml, hown, ht⟩ (c_S_goesOnWord l k r_104 ) ⟨va_cnB 1 ht (g_C k_276) rfl rfl rfl (hE.1 _ n_274) (ht _ k_74) (by decide +kernel) ⟨(Nat.le_of_ble_eq_true rfl), (Nat.le_of_ble_eq_true rfl)⟩, (ht _ k_275), trivial⟩ ⟨fb_J, pre_J hE hS⟩ rfl rfl hl.1 rfl (lv_room (Nat.le_of_ble_eq_true rfl)) d_T_scanNumber_89 ⟨(Nat.le_of_ble_eq_true rfl), (Nat.le_of_ble_eq_true rfl)⟩)) (fun r_108 hw => ?_)
            obtain ⟨p_109, p_110⟩ := hw
            refine lv_if_eq (tgt := 97) hx hb d_T_scanNumber_92 (by decide) (fun c_111 => ?_) (fun c_111 => ?_)
            · have dc_111 := i_eq c_111 rfl (show Int32.toInt 0 = 0 by decide)
              refine lv_aload_n hx hb d_T_scanNumber_97 rfl (lv_at hl 3 rfl) ?_
              refine lv_iconst (v := 3) hx hb d_T_scanNumber_98 (by decide) ?_
              refine va_gets hx hb (ke_W_NONE hE) hS hown (ht _ k_251) (fun _ h9 => h9) d_T_scanNumber_99 ?_
              refine lv_iconst (v := 0) hx hb d_T_scanNumber_102 (by decide) ?_
              refine lv_iload_n hx hb d_T_scanNumber_103 rfl (lv_at hl 0 rfl) ?_
              have hc_3 : Int32.toInt 3 = 3 := by decide
              have hc_0 : Int32.toInt 0 = 0 := by decide
              have hFc := va_free (wc := (WE h g len fp many tlen tat qlen md gat kind (.ref (k wi)) (.ref (k ti)) gs th st rq bl te og sc kd sr wo sa qb du)) hD hS hA [0, 1, 2, 3, 4, 5, 6, 7, 8, 9, 10] rfl
              refine va_callv (va_runV (As := [.int 3, .ref (k 0), .int 0, .int (en + 1)]) (rest := []) ⟨hx, hb, hml, hown, ht⟩ (c_T_add l dC dI k h g len fp many tlen tat qlen md gat kind gs th st rq bl te og wi ti sc kd sr sa qb du wo 3 0 0 (en + 1) _ (by omega) (by omega) (by omega) (by omega) (by omega) (by omega) (by omega) (by omega) (by omega) v_6) (cwV 4 ht (g_V k_252 k_254 k_5 k_75 k_255) rfl rfl rfl (by decide +kernel) ⟨(Nat.le_of_ble_eq_true rfl), (Nat.le_of_ble_eq_true rfl)⟩) ⟨fb_X, va_recv hK hP (ci := 1) (q0 := 2) rfl rfl, pre_X hE hS hFc hP hK hD⟩ rfl rfl hl.1 rfl (lv_room (Nat.le_of_ble_eq_true rfl)) d_T_scanNumber_104 ⟨(Nat.le_of_ble_eq_true rfl), (Nat.le_of_ble_eq_true rfl)⟩) hS (fun q _ h9 => hFc q h9) hFc (fun u_118 t H locs het hvm hw hB hz1 hk1 hS => ?_)
              obtain ⟨many_112, tat_113, kd_114, sr_115, wo_116, sa_117⟩ := u_118
              try dsimp only at hw
              obtain ⟨p_120, p_121, p_122, p_123, p_124⟩ := hw
              obtain ⟨hP1, hK1, hD1⟩ := hB
              rw [het] at hP1
              have hP : va_P (dC, dI) cls (WE h g len fp many_112 tlen tat_113 qlen md gat kind (.ref (k wi)) (.ref (k ti)) gs th st rq bl te og sc kd_114 sr_115 wo_116 sa_117 qb du) H := hP1
              have hD : va_D A (WE h g len fp many_112 tlen tat_113 qlen md gat kind (.ref (k wi)) (.ref (k ti)) gs th st rq bl te og sc kd_114 sr_115 wo_116 sa_117 qb du) := hD1.weaken (fun _ _ _ h9 => hFc _ h9)
              refine lv_iconst (v := 1) hx hb d_T_scanNumber_107 (by decide) ?_
              have hc_1 : Int32.toInt 1 = 1 := by decide
              exact fin 1 (many_112, tat_113, kd_114, sr_115, wo_116, sa_117) _ _ _ ls d_T_scanNumber_108 rfl ⟨(by (try dsimp only); omega), (by (try dsimp only); omega), (by (try dsimp only); omega), (by (try dsimp only); omega), p_124, rfl⟩ hP hD hS
            · have dc_111 := i_ne c_111 rfl (show Int32.toInt 0 = 0 by decide)
              refine lv_iconst (v := 0) hx hb d_T_scanNumber_95 (by decide) ?_
              have hc_0 : Int32.toInt 0 = 0 := by decide
              exact fin 0 (many, tat, kd, sr, wo, sa) _ _ _ ls d_T_scanNumber_96 rfl ⟨(by (try dsimp only); omega), (by (try dsimp only); omega), (by (try dsimp only); omega), (by (try dsimp only); omega), v_6, rfl⟩ hP hD hS
      · have dc_67 := i_ne c_67 rfl (show Int32.toInt 0 = 0 by decide)
        refine lv_lload_n hx hb d_T_scanNumber_26 rfl (lv_at hl 0 rfl) ?_
        refine lv_ldc2 (v := 10) hx hb hown (ht _ k_356) d_T_scanNumber_27 ?_
        refine lv_lmul hx hb d_T_scanNumber_30 ?_
        refine lv_aload_n hx hb d_T_scanNumber_31 rfl (lv_at hl 2 rfl) ?_
        refine lv_iload_n hx hb d_T_scanNumber_32 rfl (lv_at hl 1 rfl) ?_
        have hFc := va_free (wc := (WE h g len fp many tlen tat qlen md gat kind (.ref (k wi)) (.ref (k ti)) gs th st rq bl te og sc kd sr wo sa qb du)) hD hS hA [0, 1, 2, 3, 4, 5, 6, 7, 8, 9, 10] rfl
        refine va_calli (va_runV (As := [.int en]) (rest := [.long (va * 10)]) ⟨hx, hb, hml, hown, ht⟩ (c_T_byteAt l dC dI k h g len fp many tlen tat qlen md gat kind gs th st rq bl te og wi ti sc kd sr sa qb du wo en _  ) (cwV 1 ht (g_V k_239 k_241 k_2 k_75 k_242) rfl rfl rfl (by decide +kernel) ⟨(Nat.le_of_ble_eq_true rfl), (Nat.le_of_ble_eq_true rfl)⟩) ⟨fb_X, va_recv hK hP (ci := 1) (q0 := 2) rfl rfl, pre_X hE hS hFc hP hK hD⟩ rfl rfl hl.1 rfl (lv_room (Nat.le_of_ble_eq_true rfl)) d_T_scanNumber_33 ⟨(Nat.le_of_ble_eq_true rfl), (Nat.le_of_ble_eq_true rfl)⟩) hS (fun q _ h9 => hFc q h9) hFc (fun r_126 u_125 t H locs het hvm hw hB hz1 hk1 hS => ?_)
        obtain ⟨p_127, p_128, p_129⟩ := hw
        obtain ⟨hP1, hK1, hD1⟩ := hB
        rw [het] at hP1
        have hP : va_P (dC, dI) cls (WE h g len fp many tlen tat qlen md gat kind (.ref (k wi)) (.ref (k ti)) gs th st rq bl te og sc kd sr wo sa qb du) H := hP1
        have hD : va_D A (WE h g len fp many tlen tat qlen md gat kind (.ref (k wi)) (.ref (k ti)) gs th st rq bl te og sc kd sr wo sa qb du) := hD1.weaken (fun _ _ _ h9 => hFc _ h9)
        refine lv_i2l (v := (Int32.toInt64 r_126)) hx hb d_T_scanNumber_36 rfl ?_
        refine lv_ladd hx hb d_T_scanNumber_37 ?_
        refine lv_ldc2 (v := 48) hx hb hown (ht _ k_357) d_T_scanNumber_38 ?_
        refine lv_lsub hx hb d_T_scanNumber_41 ?_
        refine lv_ldc2 (v := 2147483648) hx hb hown (ht _ k_358) d_T_scanNumber_42 ?_
        refine va_mmin_long hx hb (by rw [hml]; exact hl.1.symm) hown (ht _ k_359) (ht _ k_360) (ht _ k_85) (ht _ k_361) (Nat.le_of_ble_eq_true rfl) (Nat.le_of_ble_eq_true rfl) (Nat.le_of_ble_eq_true rfl) (Nat.le_of_ble_eq_true rfl) d_T_scanNumber_45 ?_
        refine lv_topl (fun r_130 er_130 => ?_)
        refine lv_lstore_n (lv' := [(1, .long r_130), (3, .int en), (0, .ref (h 2))]) hx hb d_T_scanNumber_48 rfl hl (by decide) rfl (fun ls hl => ?_)
        refine lv_iinc (v := (en + 1)) (lv' := [(3, .int (en + 1)), (1, .long r_130), (0, .ref (h 2))]) hx hb d_T_scanNumber_49 hl (k := 1) rfl rfl (by decide) rfl (fun ls hl => ?_)
        have e_131 : Int32.toInt (en + 1) = (Int32.toInt en) + 1 := i_add rfl (show Int32.toInt 1 = 1 by decide) (by omega) (by omega)
        refine lv_goto (tgt := 7) hx hb d_T_scanNumber_52 (by decide) ?_
        exact ih r_130 (en + 1) many tat kd sr wo sa (by omega) (by omega) (by omega) (by omega) (by omega) (by omega) v_6 (by omega) _ _ ls hP hD hS (lv_sub hl [1, 0, 2] rfl)
set_option maxHeartbeats 4000000 in
set_option maxRecDepth 100000 in
theorem bd_T_scanNumber_0 {p : Program} {l : Launch} {e : Env} {s : State} {m : MethodId} {args : Array Value} {below : List Frame} {meth : Method} {c : Code} {Q : State → Prop} {A : Nat → Prop} {dC : Nat → ClassId} {dI : Nat → Nat → Nat} {k h : Nat → Nat} {g : Nat → ClassId} {len : Int32} {fp : Int32} {tlen : Int32} {qlen : Int32} {md : Int32} {gat : Int32} {kind : Int32} {gs : Int32} {th : Int32} {st : Int32} {rq : Int32} {bl : Int32} {te : Int32} {og : Int32} {wi : Nat} {ti : Nat} {sc : Nat → Int32} {qb : Nat → Int32} {du : Nat → Int32} (hx : p.tables.exec = Jvm.exec) (hb : c.code = b_T_scanNumber) (hml : c.maxLocals = 5) (hown : s.vm.findClass "SieveDesk$Tokens" = some m.cls) (ht : ∀ w ∈ TT, w.before args s = true) (hE : KE k A s s.heap) (hA : ∀ q : Nat, s.heap.size ≤ q → A q) (hK : va_K (dC, dI) cls (TE g) s)  (h_0 : 0 ≤ Int32.toInt tlen) (h_1 : Int32.toInt tlen ≤ 400) (fin : ∀ (r : Int32) (u : Int32 × Int32 × (Nat → Int32) × (Nat → Int32) × (Nat → Option Nat) × (Nat → Int32)) (H : Heap) (locs : List Loc) (pc : Nat) (ls : Array Slot), decode b_T_scanNumber pc = .ok (.ireturn, 1) → narrow .boolean (.int r) = .int r → (0 ≤ Int32.toInt u.1 ∧ Int32.toInt u.1 ≤ 401 ∧ 0 ≤ Int32.toInt u.2.1 ∧ Int32.toInt u.2.1 ≤ Int32.toInt tlen ∧ WOk k u.2.2.2.2.1 ∧ narrow .boolean (.int r) = .int r) → va_P (dC, dI) cls (WE h g len fp u.1 tlen u.2.1 qlen md gat kind (.ref (k wi)) (.ref (k ti)) gs th st rq bl te og sc u.2.2.1 u.2.2.2.1 u.2.2.2.2.1 u.2.2.2.2.2 qb du) H → va_D A (WE h g len fp u.1 tlen u.2.1 qlen md gat kind (.ref (k wi)) (.ref (k ti)) gs th st rq bl te og sc u.2.2.1 u.2.2.2.1 u.2.2.2.2.1 u.2.2.2.2.2 qb du) → va_S A s.heap H locs → W p l e ({ frames := 2, cells := 0, slots := 0, locals := 40 } : Room) s m args below meth c H locs 0 0 Q (F0 m pc ls [.int r])) : ∀ (many : Int32) (tat : Int32) (kd : Nat → Int32) (sr : Nat → Int32) (wo : Nat → Option Nat) (sa : Nat → Int32), 0 ≤ Int32.toInt many → Int32.toInt many ≤ 401 → 0 ≤ Int32.toInt tat → Int32.toInt tat ≤ Int32.toInt tlen → WOk k wo → ∀ (H : Heap) (locs : List Loc) (ls : Array Slot), va_P (dC, dI) cls (WE h g len fp many tlen tat qlen md gat kind (.ref (k wi)) (.ref (k ti)) gs th st rq bl te og sc kd sr wo sa qb du) H → va_D A (WE h g len fp many tlen tat qlen md gat kind (.ref (k wi)) (.ref (k ti)) gs th st rq bl te og sc kd sr wo sa qb du) → va_S A s.heap H locs → lv_has ls 5 [(0, .ref (h 2))] → W p l e ({ frames := 2, cells := 0, slots := 0, locals := 40 } : Room) s m args below meth c H locs 0 0 Q (F0 m 0 ls []) := by
  intro many tat kd sr wo sa v_0 v_1 v_2 v_3 v_4 H locs ls hP hD hS hl
  refine lv_lconst (v := 0) hx hb d_T_scanNumber_0 (by decide) ?_
  refine lv_lstore_n (lv' := [(1, .long 0), (0, .ref (h 2))]) hx hb d_T_scanNumber_1 rfl hl (by decide) rfl (fun ls hl => ?_)
  refine lv_aload_n hx hb d_T_scanNumber_2 rfl (lv_at hl 1 rfl) ?_
  refine va_get (D := (dC, dI)) (ci := 1) (v := .int tat) (C := "SieveDesk$Tokens") (T := F_T) (N := 9) hx hb ht i_T hown hK hP 2 rfl rfl 8 (by decide) (ht _ k_132) (fun _ h9 => h9) rfl d_T_scanNumber_3 ?_
  refine lv_istore_n (lv' := [(3, .int tat), (1, .long 0), (0, .ref (h 2))]) hx hb d_T_scanNumber_6 rfl hl (by decide) rfl (fun ls hl => ?_)
  exact (lp_T_scanNumber_7  hx hb hml hown ht hE hA hK h_0 h_1 fin _) 0 tat many tat kd sr wo sa (by omega) (by omega) (by omega) (by omega) (by omega) (by omega) v_4 (Nat.lt_succ_self _) _ _ ls hP hD hS (lv_sub hl [1, 0, 2] rfl)
set_option maxHeartbeats 4000000 in
set_option maxRecDepth 100000 in
theorem c_T_scanNumber (l : Launch) (dC : Nat → ClassId) (dI : Nat → Nat → Nat) (k : Nat → Nat) (h : Nat → Nat) (g : Nat → ClassId) (len : Int32) (fp : Int32) (many : Int32) (tlen : Int32) (tat : Int32) (qlen : Int32) (md : Int32) (gat : Int32) (kind : Int32) (gs : Int32) (th : Int32) (st : Int32) (rq : Int32) (bl : Int32) (te : Int32) (og : Int32) (wi : Nat) (ti : Nat) (sc : Nat → Int32) (kd : Nat → Int32) (sr : Nat → Int32) (sa : Nat → Int32) (qb : Nat → Int32) (du : Nat → Int32) (wo : Nat → Option Nat)  (sz : Nat) (h_0 : 0 ≤ Int32.toInt tlen) (h_1 : Int32.toInt tlen ≤ 400) (v_0 : 0 ≤ Int32.toInt many) (v_1 : Int32.toInt many ≤ 401) (v_2 : 0 ≤ Int32.toInt tat) (v_3 : Int32.toInt tat ≤ Int32.toInt tlen) (v_4 : WOk k wo) : Met l y_T_scanNumber (.code y_T_scanNumber b_T_scanNumber 5 (some .boolean) :: TT) ({ frames := 2, cells := 0, slots := 0, locals := 40 }) (va_Pc [.ref (h 2)] (PX dC dI k (TE g) (WE h g len fp many tlen tat qlen md gat kind (.ref (k wi)) (.ref (k ti)) gs th st rq bl te og sc kd sr wo sa qb du) sz)) (va_Qi (fun (r : Int32) (u : Int32 × Int32 × (Nat → Int32) × (Nat → Int32) × (Nat → Option Nat) × (Nat → Int32)) => 0 ≤ Int32.toInt u.1 ∧ Int32.toInt u.1 ≤ 401 ∧ 0 ≤ Int32.toInt u.2.1 ∧ Int32.toInt u.2.1 ≤ Int32.toInt tlen ∧ WOk k u.2.2.2.2.1 ∧ narrow .boolean (.int r) = .int r) (fun u t => BX dC dI (TE g) (va_A (WE h g len fp many tlen tat qlen md gat kind (.ref (k wi)) (.ref (k ti)) gs th st rq bl te og sc kd sr wo sa qb du) sz) (WE h g len fp u.1 tlen u.2.1 qlen md gat kind (.ref (k wi)) (.ref (k ti)) gs th st rq bl te og sc u.2.2.1 u.2.2.2.1 u.2.2.2.2.1 u.2.2.2.2.2 qb du) t) (va_A (WE h g len fp many tlen tat qlen md gat kind (.ref (k wi)) (.ref (k ti)) gs th st rq bl te og sc kd sr wo sa qb du) sz)) 0 0 (va_A (WE h g len fp many tlen tat qlen md gat kind (.ref (k wi)) (.ref (k ti)) gs th st rq bl te og sc kd sr wo sa qb du) sz) := by
  refine Met.ofW (cc := b_T_scanNumber) (maxL := 5) (ret := (some .boolean)) (by decide) rfl ?_
  intro p e s m args below meth c s₁ B hml hv
  obtain ⟨rfl, hsz, hE, hP, hK, hD0⟩ := hv
  have hx := B.exec
  have hb := B.bytes
  have hr := B.returns
  have ht : ∀ w ∈ TT, w.before _ s = true := fun w hw => atoms_spec (ws := .code y_T_scanNumber b_T_scanNumber 5 (some .boolean) :: TT) B.pre w (List.mem_cons_of_mem _ hw)
  have hown : s.vm.findClass "SieveDesk$Tokens" = some m.cls := findClass_of_methodNamed B.named
  have hlocks := B.notSynchronized
  subst hsz
  have hD := hD0.self (sz := s.heap.size)
  generalize hAe : va_A (WE h g len fp many tlen tat qlen md gat kind (.ref (k wi)) (.ref (k ti)) gs th st rq bl te og sc kd sr wo sa qb du) s.heap.size = A at hE hD ⊢
  have hA : ∀ q : Nat, s.heap.size ≤ q → A q := fun q h9 => by rw [← hAe]; exact Or.inr h9
  have hS : va_S A s.heap s.heap [] := va_S.rf
  have hl := lv_entry ([.ref (h 2)]) (n := 5) (Nat.le_of_ble_eq_true rfl)
  rw [lg_entry_eq]
  generalize (lg_sl ([.ref (h 2)]) ++ List.replicate (5 - (lg_sl ([.ref (h 2)])).length) Slot.unset).toArray = ls at hl ⊢
  have hl : lv_has ls 5 [(0, .ref (h 2))] := hl
  exact bd_T_scanNumber_0  hx hb hml hown ht hE hA hK h_0 h_1 (fun r u H locs pc ls hd hn hp hP hD hS => W.zret hx hb hr hn (fun t het hW => ⟨⟨r, u, rfl, hp, by rw [het]; exact hP, va_K.moved hW.alike hK, hD⟩, hS.F het⟩) hS.2.2 hd) many tat kd sr wo sa v_0 v_1 v_2 v_3 v_4 _ _ ls hP hD hS hl
set_option maxHeartbeats 4000000 in
set_option maxRecDepth 100000 in
theorem lp_T_scanQuoted_14 {p : Program} {l : Launch} {e : Env} {s : State} {m : MethodId} {args : Array Value} {below : List Frame} {meth : Method} {c : Code} {Q : State → Prop} {A : Nat → Prop} {dC : Nat → ClassId} {dI : Nat → Nat → Nat} {k h : Nat → Nat} {g : Nat → ClassId} {len : Int32} {fp : Int32} {tlen : Int32} {md : Int32} {gat : Int32} {kind : Int32} {gs : Int32} {th : Int32} {st : Int32} {rq : Int32} {bl : Int32} {te : Int32} {og : Int32} {wi : Nat} {ti : Nat} {sc : Nat → Int32} {du : Nat → Int32} (hx : p.tables.exec = Jvm.exec) (hb : c.code = b_T_scanQuoted) (hml : c.maxLocals = 3) (hown : s.vm.findClass "SieveDesk$Tokens" = some m.cls) (ht : ∀ w ∈ TT, w.before args s = true) (hE : KE k A s s.heap) (hA : ∀ q : Nat, s.heap.size ≤ q → A q) (hK : va_K (dC, dI) cls (TE g) s)  (h_0 : 0 ≤ Int32.toInt tlen) (h_1 : Int32.toInt tlen ≤ 400) (fin : ∀ (r : Int32) (u : Int32 × Int32 × (Nat → Int32) × (Nat → Int32) × (Nat → Option Nat) × (Nat → Int32) × Int32 × (Nat → Int32)) (H : Heap) (locs : List Loc) (pc : Nat) (ls : Array Slot), decode b_T_scanQuoted pc = .ok (.ireturn, 1) → narrow .boolean (.int r) = .int r → (0 ≤ Int32.toInt u.1 ∧ Int32.toInt u.1 ≤ 401 ∧ 0 ≤ Int32.toInt u.2.1 ∧ Int32.toInt u.2.1 ≤ Int32.toInt tlen ∧ WOk k u.2.2.2.2.1 ∧ 0 ≤ Int32.toInt u.2.2.2.2.2.2.1 ∧ Int32.toInt u.2.2.2.2.2.2.1 ≤ 200 ∧ narrow .boolean (.int r) = .int r) → va_P (dC, dI) cls (WE h g len fp u.1 tlen u.2.1 u.2.2.2.2.2.2.1 md gat kind (.ref (k wi)) (.ref (k ti)) gs th st rq bl te og sc u.2.2.1 u.2.2.2.1 u.2.2.2.2.1 u.2.2.2.2.2.1 u.2.2.2.2.2.2.2 du) H → va_D A (WE h g len fp u.1 tlen u.2.1 u.2.2.2.2.2.2.1 md gat kind (.ref (k wi)) (.ref (k ti)) gs th st rq bl te og sc u.2.2.1 u.2.2.2.1 u.2.2.2.2.1 u.2.2.2.2.2.1 u.2.2.2.2.2.2.2 du) → va_S A s.heap H locs → W p l e ({ frames := 7, cells := 0, slots := 0, locals := 162 } : Room) s m args below meth c H locs 0 0 Q (F0 m pc ls [.int r])) : ∀ (nn : Nat), ∀ (i : Int32) (many : Int32) (tat : Int32) (kd : Nat → Int32) (sr : Nat → Int32) (wo : Nat → Option Nat) (sa : Nat → Int32) (qlen : Int32) (qb : Nat → Int32), 0 ≤ Int32.toInt i → Int32.toInt i ≤ 1000 → 0 ≤ Int32.toInt many → Int32.toInt many ≤ 401 → 0 ≤ Int32.toInt tat → Int32.toInt tat ≤ Int32.toInt tlen → WOk k wo → 0 ≤ Int32.toInt qlen → Int32.toInt qlen ≤ 200 → (1001 - Int32.toInt i).toNat < nn → ∀ (H : Heap) (locs : List Loc) (ls : Array Slot), va_P (dC, dI) cls (WE h g len fp many tlen tat qlen md gat kind (.ref (k wi)) (.ref (k ti)) gs th st rq bl te og sc kd sr wo sa qb du) H → va_D A (WE h g len fp many tlen tat qlen md gat kind (.ref (k wi)) (.ref (k ti)) gs th st rq bl te og sc kd sr wo sa qb du) → va_S A s.heap H locs → lv_has ls 3 [(1, .int i), (0, .ref (h 2))] → W p l e ({ frames := 7, cells := 0, slots := 0, locals := 162 } : Room) s m args below meth c H locs 0 0 Q (F0 m 14 ls []) := by
  intro nn
  induction nn with
  | zero =>
    intro _ _ _ _ _ _ _ _ _ _ _ _ _ _ _ _ _ _ hm
    exact absurd hm (Nat.not_lt_zero _)
  | succ nn ih =>
    intro i many tat kd sr wo sa qlen qb v_0 v_1 v_2 v_3 v_4 v_5 v_6 v_7 v_8 hm H locs ls hP hD hS hl
    refine lv_iload_n hx hb d_T_scanQuoted_14 rfl (lv_at hl 0 rfl) ?_
    refine lv_aload_n hx hb d_T_scanQuoted_15 rfl (lv_at hl 1 rfl) ?_
    refine va_get (D := (dC, dI)) (ci := 1) (v := .int tlen) (C := "SieveDesk$Tokens") (T := F_T) (N := 9) hx hb ht i_T hown hK hP 2 rfl rfl 7 (by decide) (ht _ k_131) (fun _ h9 => h9) rfl d_T_scanQuoted_16 ?_
    refine lv_icmp_ge (tgt := 92) hx hb d_T_scanQuoted_19 (by decide) (fun c_1 => ?_) (fun c_1 => ?_)
    · have dc_1 := i_le c_1 rfl rfl
      refine lv_iconst (v := 0) hx hb d_T_scanQuoted_92 (by decide) ?_
      have hc_0 : Int32.toInt 0 = 0 := by decide
      exact fin 0 (many, tat, kd, sr, wo, sa, qlen, qb) _ _ _ ls d_T_scanQuoted_93 rfl ⟨(by (try dsimp only); omega), (by (try dsimp only); omega), (by (try dsimp only); omega), (by (try dsimp only); omega), v_6, (by (try dsimp only); omega), (by (try dsimp only); omega), rfl⟩ hP hD hS
    · have dc_1 := i_nle c_1 rfl rfl
      refine lv_aload_n hx hb d_T_scanQuoted_22 rfl (lv_at hl 1 rfl) ?_
      refine lv_iload_n hx hb d_T_scanQuoted_23 rfl (lv_at hl 0 rfl) ?_
      have hFc := va_free (wc := (WE h g len fp many tlen tat qlen md gat kind (.ref (k wi)) (.ref (k ti)) gs th st rq bl te og sc kd sr wo sa qb du)) hD hS hA [0, 1, 2, 3, 4, 5, 6, 7, 8, 9, 10] rfl
      refine va_calli (va_runV (As := [.int i]) (rest := []) ⟨hx, hb, hml, hown, ht⟩ (c_T_byteAt l dC dI k h g len fp many tlen tat qlen md gat kind gs th st rq bl te og wi ti sc kd sr sa qb du wo i _  ) (cwV 1 ht (g_V k_239 k_241 k_2 k_75 k_242) rfl rfl rfl (by decide +kernel) ⟨(Nat.le_of_ble_eq_true rfl), (Nat.le_of_ble_eq_true rfl)⟩) ⟨fb_X, va_recv hK hP (ci := 1) (q0 := 2) rfl rfl, pre_X hE hS hFc hP hK hD⟩ rfl rfl hl.1 rfl (lv_room (Nat.le_of_ble_eq_true rfl)) d_T_scanQuoted_24 ⟨(Nat.le_of_ble_eq_true rfl), (Nat.le_of_ble_eq_true rfl)⟩) hS (fun q _ h9 => hFc q h9) hFc (fun r_3 u_2 t H locs het hvm hw hB hz1 hk1 hS => ?_)
      obtain ⟨p_4, p_5, p_6⟩ := hw
      obtain ⟨hP1, hK1, hD1⟩ := hB
      rw [het] at hP1
      have hP : va_P (dC, dI) cls (WE h g len fp many tlen tat qlen md gat kind (.ref (k wi)) (.ref (k ti)) gs th st rq bl te og sc kd sr wo sa qb du) H := hP1
      have hD : va_D A (WE h g len fp many tlen tat qlen md gat kind (.ref (k wi)) (.ref (k ti)) gs th st rq bl te og sc kd sr wo sa qb du) := hD1.weaken (fun _ _ _ h9 => hFc _ h9)
      refine lv_istore_n (lv' := [(2, .int r_3), (1, .int i), (0, .ref (h 2))]) hx hb d_T_scanQuoted_27 rfl hl (by decide) rfl (fun ls hl => ?_)
      refine lv_iload_n hx hb d_T_scanQuoted_28 rfl (lv_at hl 0 rfl) ?_
      refine lv_bipush (v := 34) hx hb d_T_scanQuoted_29 (by decide) ?_
      refine lv_icmp_ne (tgt := 54) hx hb d_T_scanQuoted_31 (by decide) (fun c_7 => ?_) (fun c_7 => ?_)
      · have dc_7 := i_ne c_7 rfl (show Int32.toInt 34 = 34 by decide)
        refine lv_iload_n hx hb d_T_scanQuoted_54 rfl (lv_at hl 0 rfl) ?_
        refine lv_bipush (v := 92) hx hb d_T_scanQuoted_55 (by decide) ?_
        refine lv_icmp_ne (tgt := 69) hx hb d_T_scanQuoted_57 (by decide) (fun c_8 => ?_) (fun c_8 => ?_)
        · have dc_8 := i_ne c_8 rfl (show Int32.toInt 92 = 92 by decide)
          refine lv_iload_n hx hb d_T_scanQuoted_69 rfl (lv_at hl 0 rfl) ?_
          refine lv_if_lt (tgt := 84) hx hb d_T_scanQuoted_70 (by decide) (fun c_9 => ?_) (fun c_9 => ?_)
          · have dc_9 := i_lt c_9 rfl (show Int32.toInt 0 = 0 by decide)
            refine lv_iconst (v := 0) hx hb d_T_scanQuoted_84 (by decide) ?_
            have hc_0 : Int32.toInt 0 = 0 := by decide
            exact fin 0 (many, tat, kd, sr, wo, sa, qlen, qb) _ _ _ ls d_T_scanQuoted_85 rfl ⟨(by (try dsimp only); omega), (by (try dsimp only); omega), (by (try dsimp only); omega), (by (try dsimp only); omega), v_6, (by (try dsimp only); omega), (by (try dsimp only); omega), rfl⟩ hP hD hS
          · have dc_9 := i_nlt c_9 rfl (show Int32.toInt 0 = 0 by decide)
            refine lv_aload_n hx hb d_T_scanQuoted_73 rfl (lv_at hl 2 rfl) ?_
            refine va_get (D := (dC, dI)) (ci := 1) (v := .ref (h 7)) (C := "SieveDesk$Tokens") (T := F_T) (N := 9) hx hb ht i_T hown hK hP 2 rfl rfl 5 (by decide) (ht _ k_128) (fun _ h9 => h9) rfl d_T_scanQuoted_74 ?_
            refine lv_iload_n hx hb d_T_scanQuoted_77 rfl (lv_at hl 0 rfl) ?_
            have hFc := va_free (wc := (WE h g len fp many tlen tat qlen md gat kind (.ref (k wi)) (.ref (k ti)) gs th st rq bl te og sc kd sr wo sa qb du)) hD hS hA [0, 1, 2, 3, 4, 5, 6, 7, 8, 9, 10] rfl
            refine va_calli (va_runVN (As := [.int r_3]) (rest := []) ⟨hx, hb, hml, hown, ht⟩ (c_Q_add l dC dI k h g len fp many tlen tat qlen md gat kind gs th st rq bl te og wi ti sc kd sr sa qb du wo r_3 _  (by omega) (by omega)) ⟨va_cnB 1 ht (g_C k_459) rfl rfl rfl (hE.1 _ n_456) (ht _ k_76) (by decide +kernel) ⟨(Nat.le_of_ble_eq_true rfl), (Nat.le_of_ble_eq_true rfl)⟩, (ht _ k_458), (ht _ k_19)⟩ ⟨fb_X, va_recv hK hP (ci := 2) (q0 := 7) rfl rfl, pre_X hE hS hFc hP hK hD⟩ rfl rfl hl.1 rfl (lv_room (Nat.le_of_ble_eq_true rfl)) d_T_scanQuoted_78 ⟨(Nat.le_of_ble_eq_true rfl), (Nat.le_of_ble_eq_true rfl)⟩) hS (fun q _ h9 => hFc q h9) hFc (fun r_13 u_12 t H locs het hvm hw hB hz1 hk1 hS => ?_)
            obtain ⟨qlen_10, qb_11⟩ := u_12
            try dsimp only at hw
            obtain ⟨p_14, p_15, p_16⟩ := hw
            obtain ⟨hP1, hK1, hD1⟩ := hB
            rw [het] at hP1
            have hP : va_P (dC, dI) cls (WE h g len fp many tlen tat qlen_10 md gat kind (.ref (k wi)) (.ref (k ti)) gs th st rq bl te og sc kd sr wo sa qb_11 du) H := hP1
            have hD : va_D A (WE h g len fp many tlen tat qlen_10 md gat kind (.ref (k wi)) (.ref (k ti)) gs th st rq bl te og sc kd sr wo sa qb_11 du) := hD1.weaken (fun _ _ _ h9 => hFc _ h9)
            refine lv_if_ne (tgt := 86) hx hb d_T_scanQuoted_81 (by decide) (fun c_17 => ?_) (fun c_17 => ?_)
            · refine lv_iinc (v := (i + 1)) (lv' := [(1, .int (i + 1)), (2, .int r_3), (0, .ref (h 2))]) hx hb d_T_scanQuoted_86 hl (k := 1) rfl rfl (by decide) rfl (fun ls hl => ?_)
              have e_18 : Int32.toInt (i + 1) = (Int32.toInt i) + 1 := i_add rfl (show Int32.toInt 1 = 1 by decide) (by omega) (by omega)
              refine lv_goto (tgt := 14) hx hb d_T_scanQuoted_89 (by decide) ?_
              exact ih (i + 1) many tat kd sr wo sa qlen_10 qb_11 (by omega) (by omega) (by omega) (by omega) (by omega) (by omega) v_6 (by omega) (by omega) (by omega) _ _ ls hP hD hS (lv_sub hl [0, 2] rfl)
            · refine lv_iconst (v := 0) hx hb d_T_scanQuoted_84 (by decide) ?_
              have hc_0 : Int32.toInt 0 = 0 := by decide
              exact fin 0 (many, tat, kd, sr, wo, sa, qlen_10, qb_11) _ _ _ ls d_T_scanQuoted_85 rfl ⟨(by (try dsimp only); omega), (by (try dsimp only); omega), (by (try dsimp only); omega), (by (try dsimp only); omega), v_6, (by (try dsimp only); omega), (by (try dsimp only); omega), rfl⟩ hP hD hS
        · have dc_8 := i_eq c_8 rfl (show Int32.toInt 92 = 92 by decide)
          refine lv_iinc (v := (i + 1)) (lv' := [(1, .int (i + 1)), (2, .int r_3), (0, .ref (h 2))]) hx hb d_T_scanQuoted_60 hl (k := 1) rfl rfl (by decide) rfl (fun ls hl => ?_)
          have e_19 : Int32.toInt (i + 1) = (Int32.toInt i) + 1 := i_add rfl (show Int32.toInt 1 = 1 by decide) (by omega) (by omega)
          refine lv_aload_n hx hb d_T_scanQuoted_63 rfl (lv_at hl 2 rfl) ?_
          refine lv_iload_n hx hb d_T_scanQuoted_64 rfl (lv_at hl 0 rfl) ?_
          have hFc := va_free (wc := (WE h g len fp many tlen tat qlen md gat kind (.ref (k wi)) (.ref (k ti)) gs th st rq bl te og sc kd sr wo sa qb du)) hD hS hA [0, 1, 2, 3, 4, 5, 6, 7, 8, 9, 10] rfl
          refine va_calli (va_runV (As := [.int (i + 1)]) (rest := []) ⟨hx, hb, hml, hown, ht⟩ (c_T_byteAt l dC dI k h g len fp many tlen tat qlen md gat kind gs th st rq bl te og wi ti sc kd sr sa qb du wo (i + 1) _  ) (cwV 1 ht (g_V k_239 k_241 k_2 k_75 k_242) rfl rfl rfl (by decide +kernel) ⟨(Nat.le_of_ble_eq_true rfl), (Nat.le_of_ble_eq_true rfl)⟩) ⟨fb_X, va_recv hK hP (ci := 1) (q0 := 2) rfl rfl, pre_X hE hS hFc hP hK hD⟩ rfl rfl hl.1 rfl (lv_room (Nat.le_of_ble_eq_true rfl)) d_T_scanQuoted_65 ⟨(Nat.le_of_ble_eq_true rfl), (Nat.le_of_ble_eq_true rfl)⟩) hS (fun q _ h9 => hFc q h9) hFc (fun r_21 u_20 t H locs het hvm hw hB hz1 hk1 hS => ?_)
          obtain ⟨p_22, p_23, p_24⟩ := hw
          obtain ⟨hP1, hK1, hD1⟩ := hB
          rw [het] at hP1
          have hP : va_P (dC, dI) cls (WE h g len fp many tlen tat qlen md gat kind (.ref (k wi)) (.ref (k ti)) gs th st rq bl te og sc kd sr wo sa qb du) H := hP1
          have hD : va_D A (WE h g len fp many tlen tat qlen md gat kind (.ref (k wi)) (.ref (k ti)) gs th st rq bl te og sc kd sr wo sa qb du) := hD1.weaken (fun _ _ _ h9 => hFc _ h9)
          refine lv_istore_n (lv' := [(2, .int r_21), (1, .int (i + 1)), (0, .ref (h 2))]) hx hb d_T_scanQuoted_68 rfl hl (by decide) rfl (fun ls hl => ?_)
          refine lv_iload_n hx hb d_T_scanQuoted_69 rfl (lv_at hl 0 rfl) ?_
          refine lv_if_lt (tgt := 84) hx hb d_T_scanQuoted_70 (by decide) (fun c_25 => ?_) (fun c_25 => ?_)
          · have dc_25 := i_lt c_25 rfl (show Int32.toInt 0 = 0 by decide)
            refine lv_iconst (v := 0) hx hb d_T_scanQuoted_84 (by decide) ?_
            have hc_0 : Int32.toInt 0 = 0 := by decide
            exact fin 0 (many, tat, kd, sr, wo, sa, qlen, qb) _ _ _ ls d_T_scanQuoted_85 rfl ⟨(by (try dsimp only); omega), (by (try dsimp only); omega), (by (try dsimp only); omega), (by (try dsimp only); omega), v_6, (by (try dsimp only); omega), (by (try dsimp only); omega), rfl⟩ hP hD hS
          · have dc_25 := i_nlt c_25 rfl (show Int32.toInt 0 = 0 by decide)
            refine lv_aload_n hx hb d_T_scanQuoted_73 rfl (lv_at hl 2 rfl) ?_
            refine va_get (D := (dC, dI)) (ci := 1) (v := .ref (h 7)) (C := "SieveDesk$Tokens") (T := F_T) (N := 9) hx hb ht i_T hown hK hP 2 rfl rfl 5 (by decide) (ht _ k_128) (fun _ h9 => h9) rfl d_T_scanQuoted_74 ?_
            refine lv_iload_n hx hb d_T_scanQuoted_77 rfl (lv_at hl 0 rfl) ?_
            have hFc := va_free (wc := (WE h g len fp many tlen tat qlen md gat kind (.ref (k wi)) (.ref (k ti)) gs th st rq bl te og sc kd sr wo sa qb du)) hD hS hA [0, 1, 2, 3, 4, 5, 6, 7, 8, 9, 10] rfl
            refine va_calli (va_runVN (As := [.int r_21]) (rest := []) ⟨hx, hb, hml, hown, ht⟩ (c_Q_add l dC dI k h g len fp many tlen tat qlen md gat kind gs th st rq bl te og wi ti sc kd sr sa qb du wo r_21 _  (by omega) (by omega)) ⟨va_cnB 1 ht (g_C k_459) rfl rfl rfl (hE.1 _ n_456) (ht _ k_76) (by decide +kernel) ⟨(Nat.le_of_ble_eq_true rfl), (Nat.le_of_ble_eq_true rfl)⟩, (ht _ k_458), (ht _ k_19)⟩ ⟨fb_X, va_recv hK hP (ci := 2) (q0 := 7) rfl rfl, pre_X hE hS hFc hP hK hD⟩ rfl rfl hl.1 rfl (lv_room (Nat.le_of_ble_eq_true rfl)) d_T_scanQuoted_78 ⟨(Nat.le_of_ble_eq_true rfl), (Nat.le_of_ble_eq_true rfl)⟩) hS (fun q _ h9 => hFc q h9) hFc (fun r_29 u_28 t H locs het hvm hw hB hz1 hk1 hS => ?_)
            obtain ⟨qlen_26, qb_27⟩ := u_28
            try dsimp only at hw
            obtain ⟨p_30, p_31, p_32⟩ := hw
            obtain ⟨hP1, hK1, hD1⟩ := hB
            rw [het] at hP1
            have hP : va_P (dC, dI) cls (WE h g len fp many tlen tat qlen_26 md gat kind (.ref (k wi)) (.ref (k ti)) gs th st rq bl te og sc kd sr wo sa qb_27 du) H := hP1
            have hD : va_D A (WE h g len fp many tlen tat qlen_26 md gat kind (.ref (k wi)) (.ref (k ti)) gs th st rq bl te og sc kd sr wo sa qb_27 du) := hD1.weaken (fun _ _ _ h9 => hFc _ h9)
            refine lv_if_ne (tgt := 86) hx hb d_T_scanQuoted_81 (by decide) (fun c_33 => ?_) (fun c_33 => ?_)
            · refine lv_iinc (v := ((i + 1) + 1)) (lv' := [(1, .int ((i + 1) + 1)), (2, .int r_21), (0, .ref (h 2))]) hx hb d_T_scanQuoted_86 hl (k := 1) rfl rfl (by decide) rfl (fun ls hl => ?_)
              have e_34 : Int32.toInt ((i + 1) + 1) = ((Int32.toInt i) + 1) + 1 := i_add e_19 (show Int32.toInt 1 = 1 by decide) (by omega) (by omega)
              refine lv_goto (tgt := 14) hx hb d_T_scanQuoted_89 (by decide) ?_
              exact ih ((i + 1) + 1) many tat kd sr wo sa qlen_26 qb_27 (by omega) (by omega) (by omega) (by omega) (by omega) (by omega) v_6 (by omega) (by omega) (by omega) _ _ ls hP hD hS (lv_sub hl [0, 2] rfl)
            · refine lv_iconst (v := 0) hx hb d_T_scanQuoted_84 (by decide) ?_
              have hc_0 : Int32.toInt 0 = 0 := by decide
              exact fin 0 (many, tat, kd, sr, wo, sa, qlen_26, qb_27) _ _ _ ls d_T_scanQuoted_85 rfl ⟨(by (try dsimp only); omega), (by (try dsimp only); omega), (by (try dsimp only); omega), (by (try dsimp only); omega), v_6, (by (try dsimp only); omega), (by (try dsimp only); omega), rfl⟩ hP hD hS
      · have dc_7 := i_eq c_7 rfl (show Int32.toInt 34 = 34 by decide)
        refine lv_aload_n hx hb d_T_scanQuoted_34 rfl (lv_at hl 2 rfl) ?_
        refine lv_iconst (v := 4) hx hb d_T_scanQuoted_35 (by decide) ?_
        refine va_gets hx hb (ke_W_NONE hE) hS hown (ht _ k_251) (fun _ h9 => h9) d_T_scanQuoted_36 ?_
        refine lv_aload_n hx hb d_T_scanQuoted_39 rfl (lv_at hl 2 rfl) ?_
        refine va_get (D := (dC, dI)) (ci := 1) (v := .ref (h 7)) (C := "SieveDesk$Tokens") (T := F_T) (N := 9) hx hb ht i_T hown hK hP 2 rfl rfl 5 (by decide) (ht _ k_128) (fun _ h9 => h9) rfl d_T_scanQuoted_40 ?_
        have hFc := va_free (wc := (WE h g len fp many tlen tat qlen md gat kind (.ref (k wi)) (.ref (k ti)) gs th st rq bl te og sc kd sr wo sa qb du)) hD hS hA [0, 1, 2, 3, 4, 5, 6, 7, 8, 9, 10] rfl
        refine va_calli (va_runVN (As := []) (rest := [.ref (k 0), .int 4, .ref (h 2)]) ⟨hx, hb, hml, hown, ht⟩ (c_Q_says l dC dI k h g len fp many tlen tat qlen md gat kind gs th st rq bl te og wi ti sc kd sr sa qb du wo  _ (by omega) (by omega) ) ⟨va_cnB 0 ht (g_C k_377) rfl rfl rfl (hE.1 _ n_374) (ht _ k_76) (by decide +kernel) ⟨(Nat.le_of_ble_eq_true rfl), (Nat.le_of_ble_eq_true rfl)⟩, (ht _ k_376), (ht _ k_15)⟩ ⟨fb_X, va_recv hK hP (ci := 2) (q0 := 7) rfl rfl, pre_X hE hS hFc hP hK hD⟩ rfl rfl hl.1 rfl (lv_room (Nat.le_of_ble_eq_true rfl)) d_T_scanQuoted_43 ⟨(Nat.le_of_ble_eq_true rfl), (Nat.le_of_ble_eq_true rfl)⟩) hS (fun q _ h9 => hFc q h9) hFc (fun r_36 u_35 t H locs het hvm hw hB hz1 hk1 hS => ?_)
        obtain ⟨hP1, hK1, hD1⟩ := hB
        rw [het] at hP1
        have hP : va_P (dC, dI) cls (WE h g len fp many tlen tat qlen md gat kind (.ref (k wi)) (.ref (k ti)) gs th st rq bl te og sc kd sr wo sa qb du) H := hP1
        have hD : va_D A (WE h g len fp many tlen tat qlen md gat kind (.ref (k wi)) (.ref (k ti)) gs th st rq bl te og sc kd sr wo sa qb du) := hD1.weaken (fun _ _ _ h9 => hFc _ h9)
        refine lv_iload_n hx hb d_T_scanQuoted_46 rfl (lv_at hl 1 rfl) ?_
        refine lv_iconst (v := 1) hx hb d_T_scanQuoted_47 (by decide) ?_
        refine lv_iadd hx hb d_T_scanQuoted_48 ?_
        have e_37 : Int32.toInt (i + 1) = (Int32.toInt i) + 1 := i_add rfl (show Int32.toInt 1 = 1 by decide) (by omega) (by omega)
        have hc_4 : Int32.toInt 4 = 4 := by decide
        have hFc := va_free (wc := (WE h g len fp many tlen tat qlen md gat kind (.ref (k wi)) (.ref (k ti)) gs th st rq bl te og sc kd sr wo sa qb du)) hD hS hA [0, 1, 2, 3, 4, 5, 6, 7, 8, 9, 10] rfl
        refine va_callv (va_runV (As := [.int 4, .ref (k 0), .int r_36, .int (i + 1)]) (rest := []) ⟨hx, hb, hml, hown, ht⟩ (c_T_add l dC dI k h g len fp many tlen tat qlen md gat kind gs th st rq bl te og wi ti sc kd sr sa qb du wo 4 0 r_36 (i + 1) _ (by omega) (by omega) (by omega) (by omega) (by omega) (by omega) (by omega) (by omega) (by omega) v_6) (cwV 4 ht (g_V k_252 k_254 k_5 k_75 k_255) rfl rfl rfl (by decide +kernel) ⟨(Nat.le_of_ble_eq_true rfl), (Nat.le_of_ble_eq_true rfl)⟩) ⟨fb_X, va_recv hK hP (ci := 1) (q0 := 2) rfl rfl, pre_X hE hS hFc hP hK hD⟩ rfl rfl hl.1 rfl (lv_room (Nat.le_of_ble_eq_true rfl)) d_T_scanQuoted_49 ⟨(Nat.le_of_ble_eq_true rfl), (Nat.le_of_ble_eq_true rfl)⟩) hS (fun q _ h9 => hFc q h9) hFc (fun u_44 t H locs het hvm hw hB hz1 hk1 hS => ?_)
        obtain ⟨many_38, tat_39, kd_40, sr_41, wo_42, sa_43⟩ := u_44
        try dsimp only at hw
        obtain ⟨p_46, p_47, p_48, p_49, p_50⟩ := hw
        obtain ⟨hP1, hK1, hD1⟩ := hB
        rw [het] at hP1
        have hP : va_P (dC, dI) cls (WE h g len fp many_38 tlen tat_39 qlen md gat kind (.ref (k wi)) (.ref (k ti)) gs th st rq bl te og sc kd_40 sr_41 wo_42 sa_43 qb du) H := hP1
        have hD : va_D A (WE h g len fp many_38 tlen tat_39 qlen md gat kind (.ref (k wi)) (.ref (k ti)) gs th st rq bl te og sc kd_40 sr_41 wo_42 sa_43 qb du) := hD1.weaken (fun _ _ _ h9 => hFc _ h9)
        refine lv_iconst (v := 1) hx hb d_T_scanQuoted_52 (by decide) ?_
        have hc_1 : Int32.toInt 1 = 1 := by decide
        exact fin 1 (many_38, tat_39, kd_40, sr_41, wo_42, sa_43, qlen, qb) _ _ _ ls d_T_scanQuoted_53 rfl ⟨(by (try dsimp only); omega), (by (try dsimp only); omega), (by (try dsimp only); omega), (by (try dsimp only); omega), p_50, (by (try dsimp only); omega), (by (try dsimp only); omega), rfl⟩ hP hD hS
set_option maxHeartbeats 4000000 in
set_option maxRecDepth 100000 in
theorem bd_T_scanQuoted_0 {p : Program} {l : Launch} {e : Env} {s : State} {m : MethodId} {args : Array Value} {below : List Frame} {meth : Method} {c : Code} {Q : State → Prop} {A : Nat → Prop} {dC : Nat → ClassId} {dI : Nat → Nat → Nat} {k h : Nat → Nat} {g : Nat → ClassId} {len : Int32} {fp : Int32} {tlen : Int32} {md : Int32} {gat : Int32} {kind : Int32} {gs : Int32} {th : Int32} {st : Int32} {rq : Int32} {bl : Int32} {te : Int32} {og : Int32} {wi : Nat} {ti : Nat} {sc : Nat → Int32} {du : Nat → Int32} (hx : p.tables.exec = Jvm.exec) (hb : c.code = b_T_scanQuoted) (hml : c.maxLocals = 3) (hown : s.vm.findClass "SieveDesk$Tokens" = some m.cls) (ht : ∀ w ∈ TT, w.before args s = true) (hE : KE k A s s.heap) (hA : ∀ q : Nat, s.heap.size ≤ q → A q) (hK : va_K (dC, dI) cls (TE g) s)  (h_0 : 0 ≤ Int32.toInt tlen) (h_1 : Int32.toInt tlen ≤ 400) (fin : ∀ (r : Int32) (u : Int32 × Int32 × (Nat → Int32) × (Nat → Int32) × (Nat → Option Nat) × (Nat → Int32) × Int32 × (Nat → Int32)) (H : Heap) (locs : List Loc) (pc : Nat) (ls : Array Slot), decode b_T_scanQuoted pc = .ok (.ireturn, 1) → narrow .boolean (.int r) = .int r → (0 ≤ Int32.toInt u.1 ∧ Int32.toInt u.1 ≤ 401 ∧ 0 ≤ Int32.toInt u.2.1 ∧ Int32.toInt u.2.1 ≤ Int32.toInt tlen ∧ WOk k u.2.2.2.2.1 ∧ 0 ≤ Int32.toInt u.2.2.2.2.2.2.1 ∧ Int32.toInt u.2.2.2.2.2.2.1 ≤ 200 ∧ narrow .boolean (.int r) = .int r) → va_P (dC, dI) cls (WE h g len fp u.1 tlen u.2.1 u.2.2.2.2.2.2.1 md gat kind (.ref (k wi)) (.ref (k ti)) gs th st rq bl te og sc u.2.2.1 u.2.2.2.1 u.2.2.2.2.1 u.2.2.2.2.2.1 u.2.2.2.2.2.2.2 du) H → va_D A (WE h g len fp u.1 tlen u.2.1 u.2.2.2.2.2.2.1 md gat kind (.ref (k wi)) (.ref (k ti)) gs th st rq bl te og sc u.2.2.1 u.2.2.2.1 u.2.2.2.2.1 u.2.2.2.2.2.1 u.2.2.2.2.2.2.2 du) → va_S A s.heap H locs → W p l e ({ frames := 7, cells := 0, slots := 0, locals := 162 } : Room) s m args below meth c H locs 0 0 Q (F0 m pc ls [.int r])) : ∀ (many : Int32) (tat : Int32) (kd : Nat → Int32) (sr : Nat → Int32) (wo : Nat → Option Nat) (sa : Nat → Int32) (qlen : Int32) (qb : Nat → Int32), 0 ≤ Int32.toInt many → Int32.toInt many ≤ 401 → 0 ≤ Int32.toInt tat → Int32.toInt tat ≤ Int32.toInt tlen → WOk k wo → 0 ≤ Int32.toInt qlen → Int32.toInt qlen ≤ 200 → ∀ (H : Heap) (locs : List Loc) (ls : Array Slot), va_P (dC, dI) cls (WE h g len fp many tlen tat qlen md gat kind (.ref (k wi)) (.ref (k ti)) gs th st rq bl te og sc kd sr wo sa qb du) H → va_D A (WE h g len fp many tlen tat qlen md gat kind (.ref (k wi)) (.ref (k ti)) gs th st rq bl te og sc kd sr wo sa qb du) → va_S A s.heap H locs → lv_has ls 3 [(0, .ref (h 2))] → W p l e ({ frames := 7, cells := 0, slots := 0, locals := 162 } : Room) s m args below meth c H locs 0 0 Q (F0 m 0 ls []) := by
  intro many tat kd sr wo sa qlen qb v_0 v_1 v_2 v_3 v_4 v_5 v_6 H locs ls hP hD hS hl
  refine lv_aload_n hx hb d_T_scanQuoted_0 rfl (lv_at hl 0 rfl) ?_
  refine va_get (D := (dC, dI)) (ci := 1) (v := .ref (h 7)) (C := "SieveDesk$Tokens") (T := F_T) (N := 9) hx hb ht i_T hown hK hP 2 rfl rfl 5 (by decide) (ht _ k_128) (fun _ h9 => h9) rfl d_T_scanQuoted_1 ?_
  have hFc := va_free (wc := (WE h g len fp many tlen tat qlen md gat kind (.ref (k wi)) (.ref (k ti)) gs th st rq bl te og sc kd sr wo sa qb du)) hD hS hA [0, 1, 2, 3, 4, 5, 6, 7, 8, 9, 10] rfl
  refine va_callv (va_runVN (As := []) (rest := []) ⟨hx, hb, hml, hown, ht⟩ (c_Q_empty l dC dI k h g len fp many tlen tat qlen md gat kind gs th st rq bl te og wi ti sc kd sr sa qb du wo  _  ) ⟨va_cnB 0 ht (g_C k_373) rfl rfl rfl (hE.1 _ n_370) (ht _ k_76) (by decide +kernel) ⟨(Nat.le_of_ble_eq_true rfl), (Nat.le_of_ble_eq_true rfl)⟩, (ht _ k_372), (ht _ k_14)⟩ ⟨fb_X, va_recv hK hP (ci := 2) (q0 := 7) rfl rfl, pre_X hE hS hFc hP hK hD⟩ rfl rfl hl.1 rfl (lv_room (Nat.le_of_ble_eq_true rfl)) d_T_scanQuoted_4 ⟨(Nat.le_of_ble_eq_true rfl), (Nat.le_of_ble_eq_true rfl)⟩) hS (fun q _ h9 => hFc q h9) hFc (fun qlen_51 t H locs het hvm hw hB hz1 hk1 hS => ?_)
  obtain ⟨p_53, p_54, p_55⟩ := hw
  obtain ⟨hP1, hK1, hD1⟩ := hB
  rw [het] at hP1
  have hP : va_P (dC, dI) cls (WE h g len fp many tlen tat qlen_51 md gat kind (.ref (k wi)) (.ref (k ti)) gs th st rq bl te og sc kd sr wo sa qb du) H := hP1
  have hD : va_D A (WE h g len fp many tlen tat qlen_51 md gat kind (.ref (k wi)) (.ref (k ti)) gs th st rq bl te og sc kd sr wo sa qb du) := hD1.weaken (fun _ _ _ h9 => hFc _ h9)
  refine lv_aload_n hx hb d_T_scanQuoted_7 rfl (lv_at hl 0 rfl) ?_
  refine va_get (D := (dC, dI)) (ci := 1) (v := .int tat) (C := "SieveDesk$Tokens") (T := F_T) (N := 9) hx hb ht i_T hown hK hP 2 rfl rfl 8 (by decide) (ht _ k_132) (fun _ h9 => h9) rfl d_T_scanQuoted_8 ?_
  refine lv_iconst (v := 1) hx hb d_T_scanQuoted_11 (by decide) ?_
  refine lv_iadd hx hb d_T_scanQuoted_12 ?_
  have e_56 : Int32.toInt (tat + 1) = (Int32.toInt tat) + 1 := i_add rfl (show Int32.toInt 1 = 1 by decide) (by omega) (by omega)
  refine lv_istore_n (lv' := [(1, .int (tat + 1)), (0, .ref (h 2))]) hx hb d_T_scanQuoted_13 rfl hl (by decide) rfl (fun ls hl => ?_)
  exact (lp_T_scanQuoted_14  hx hb hml hown ht hE hA hK h_0 h_1 fin _) (tat + 1) many tat kd sr wo sa qlen_51 qb (by omega) (by omega) (by omega) (by omega) (by omega) (by omega) v_4 (by omega) (by omega) (Nat.lt_succ_self _) _ _ ls hP hD hS (lv_sub hl [0, 1] rfl)
set_option maxHeartbeats 4000000 in
set_option maxRecDepth 100000 in
theorem c_T_scanQuoted (l : Launch) (dC : Nat → ClassId) (dI : Nat → Nat → Nat) (k : Nat → Nat) (h : Nat → Nat) (g : Nat → ClassId) (len : Int32) (fp : Int32) (many : Int32) (tlen : Int32) (tat : Int32) (qlen : Int32) (md : Int32) (gat : Int32) (kind : Int32) (gs : Int32) (th : Int32) (st : Int32) (rq : Int32) (bl : Int32) (te : Int32) (og : Int32) (wi : Nat) (ti : Nat) (sc : Nat → Int32) (kd : Nat → Int32) (sr : Nat → Int32) (sa : Nat → Int32) (qb : Nat → Int32) (du : Nat → Int32) (wo : Nat → Option Nat)  (sz : Nat) (h_0 : 0 ≤ Int32.toInt tlen) (h_1 : Int32.toInt tlen ≤ 400) (v_0 : 0 ≤ Int32.toInt many) (v_1 : Int32.toInt many ≤ 401) (v_2 : 0 ≤ Int32.toInt tat) (v_3 : Int32.toInt tat ≤ Int32.toInt tlen) (v_4 : WOk k wo) (v_5 : 0 ≤ Int32.toInt qlen) (v_6 : Int32.toInt qlen ≤ 200) : Met l y_T_scanQuoted (.code y_T_scanQuoted b_T_scanQuoted 3 (some .boolean) :: TT) ({ frames := 7, cells := 0, slots := 0, locals := 162 }) (va_Pc [.ref (h 2)] (PX dC dI k (TE g) (WE h g len fp many tlen tat qlen md gat kind (.ref (k wi)) (.ref (k ti)) gs th st rq bl te og sc kd sr wo sa qb du) sz)) (va_Qi (fun (r : Int32) (u : Int32 × Int32 × (Nat → Int32) × (Nat → Int32) × (Nat → Option Nat) × (Nat → Int32) × Int32 × (Nat → Int32)) => 0 ≤ Int32.toInt u.1 ∧ Int32.toInt u.1 ≤ 401 ∧ 0 ≤ Int32.toInt u.2.1 ∧ Int32.toInt u.2.1 ≤ Int32.toInt tlen ∧ WOk k u.2.2.2.2.1 ∧ 0 ≤ Int32.toInt u.2.2.2.2.2.2.1 ∧ Int32.toInt u.2.2.2.2.2.2.1 ≤ 200 ∧ narrow .boolean (.int r) = .int r) (fun u t => BX dC dI (TE g) (va_A (WE h g len fp many tlen tat qlen md gat kind (.ref (k wi)) (.ref (k ti)) gs th st rq bl te og sc kd sr wo sa qb du) sz) (WE h g len fp u.1 tlen u.2.1 u.2.2.2.2.2.2.1 md gat kind (.ref (k wi)) (.ref (k ti)) gs th st rq bl te og sc u.2.2.1 u.2.2.2.1 u.2.2.2.2.1 u.2.2.2.2.2.1 u.2.2.2.2.2.2.2 du) t) (va_A (WE h g len fp many tlen tat qlen md gat kind (.ref (k wi)) (.ref (k ti)) gs th st rq bl te og sc kd sr wo sa qb du) sz)) 0 0 (va_A (WE h g len fp many tlen tat qlen md gat kind (.ref (k wi)) (.ref (k ti)) gs th st rq bl te og sc kd sr wo sa qb du) sz) := by
  refine Met.ofW (cc := b_T_scanQuoted) (maxL := 3) (ret := (some .boolean)) (by decide) rfl ?_
  intro p e s m args below meth c s₁ B hml hv
  obtain ⟨rfl, hsz, hE, hP, hK, hD0⟩ := hv
  have hx := B.exec
  have hb := B.bytes
  have hr := B.returns
  have ht : ∀ w ∈ TT, w.before _ s = true := fun w hw => atoms_spec (ws := .code y_T_scanQuoted b_T_scanQuoted 3 (some .boolean) :: TT) B.pre w (List.mem_cons_of_mem _ hw)
  have hown : s.vm.findClass "SieveDesk$Tokens" = some m.cls := findClass_of_methodNamed B.named
  have hlocks := B.notSynchronized
  subst hsz
  have hD := hD0.self (sz := s.heap.size)
  generalize hAe : va_A (WE h g len fp many tlen tat qlen md gat kind (.ref (k wi)) (.ref (k ti)) gs th st rq bl te og sc kd sr wo sa qb du) s.heap.size = A at hE hD ⊢
  have hA : ∀ q : Nat, s.heap.size ≤ q → A q := fun q h9 => by rw [← hAe]; exact Or.inr h9
  have hS : va_S A s.heap s.heap [] := va_S.rf
  have hl := lv_entry ([.ref (h 2)]) (n := 3) (Nat.le_of_ble_eq_true rfl)
  rw [lg_entry_eq]
  generalize (lg_sl ([.ref (h 2)]) ++ List.replicate (3 - (lg_sl ([.ref (h 2)])).length) Slot.unset).toArray = ls at hl ⊢
  have hl : lv_has ls 3 [(0, .ref (h 2))] := hl
  exact bd_T_scanQuoted_0  hx hb hml hown ht hE hA hK h_0 h_1 (fun r u H locs pc ls hd hn hp hP hD hS => W.zret hx hb hr hn (fun t het hW => ⟨⟨r, u, rfl, hp, by rw [het]; exact hP, va_K.moved hW.alike hK, hD⟩, hS.F het⟩) hS.2.2 hd) many tat kd sr wo sa qlen qb v_0 v_1 v_2 v_3 v_4 v_5 v_6 _ _ ls hP hD hS hl
set_option maxHeartbeats 4000000 in
set_option maxRecDepth 100000 in
theorem bd_T_scanToken_0 {p : Program} {l : Launch} {e : Env} {s : State} {m : MethodId} {args : Array Value} {below : List Frame} {meth : Method} {c : Code} {Q : State → Prop} {A : Nat → Prop} {dC : Nat → ClassId} {dI : Nat → Nat → Nat} {k h : Nat → Nat} {g : Nat → ClassId} {len : Int32} {fp : Int32} {tlen : Int32} {md : Int32} {gat : Int32} {kind : Int32} {gs : Int32} {th : Int32} {st : Int32} {rq : Int32} {bl : Int32} {te : Int32} {og : Int32} {wi : Nat} {ti : Nat} {sc : Nat → Int32} {du : Nat → Int32} (hx : p.tables.exec = Jvm.exec) (hb : c.code = b_T_scanToken) (hml : c.maxLocals = 2) (hown : s.vm.findClass "SieveDesk$Tokens" = some m.cls) (ht : ∀ w ∈ TT, w.before args s = true) (hE : KE k A s s.heap) (hA : ∀ q : Nat, s.heap.size ≤ q → A q) (hK : va_K (dC, dI) cls (TE g) s)  (h_0 : 0 ≤ Int32.toInt tlen) (h_1 : Int32.toInt tlen ≤ 400) (fin : ∀ (r : Int32) (u : Int32 × Int32 × (Nat → Int32) × (Nat → Int32) × (Nat → Option Nat) × (Nat → Int32) × Int32 × (Nat → Int32)) (H : Heap) (locs : List Loc) (pc : Nat) (ls : Array Slot), decode b_T_scanToken pc = .ok (.ireturn, 1) → narrow .boolean (.int r) = .int r → (0 ≤ Int32.toInt u.1 ∧ Int32.toInt u.1 ≤ 401 ∧ 0 ≤ Int32.toInt u.2.1 ∧ Int32.toInt u.2.1 ≤ Int32.toInt tlen ∧ WOk k u.2.2.2.2.1 ∧ 0 ≤ Int32.toInt u.2.2.2.2.2.2.1 ∧ Int32.toInt u.2.2.2.2.2.2.1 ≤ 200 ∧ narrow .boolean (.int r) = .int r) → va_P (dC, dI) cls (WE h g len fp u.1 tlen u.2.1 u.2.2.2.2.2.2.1 md gat kind (.ref (k wi)) (.ref (k ti)) gs th st rq bl te og sc u.2.2.1 u.2.2.2.1 u.2.2.2.2.1 u.2.2.2.2.2.1 u.2.2.2.2.2.2.2 du) H → va_D A (WE h g len fp u.1 tlen u.2.1 u.2.2.2.2.2.2.1 md gat kind (.ref (k wi)) (.ref (k ti)) gs th st rq bl te og sc u.2.2.1 u.2.2.2.1 u.2.2.2.2.1 u.2.2.2.2.2.1 u.2.2.2.2.2.2.2 du) → va_S A s.heap H locs → W p l e ({ frames := 8, cells := 0, slots := 0, locals := 184 } : Room) s m args below meth c H locs 0 0 Q (F0 m pc ls [.int r])) : ∀ (many : Int32) (tat : Int32) (kd : Nat → Int32) (sr : Nat → Int32) (wo : Nat → Option Nat) (sa : Nat → Int32) (qlen : Int32) (qb : Nat → Int32), 0 ≤ Int32.toInt many → Int32.toInt many ≤ 401 → 0 ≤ Int32.toInt tat → Int32.toInt tat ≤ Int32.toInt tlen → WOk k wo → 0 ≤ Int32.toInt qlen → Int32.toInt qlen ≤ 200 → ∀ (H : Heap) (locs : List Loc) (ls : Array Slot), va_P (dC, dI) cls (WE h g len fp many tlen tat qlen md gat kind (.ref (k wi)) (.ref (k ti)) gs th st rq bl te og sc kd sr wo sa qb du) H → va_D A (WE h g len fp many tlen tat qlen md gat kind (.ref (k wi)) (.ref (k ti)) gs th st rq bl te og sc kd sr wo sa qb du) → va_S A s.heap H locs → lv_has ls 2 [(0, .ref (h 2))] → W p l e ({ frames := 8, cells := 0, slots := 0, locals := 184 } : Room) s m args below meth c H locs 0 0 Q (F0 m 0 ls []) := by
  intro many tat kd sr wo sa qlen qb v_0 v_1 v_2 v_3 v_4 v_5 v_6 H locs ls hP hD hS hl
  refine lv_aload_n hx hb d_T_scanToken_0 rfl (lv_at hl 0 rfl) ?_
  refine lv_aload_n hx hb d_T_scanToken_1 rfl (lv_at hl 0 rfl) ?_
  refine va_get (D := (dC, dI)) (ci := 1) (v := .int tat) (C := "SieveDesk$Tokens") (T := F_T) (N := 9) hx hb ht i_T hown hK hP 2 rfl rfl 8 (by decide) (ht _ k_132) (fun _ h9 => h9) rfl d_T_scanToken_2 ?_
  have hFc := va_free (wc := (WE h g len fp many tlen tat qlen md gat kind (.ref (k wi)) (.ref (k ti)) gs th st rq bl te og sc kd sr wo sa qb du)) hD hS hA [0, 1, 2, 3, 4, 5, 6, 7, 8, 9, 10] rfl
  refine va_calli (va_runV (As := [.int tat]) (rest := []) ⟨hx, hb, hml, hown, ht⟩ (c_T_byteAt l dC dI k h g len fp many tlen tat qlen md gat kind gs th st rq bl te og wi ti sc kd sr sa qb du wo tat _  ) (cwV 1 ht (g_V k_239 k_241 k_2 k_75 k_242) rfl rfl rfl (by decide +kernel) ⟨(Nat.le_of_ble_eq_true rfl), (Nat.le_of_ble_eq_true rfl)⟩) ⟨fb_X, va_recv hK hP (ci := 1) (q0 := 2) rfl rfl, pre_X hE hS hFc hP hK hD⟩ rfl rfl hl.1 rfl (lv_room (Nat.le_of_ble_eq_true rfl)) d_T_scanToken_5 ⟨(Nat.le_of_ble_eq_true rfl), (Nat.le_of_ble_eq_true rfl)⟩) hS (fun q _ h9 => hFc q h9) hFc (fun r_2 u_1 t H locs het hvm hw hB hz1 hk1 hS => ?_)
  obtain ⟨p_3, p_4, p_5⟩ := hw
  obtain ⟨hP1, hK1, hD1⟩ := hB
  rw [het] at hP1
  have hP : va_P (dC, dI) cls (WE h g len fp many tlen tat qlen md gat kind (.ref (k wi)) (.ref (k ti)) gs th st rq bl te og sc kd sr wo sa qb du) H := hP1
  have hD : va_D A (WE h g len fp many tlen tat qlen md gat kind (.ref (k wi)) (.ref (k ti)) gs th st rq bl te og sc kd sr wo sa qb du) := hD1.weaken (fun _ _ _ h9 => hFc _ h9)
  refine lv_istore_n (lv' := [(1, .int r_2), (0, .ref (h 2))]) hx hb d_T_scanToken_8 rfl hl (by decide) rfl (fun ls hl => ?_)
  refine lv_iload_n hx hb d_T_scanToken_9 rfl (lv_at hl 0 rfl) ?_
  refine vp_callSi (cr_of (va_runSN (As := [.int r_2]) (rest := []) ⟨hx, hb, hml, hown, ht⟩ (c_S_startsWord l k r_2 ) ⟨va_cnB 1 ht (g_C k_262) rfl rfl rfl (hE.1 _ n_260) (ht _ k_74) (by decide +kernel) ⟨(Nat.le_of_ble_eq_true rfl), (Nat.le_of_ble_eq_true rfl)⟩, (ht _ k_261), trivial⟩ ⟨fb_J, pre_J hE hS⟩ rfl rfl hl.1 rfl (lv_room (Nat.le_of_ble_eq_true rfl)) d_T_scanToken_10 ⟨(Nat.le_of_ble_eq_true rfl), (Nat.le_of_ble_eq_true rfl)⟩)) (fun r_6 hw => ?_)
  obtain ⟨p_7, p_8⟩ := hw
  refine lv_if_eq (tgt := 21) hx hb d_T_scanToken_13 (by decide) (fun c_9 => ?_) (fun c_9 => ?_)
  · have dc_9 := i_eq c_9 rfl (show Int32.toInt 0 = 0 by decide)
    refine lv_iload_n hx hb d_T_scanToken_21 rfl (lv_at hl 0 rfl) ?_
    refine lv_bipush (v := 58) hx hb d_T_scanToken_22 (by decide) ?_
    refine lv_icmp_ne (tgt := 32) hx hb d_T_scanToken_24 (by decide) (fun c_10 => ?_) (fun c_10 => ?_)
    · have dc_10 := i_ne c_10 rfl (show Int32.toInt 58 = 58 by decide)
      refine lv_iload_n hx hb d_T_scanToken_32 rfl (lv_at hl 0 rfl) ?_
      refine vp_callSi (cr_of (va_runSN (As := [.int r_2]) (rest := []) ⟨hx, hb, hml, hown, ht⟩ (c_S_isDigit l k r_2 ) ⟨va_cnB 1 ht (g_C k_279) rfl rfl rfl (hE.1 _ n_351) (ht _ k_74) (by decide +kernel) ⟨(Nat.le_of_ble_eq_true rfl), (Nat.le_of_ble_eq_true rfl)⟩, (ht _ k_278), trivial⟩ ⟨fb_J, pre_J hE hS⟩ rfl rfl hl.1 rfl (lv_room (Nat.le_of_ble_eq_true rfl)) d_T_scanToken_33 ⟨(Nat.le_of_ble_eq_true rfl), (Nat.le_of_ble_eq_true rfl)⟩)) (fun r_11 hw => ?_)
      obtain ⟨p_12, p_13⟩ := hw
      refine lv_if_eq (tgt := 44) hx hb d_T_scanToken_36 (by decide) (fun c_14 => ?_) (fun c_14 => ?_)
      · have dc_14 := i_eq c_14 rfl (show Int32.toInt 0 = 0 by decide)
        refine lv_iload_n hx hb d_T_scanToken_44 rfl (lv_at hl 0 rfl) ?_
        refine lv_bipush (v := 34) hx hb d_T_scanToken_45 (by decide) ?_
        refine lv_icmp_ne (tgt := 55) hx hb d_T_scanToken_47 (by decide) (fun c_15 => ?_) (fun c_15 => ?_)
        · have dc_15 := i_ne c_15 rfl (show Int32.toInt 34 = 34 by decide)
          refine lv_iload_n hx hb d_T_scanToken_55 rfl (lv_at hl 0 rfl) ?_
          refine lv_if_lt (tgt := 69) hx hb d_T_scanToken_56 (by decide) (fun c_16 => ?_) (fun c_16 => ?_)
          · have dc_16 := i_lt c_16 rfl (show Int32.toInt 0 = 0 by decide)
            refine lv_iconst (v := 0) hx hb d_T_scanToken_69 (by decide) ?_
            have hc_0 : Int32.toInt 0 = 0 := by decide
            exact fin 0 (many, tat, kd, sr, wo, sa, qlen, qb) _ _ _ ls d_T_scanToken_70 rfl ⟨(by (try dsimp only); omega), (by (try dsimp only); omega), (by (try dsimp only); omega), (by (try dsimp only); omega), v_4, (by (try dsimp only); omega), (by (try dsimp only); omega), rfl⟩ hP hD hS
          · have dc_16 := i_nlt c_16 rfl (show Int32.toInt 0 = 0 by decide)
            refine va_ldcS hx hb hown (show vk_R "SieveDesk$Tokens" 92 ";,()[]{}" (k (100 + 113)) s from ke_l213 hE) d_T_scanToken_59 ?_
            refine lv_iload_n hx hb d_T_scanToken_61 rfl (lv_at hl 0 rfl) ?_
            refine lv_i2c (v := ((Int32.toUInt32 r_2 % 65536).toInt32)) hx hb d_T_scanToken_62 rfl ?_
            refine vp_callSi (W.runV (As := [.int ((Int32.toUInt32 r_2 % 65536).toInt32)]) (rest := []) ⟨hx, hb, hml, hown, ht⟩ (c_JS_indexOf0 l k 113 ((Int32.toUInt32 r_2 % 65536).toInt32) (by omega)) (cwV 1 ht (g_V k_461 k_394 k_395 k_81 k_396) rfl rfl rfl (by decide +kernel) ⟨(Nat.le_of_ble_eq_true rfl), (Nat.le_of_ble_eq_true rfl)⟩) ⟨fb_J, oo_recv (ke_s hE (i := 113) (by omega)).1 hS, pre_J hE hS⟩ rfl rfl hl.1 rfl (lv_room (Nat.le_of_ble_eq_true rfl)) d_T_scanToken_63 ⟨(Nat.le_of_ble_eq_true rfl), (Nat.le_of_ble_eq_true rfl)⟩) (fun r_17 hw => ?_)
            refine lv_if_ge (tgt := 71) hx hb d_T_scanToken_66 (by decide) (fun c_18 => ?_) (fun c_18 => ?_)
            · refine lv_aload_n hx hb d_T_scanToken_71 rfl (lv_at hl 1 rfl) ?_
              refine lv_iload_n hx hb d_T_scanToken_72 rfl (lv_at hl 0 rfl) ?_
              refine va_gets hx hb (ke_W_NONE hE) hS hown (ht _ k_251) (fun _ h9 => h9) d_T_scanToken_73 ?_
              refine lv_iconst (v := 0) hx hb d_T_scanToken_76 (by decide) ?_
              refine lv_aload_n hx hb d_T_scanToken_77 rfl (lv_at hl 1 rfl) ?_
              refine va_get (D := (dC, dI)) (ci := 1) (v := .int tat) (C := "SieveDesk$Tokens") (T := F_T) (N := 9) hx hb ht i_T hown hK hP 2 rfl rfl 8 (by decide) (ht _ k_132) (fun _ h9 => h9) rfl d_T_scanToken_78 ?_
              refine lv_iconst (v := 1) hx hb d_T_scanToken_81 (by decide) ?_
              refine lv_iadd hx hb d_T_scanToken_82 ?_
              have e_19 : Int32.toInt (tat + 1) = (Int32.toInt tat) + 1 := i_add rfl (show Int32.toInt 1 = 1 by decide) (by omega) (by omega)
              have hc_0 : Int32.toInt 0 = 0 := by decide
              have hFc := va_free (wc := (WE h g len fp many tlen tat qlen md gat kind (.ref (k wi)) (.ref (k ti)) gs th st rq bl te og sc kd sr wo sa qb du)) hD hS hA [0, 1, 2, 3, 4, 5, 6, 7, 8, 9, 10] rfl
              refine va_callv (va_runV (As := [.int r_2, .ref (k 0), .int 0, .int (tat + 1)]) (rest := []) ⟨hx, hb, hml, hown, ht⟩ (c_T_add l dC dI k h g len fp many tlen tat qlen md gat kind gs th st rq bl te og wi ti sc kd sr sa qb du wo r_2 0 0 (tat + 1) _ (by omega) (by omega) (by omega) (by omega) (by omega) (by omega) (by omega) (by omega) (by omega) v_4) (cwV 4 ht (g_V k_252 k_254 k_5 k_75 k_255) rfl rfl rfl (by decide +kernel) ⟨(Nat.le_of_ble_eq_true rfl), (Nat.le_of_ble_eq_true rfl)⟩) ⟨fb_X, va_recv hK hP (ci := 1) (q0 := 2) rfl rfl, pre_X hE hS hFc hP hK hD⟩ rfl rfl hl.1 rfl (lv_room (Nat.le_of_ble_eq_true rfl)) d_T_scanToken_83 ⟨(Nat.le_of_ble_eq_true rfl), (Nat.le_of_ble_eq_true rfl)⟩) hS (fun q _ h9 => hFc q h9) hFc (fun u_26 t H locs het hvm hw hB hz1 hk1 hS => ?_)
              obtain ⟨many_20, tat_21, kd_22, sr_23, wo_24, sa_25⟩ := u_26
              try dsimp only at hw
              obtain ⟨p_28, p_29, p_30, p_31, p_32⟩ := hw
              obtain ⟨hP1, hK1, hD1⟩ := hB
              rw [het] at hP1
              have hP : va_P (dC, dI) cls (WE h g len fp many_20 tlen tat_21 qlen md gat kind (.ref (k wi)) (.ref (k ti)) gs th st rq bl te og sc kd_22 sr_23 wo_24 sa_25 qb du) H := hP1
              have hD : va_D A (WE h g len fp many_20 tlen tat_21 qlen md gat kind (.ref (k wi)) (.ref (k ti)) gs th st rq bl te og sc kd_22 sr_23 wo_24 sa_25 qb du) := hD1.weaken (fun _ _ _ h9 => hFc _ h9)
              refine lv_iconst (v := 1) hx hb d_T_scanToken_86 (by decide) ?_
              have hc_1 : Int32.toInt 1 = 1 := by decide
              exact fin 1 (many_20, tat_21, kd_22, sr_23, wo_24, sa_25, qlen, qb) _ _ _ ls d_T_scanToken_87 rfl ⟨(by (try dsimp only); omega), (by (try dsimp only); omega), (by (try dsimp only); omega), (by (try dsimp only); omega), p_32, (by (try dsimp only); omega), (by (try dsimp only); omega), rfl⟩ hP hD hS
            · refine lv_iconst (v := 0) hx hb d_T_scanToken_69 (by decide) ?_
              have hc_0 : Int32.toInt 0 = 0 := by decide
              exact fin 0 (many, tat, kd, sr, wo, sa, qlen, qb) _ _ _ ls d_T_scanToken_70 rfl ⟨(by (try dsimp only); omega), (by (try dsimp only); omega), (by (try dsimp only); omega), (by (try dsimp only); omega), v_4, (by (try dsimp only); omega), (by (try dsimp only); omega), rfl⟩ hP hD hS
        · have dc_15 := i_eq c_15 rfl (show Int32.toInt 34 = 34 by decide)
          refine lv_aload_n hx hb d_T_scanToken_50 rfl (lv_at hl 1 rfl) ?_
          have hFc := va_free (wc := (WE h g len fp many tlen tat qlen md gat kind (.ref (k wi)) (.ref (k ti)) gs th st rq bl te og sc kd sr wo sa qb du)) hD hS hA [0, 1, 2, 3, 4, 5, 6, 7, 8, 9, 10] rfl
          refine va_calli (va_runV (As := []) (rest := []) ⟨hx, hb, hml, hown, ht⟩ (c_T_scanQuoted l dC dI k h g len fp many tlen tat qlen md gat kind gs th st rq bl te og wi ti sc kd sr sa qb du wo  _ (by omega) (by omega) (by omega) (by omega) (by omega) (by omega) v_4 (by omega) (by omega)) (cwV 0 ht (g_V k_366 k_368 k_13 k_75 k_369) rfl rfl rfl (by decide +kernel) ⟨(Nat.le_of_ble_eq_true rfl), (Nat.le_of_ble_eq_true rfl)⟩) ⟨fb_X, va_recv hK hP (ci := 1) (q0 := 2) rfl rfl, pre_X hE hS hFc hP hK hD⟩ rfl rfl hl.1 rfl (lv_room (Nat.le_of_ble_eq_true rfl)) d_T_scanToken_51 ⟨(Nat.le_of_ble_eq_true rfl), (Nat.le_of_ble_eq_true rfl)⟩) hS (fun q _ h9 => hFc q h9) hFc (fun r_42 u_41 t H locs het hvm hw hB hz1 hk1 hS => ?_)
          obtain ⟨many_33, tat_34, kd_35, sr_36, wo_37, sa_38, qlen_39, qb_40⟩ := u_41
          try dsimp only at hw
          obtain ⟨p_43, p_44, p_45, p_46, p_47, p_48, p_49, p_50⟩ := hw
          obtain ⟨hP1, hK1, hD1⟩ := hB
          rw [het] at hP1
          have hP : va_P (dC, dI) cls (WE h g len fp many_33 tlen tat_34 qlen_39 md gat kind (.ref (k wi)) (.ref (k ti)) gs th st rq bl te og sc kd_35 sr_36 wo_37 sa_38 qb_40 du) H := hP1
          have hD : va_D A (WE h g len fp many_33 tlen tat_34 qlen_39 md gat kind (.ref (k wi)) (.ref (k ti)) gs th st rq bl te og sc kd_35 sr_36 wo_37 sa_38 qb_40 du) := hD1.weaken (fun _ _ _ h9 => hFc _ h9)
          exact fin r_42 (many_33, tat_34, kd_35, sr_36, wo_37, sa_38, qlen_39, qb_40) _ _ _ ls d_T_scanToken_54 p_50 ⟨(by (try dsimp only); omega), (by (try dsimp only); omega), (by (try dsimp only); omega), (by (try dsimp only); omega), p_47, (by (try dsimp only); omega), (by (try dsimp only); omega), p_50⟩ hP hD hS
      · have dc_14 := i_ne c_14 rfl (show Int32.toInt 0 = 0 by decide)
        refine lv_aload_n hx hb d_T_scanToken_39 rfl (lv_at hl 1 rfl) ?_
        have hFc := va_free (wc := (WE h g len fp many tlen tat qlen md gat kind (.ref (k wi)) (.ref (k ti)) gs th st rq bl te og sc kd sr wo sa qb du)) hD hS hA [0, 1, 2, 3, 4, 5, 6, 7, 8, 9, 10] rfl
        refine va_calli (va_runV (As := []) (rest := []) ⟨hx, hb, hml, hown, ht⟩ (c_T_scanNumber l dC dI k h g len fp many tlen tat qlen md gat kind gs th st rq bl te og wi ti sc kd sr sa qb du wo  _ (by omega) (by omega) (by omega) (by omega) (by omega) (by omega) v_4) (cwV 0 ht (g_V k_352 k_354 k_12 k_75 k_355) rfl rfl rfl (by decide +kernel) ⟨(Nat.le_of_ble_eq_true rfl), (Nat.le_of_ble_eq_true rfl)⟩) ⟨fb_X, va_recv hK hP (ci := 1) (q0 := 2) rfl rfl, pre_X hE hS hFc hP hK hD⟩ rfl rfl hl.1 rfl (lv_room (Nat.le_of_ble_eq_true rfl)) d_T_scanToken_40 ⟨(Nat.le_of_ble_eq_true rfl), (Nat.le_of_ble_eq_true rfl)⟩) hS (fun q _ h9 => hFc q h9) hFc (fun r_58 u_57 t H locs het hvm hw hB hz1 hk1 hS => ?_)
        obtain ⟨many_51, tat_52, kd_53, sr_54, wo_55, sa_56⟩ := u_57
        try dsimp only at hw
        obtain ⟨p_59, p_60, p_61, p_62, p_63, p_64⟩ := hw
        obtain ⟨hP1, hK1, hD1⟩ := hB
        rw [het] at hP1
        have hP : va_P (dC, dI) cls (WE h g len fp many_51 tlen tat_52 qlen md gat kind (.ref (k wi)) (.ref (k ti)) gs th st rq bl te og sc kd_53 sr_54 wo_55 sa_56 qb du) H := hP1
        have hD : va_D A (WE h g len fp many_51 tlen tat_52 qlen md gat kind (.ref (k wi)) (.ref (k ti)) gs th st rq bl te og sc kd_53 sr_54 wo_55 sa_56 qb du) := hD1.weaken (fun _ _ _ h9 => hFc _ h9)
        exact fin r_58 (many_51, tat_52, kd_53, sr_54, wo_55, sa_56, qlen, qb) _ _ _ ls d_T_scanToken_43 p_64 ⟨(by (try dsimp only); omega), (by (try dsimp only); omega), (by (try dsimp only); omega), (by (try dsimp only); omega), p_63, (by (try dsimp only); omega), (by (try dsimp only); omega), p_64⟩ hP hD hS
    · have dc_10 := i_eq c_10 rfl (show Int32.toInt 58 = 58 by decide)
      refine lv_aload_n hx hb d_T_scanToken_27 rfl (lv_at hl 1 rfl) ?_
      have hFc := va_free (wc := (WE h g len fp many tlen tat qlen md gat kind (.ref (k wi)) (.ref (k ti)) gs th st rq bl te og sc kd sr wo sa qb du)) hD hS hA [0, 1, 2, 3, 4, 5, 6, 7, 8, 9, 10] rfl
      refine va_calli (va_runV (As := []) (rest := []) ⟨hx, hb, hml, hown, ht⟩ (c_T_scanTag l dC dI k h g len fp many tlen tat qlen md gat kind gs th st rq bl te og wi ti sc kd sr sa qb du wo  _ (by omega) (by omega) (by omega) (by omega) (by omega) (by omega) v_4) (cwV 0 ht (g_V k_347 k_349 k_11 k_75 k_350) rfl rfl rfl (by decide +kernel) ⟨(Nat.le_of_ble_eq_true rfl), (Nat.le_of_ble_eq_true rfl)⟩) ⟨fb_X, va_recv hK hP (ci := 1) (q0 := 2) rfl rfl, pre_X hE hS hFc hP hK hD⟩ rfl rfl hl.1 rfl (lv_room (Nat.le_of_ble_eq_true rfl)) d_T_scanToken_28 ⟨(Nat.le_of_ble_eq_true rfl), (Nat.le_of_ble_eq_true rfl)⟩) hS (fun q _ h9 => hFc q h9) hFc (fun r_72 u_71 t H locs het hvm hw hB hz1 hk1 hS => ?_)
      obtain ⟨many_65, tat_66, kd_67, sr_68, wo_69, sa_70⟩ := u_71
      try dsimp only at hw
      obtain ⟨p_73, p_74, p_75, p_76, p_77, p_78⟩ := hw
      obtain ⟨hP1, hK1, hD1⟩ := hB
      rw [het] at hP1
      have hP : va_P (dC, dI) cls (WE h g len fp many_65 tlen tat_66 qlen md gat kind (.ref (k wi)) (.ref (k ti)) gs th st rq bl te og sc kd_67 sr_68 wo_69 sa_70 qb du) H := hP1
      have hD : va_D A (WE h g len fp many_65 tlen tat_66 qlen md gat kind (.ref (k wi)) (.ref (k ti)) gs th st rq bl te og sc kd_67 sr_68 wo_69 sa_70 qb du) := hD1.weaken (fun _ _ _ h9 => hFc _ h9)
      exact fin r_72 (many_65, tat_66, kd_67, sr_68, wo_69, sa_70, qlen, qb) _ _ _ ls d_T_scanToken_31 p_78 ⟨(by (try dsimp only); omega), (by (try dsimp only); omega), (by (try dsimp only); omega), (by (try dsimp only); omega), p_77, (by (try dsimp only); omega), (by (try dsimp only); omega), p_78⟩ hP hD hS
  · have dc_9 := i_ne c_9 rfl (show Int32.toInt 0 = 0 by decide)
    refine lv_aload_n hx hb d_T_scanToken_16 rfl (lv_at hl 1 rfl) ?_
    have hFc := va_free (wc := (WE h g len fp many tlen tat qlen md gat kind (.ref (k wi)) (.ref (k ti)) gs th st rq bl te og sc kd sr wo sa qb du)) hD hS hA [0, 1, 2, 3, 4, 5, 6, 7, 8, 9, 10] rfl
    refine va_calli (va_runV (As := []) (rest := []) ⟨hx, hb, hml, hown, ht⟩ (c_T_scanWord l dC dI k h g len fp many tlen tat qlen md gat kind gs th st rq bl te og wi ti sc kd sr sa qb du wo  _ (by omega) (by omega) (by omega) (by omega) (by omega) (by omega) v_4) (cwV 0 ht (g_V k_266 k_268 k_7 k_75 k_269) rfl rfl rfl (by decide +kernel) ⟨(Nat.le_of_ble_eq_true rfl), (Nat.le_of_ble_eq_true rfl)⟩) ⟨fb_X, va_recv hK hP (ci := 1) (q0 := 2) rfl rfl, pre_X hE hS hFc hP hK hD⟩ rfl rfl hl.1 rfl (lv_room (Nat.le_of_ble_eq_true rfl)) d_T_scanToken_17 ⟨(Nat.le_of_ble_eq_true rfl), (Nat.le_of_ble_eq_true rfl)⟩) hS (fun q _ h9 => hFc q h9) hFc (fun r_86 u_85 t H locs het hvm hw hB hz1 hk1 hS => ?_)
    obtain ⟨many_79, tat_80, kd_81, sr_82, wo_83, sa_84⟩ := u_85
    try dsimp only at hw
    obtain ⟨p_87, p_88, p_89, p_90, p_91, p_92⟩ := hw
    obtain ⟨hP1, hK1, hD1⟩ := hB
    rw [het] at hP1
    have hP : va_P (dC, dI) cls (WE h g len fp many_79 tlen tat_80 qlen md gat kind (.ref (k wi)) (.ref (k ti)) gs th st rq bl te og sc kd_81 sr_82 wo_83 sa_84 qb du) H := hP1
    have hD : va_D A (WE h g len fp many_79 tlen tat_80 qlen md gat kind (.ref (k wi)) (.ref (k ti)) gs th st rq bl te og sc kd_81 sr_82 wo_83 sa_84 qb du) := hD1.weaken (fun _ _ _ h9 => hFc _ h9)
    exact fin r_86 (many_79, tat_80, kd_81, sr_82, wo_83, sa_84, qlen, qb) _ _ _ ls d_T_scanToken_20 p_92 ⟨(by (try dsimp only); omega), (by (try dsimp only); omega), (by (try dsimp only); omega), (by (try dsimp only); omega), p_91, (by (try dsimp only); omega), (by (try dsimp only); omega), p_92⟩ hP hD hS
set_option maxHeartbeats 4000000 in
set_option maxRecDepth 100000 in
theorem c_T_scanToken (l : Launch) (dC : Nat → ClassId) (dI : Nat → Nat → Nat) (k : Nat → Nat) (h : Nat → Nat) (g : Nat → ClassId) (len : Int32) (fp : Int32) (many : Int32) (tlen : Int32) (tat : Int32) (qlen : Int32) (md : Int32) (gat : Int32) (kind : Int32) (gs : Int32) (th : Int32) (st : Int32) (rq : Int32) (bl : Int32) (te : Int32) (og : Int32) (wi : Nat) (ti : Nat) (sc : Nat → Int32) (kd : Nat → Int32) (sr : Nat → Int32) (sa : Nat → Int32) (qb : Nat → Int32) (du : Nat → Int32) (wo : Nat → Option Nat)  (sz : Nat) (h_0 : 0 ≤ Int32.toInt tlen) (h_1 : Int32.toInt tlen ≤ 400) (v_0 : 0 ≤ Int32.toInt many) (v_1 : Int32.toInt many ≤ 401) (v_2 : 0 ≤ Int32.toInt tat) (v_3 : Int32.toInt tat ≤ Int32.toInt tlen) (v_4 : WOk k wo) (v_5 : 0 ≤ Int32.toInt qlen) (v_6 : Int32.toInt qlen ≤ 200) : Met l y_T_scanToken (.code y_T_scanToken b_T_scanToken 2 (some .boolean) :: TT) ({ frames := 8, cells := 0, slots := 0, locals := 184 }) (va_Pc [.ref (h 2)] (PX dC dI k (TE g) (WE h g len fp many tlen tat qlen md gat kind (.ref (k wi)) (.ref (k ti)) gs th st rq bl te og sc kd sr wo sa qb du) sz)) (va_Qi (fun (r : Int32) (u : Int32 × Int32 × (Nat → Int32) × (Nat → Int32) × (Nat → Option Nat) × (Nat → Int32) × Int32 × (Nat → Int32)) => 0 ≤ Int32.toInt u.1 ∧ Int32.toInt u.1 ≤ 401 ∧ 0 ≤ Int32.toInt u.2.1 ∧ Int32.toInt u.2.1 ≤ Int32.toInt tlen ∧ WOk k u.2.2.2.2.1 ∧ 0 ≤ Int32.toInt u.2.2.2.2.2.2.1 ∧ Int32.toInt u.2.2.2.2.2.2.1 ≤ 200 ∧ narrow .boolean (.int r) = .int r) (fun u t => BX dC dI (TE g) (va_A (WE h g len fp many tlen tat qlen md gat kind (.ref (k wi)) (.ref (k ti)) gs th st rq bl te og sc kd sr wo sa qb du) sz) (WE h g len fp u.1 tlen u.2.1 u.2.2.2.2.2.2.1 md gat kind (.ref (k wi)) (.ref (k ti)) gs th st rq bl te og sc u.2.2.1 u.2.2.2.1 u.2.2.2.2.1 u.2.2.2.2.2.1 u.2.2.2.2.2.2.2 du) t) (va_A (WE h g len fp many tlen tat qlen md gat kind (.ref (k wi)) (.ref (k ti)) gs th st rq bl te og sc kd sr wo sa qb du) sz)) 0 0 (va_A (WE h g len fp many tlen tat qlen md gat kind (.ref (k wi)) (.ref (k ti)) gs th st rq bl te og sc kd sr wo sa qb du) sz) := by
  refine Met.ofW (cc := b_T_scanToken) (maxL := 2) (ret := (some .boolean)) (by decide) rfl ?_
  intro p e s m args below meth c s₁ B hml hv
  obtain ⟨rfl, hsz, hE, hP, hK, hD0⟩ := hv
  have hx := B.exec
  have hb := B.bytes
  have hr := B.returns
  have ht : ∀ w ∈ TT, w.before _ s = true := fun w hw => atoms_spec (ws := .code y_T_scanToken b_T_scanToken 2 (some .boolean) :: TT) B.pre w (List.mem_cons_of_mem _ hw)
  have hown : s.vm.findClass "SieveDesk$Tokens" = some m.cls := findClass_of_methodNamed B.named
  have hlocks := B.notSynchronized
  subst hsz
  have hD := hD0.self (sz := s.heap.size)
  generalize hAe : va_A (WE h g len fp many tlen tat qlen md gat kind (.ref (k wi)) (.ref (k ti)) gs th st rq bl te og sc kd sr wo sa qb du) s.heap.size = A at hE hD ⊢
  have hA : ∀ q : Nat, s.heap.size ≤ q → A q := fun q h9 => by rw [← hAe]; exact Or.inr h9
  have hS : va_S A s.heap s.heap [] := va_S.rf
  have hl := lv_entry ([.ref (h 2)]) (n := 2) (Nat.le_of_ble_eq_true rfl)
  rw [lg_entry_eq]
  generalize (lg_sl ([.ref (h 2)]) ++ List.replicate (2 - (lg_sl ([.ref (h 2)])).length) Slot.unset).toArray = ls at hl ⊢
  have hl : lv_has ls 2 [(0, .ref (h 2))] := hl
  exact bd_T_scanToken_0  hx hb hml hown ht hE hA hK h_0 h_1 (fun r u H locs pc ls hd hn hp hP hD hS => W.zret hx hb hr hn (fun t het hW => ⟨⟨r, u, rfl, hp, by rw [het]; exact hP, va_K.moved hW.alike hK, hD⟩, hS.F het⟩) hS.2.2 hd) many tat kd sr wo sa qlen qb v_0 v_1 v_2 v_3 v_4 v_5 v_6 _ _ ls hP hD hS hl
set_option maxHeartbeats 4000000 in
set_option maxRecDepth 100000 in
theorem lp_T_scan_17 {p : Program} {l : Launch} {e : Env} {s : State} {m : MethodId} {args : Array Value} {below : List Frame} {meth : Method} {c : Code} {Q : State → Prop} {A : Nat → Prop} {dC : Nat → ClassId} {dI : Nat → Nat → Nat} {k h : Nat → Nat} {g : Nat → ClassId} {len : Int32} {fp : Int32} {md : Int32} {gat : Int32} {kind : Int32} {gs : Int32} {th : Int32} {st : Int32} {rq : Int32} {bl : Int32} {te : Int32} {og : Int32} {wi : Nat} {ti : Nat} {sc : Nat → Int32} {du : Nat → Int32} (hx : p.tables.exec = Jvm.exec) (hb : c.code = b_T_scan) (hml : c.maxLocals = 3) (hown : s.vm.findClass "SieveDesk$Tokens" = some m.cls) (ht : ∀ w ∈ TT, w.before args s = true) (hE : KE k A s s.heap) (hA : ∀ q : Nat, s.heap.size ≤ q → A q) (hK : va_K (dC, dI) cls (TE g) s) {sl : Int32} (h_0 : 0 ≤ Int32.toInt sl) (h_1 : Int32.toInt sl ≤ 400) (fin : ∀ (u : Int32 × Int32 × Int32 × (Nat → Int32) × (Nat → Int32) × (Nat → Option Nat) × (Nat → Int32) × Int32 × (Nat → Int32)) (H : Heap) (locs : List Loc) (pc : Nat) (ls : Array Slot), decode b_T_scan pc = .ok (.return_, 1) → (0 ≤ Int32.toInt u.1 ∧ Int32.toInt u.1 ≤ 401 ∧ 0 ≤ Int32.toInt u.2.1 ∧ Int32.toInt u.2.1 ≤ 400 ∧ 0 ≤ Int32.toInt u.2.2.1 ∧ Int32.toInt u.2.2.1 ≤ Int32.toInt u.2.1 ∧ WOk k u.2.2.2.2.2.1 ∧ 0 ≤ Int32.toInt u.2.2.2.2.2.2.2.1 ∧ Int32.toInt u.2.2.2.2.2.2.2.1 ≤ 200) → va_P (dC, dI) cls (WE h g len fp u.1 u.2.1 u.2.2.1 u.2.2.2.2.2.2.2.1 md gat kind (.ref (k wi)) (.ref (k ti)) gs th st rq bl te og sc u.2.2.2.1 u.2.2.2.2.1 u.2.2.2.2.2.1 u.2.2.2.2.2.2.1 u.2.2.2.2.2.2.2.2 du) H → va_D A (WE h g len fp u.1 u.2.1 u.2.2.1 u.2.2.2.2.2.2.2.1 md gat kind (.ref (k wi)) (.ref (k ti)) gs th st rq bl te og sc u.2.2.2.1 u.2.2.2.2.1 u.2.2.2.2.2.1 u.2.2.2.2.2.2.1 u.2.2.2.2.2.2.2.2 du) → va_S A s.heap H locs → W p l e ({ frames := 9, cells := 0, slots := 0, locals := 205 } : Room) s m args below meth c H locs 0 0 Q (F0 m pc ls [])) : ∀ (nn : Nat), ∀ (tu : Int32) (many : Int32) (tlen : Int32) (tat : Int32) (kd : Nat → Int32) (sr : Nat → Int32) (wo : Nat → Option Nat) (sa : Nat → Int32) (qlen : Int32) (qb : Nat → Int32), 0 ≤ Int32.toInt tu → Int32.toInt tu ≤ 401 → 0 ≤ Int32.toInt many → Int32.toInt many ≤ 401 → 0 ≤ Int32.toInt tlen → Int32.toInt tlen ≤ 400 → 0 ≤ Int32.toInt tat → Int32.toInt tat ≤ Int32.toInt tlen → WOk k wo → 0 ≤ Int32.toInt qlen → Int32.toInt qlen ≤ 200 → (401 - Int32.toInt tu).toNat < nn → ∀ (H : Heap) (locs : List Loc) (ls : Array Slot), va_P (dC, dI) cls (WE h g len fp many tlen tat qlen md gat kind (.ref (k wi)) (.ref (k ti)) gs th st rq bl te og sc kd sr wo sa qb du) H → va_D A (WE h g len fp many tlen tat qlen md gat kind (.ref (k wi)) (.ref (k ti)) gs th st rq bl te og sc kd sr wo sa qb du) → va_S A s.heap H locs → lv_has ls 3 [(2, .int tu), (0, .ref (h 2))] → W p l e ({ frames := 9, cells := 0, slots := 0, locals := 205 } : Room) s m args below meth c H locs 0 0 Q (F0 m 17 ls []) := by
  intro nn
  induction nn with
  | zero =>
    intro _ _ _ _ _ _ _ _ _ _ _ _ _ _ _ _ _ _ _ _ _ hm
    exact absurd hm (Nat.not_lt_zero _)
  | succ nn ih =>
    intro tu many tlen tat kd sr wo sa qlen qb v_0 v_1 v_2 v_3 v_4 v_5 v_6 v_7 v_8 v_9 v_10 hm H locs ls hP hD hS hl
    refine lv_iload_n hx hb d_T_scan_17 rfl (lv_at hl 0 rfl) ?_
    refine lv_sipush (v := 401) hx hb d_T_scan_18 (by decide) ?_
    refine lv_icmp_ge (tgt := 81) hx hb d_T_scan_21 (by decide) (fun c_1 => ?_) (fun c_1 => ?_)
    · have dc_1 := i_le c_1 (show Int32.toInt 401 = 401 by decide) rfl
      exact fin  (many, tlen, tat, kd, sr, wo, sa, qlen, qb) _ _ _ ls d_T_scan_81 ⟨(by (try dsimp only); omega), (by (try dsimp only); omega), (by (try dsimp only); omega), (by (try dsimp only); omega), (by (try dsimp only); omega), (by (try dsimp only); omega), v_8, (by (try dsimp only); omega), (by (try dsimp only); omega)⟩ hP hD hS
    · have dc_1 := i_nle c_1 (show Int32.toInt 401 = 401 by decide) rfl
      refine lv_aload_n hx hb d_T_scan_24 rfl (lv_at hl 1 rfl) ?_
      have hFc := va_free (wc := (WE h g len fp many tlen tat qlen md gat kind (.ref (k wi)) (.ref (k ti)) gs th st rq bl te og sc kd sr wo sa qb du)) hD hS hA [0, 1, 2, 3, 4, 5, 6, 7, 8, 9, 10] rfl
      refine va_callv (va_runV (As := []) (rest := []) ⟨hx, hb, hml, hown, ht⟩ (c_T_skipGap l dC dI k h g len fp many tlen tat qlen md gat kind gs th st rq bl te og wi ti sc kd sr sa qb du wo  _ (by omega) (by omega) (by omega) (by omega)) (cwV 0 ht (g_V k_235 k_237 k_1 k_75 k_238) rfl rfl rfl (by decide +kernel) ⟨(Nat.le_of_ble_eq_true rfl), (Nat.le_of_ble_eq_true rfl)⟩) ⟨fb_X, va_recv hK hP (ci := 1) (q0 := 2) rfl rfl, pre_X hE hS hFc hP hK hD⟩ rfl rfl hl.1 rfl (lv_room (Nat.le_of_ble_eq_true rfl)) d_T_scan_25 ⟨(Nat.le_of_ble_eq_true rfl), (Nat.le_of_ble_eq_true rfl)⟩) hS (fun q _ h9 => hFc q h9) hFc (fun tat_2 t H locs het hvm hw hB hz1 hk1 hS => ?_)
      obtain ⟨p_4, p_5⟩ := hw
      obtain ⟨hP1, hK1, hD1⟩ := hB
      rw [het] at hP1
      have hP : va_P (dC, dI) cls (WE h g len fp many tlen tat_2 qlen md gat kind (.ref (k wi)) (.ref (k ti)) gs th st rq bl te og sc kd sr wo sa qb du) H := hP1
      have hD : va_D A (WE h g len fp many tlen tat_2 qlen md gat kind (.ref (k wi)) (.ref (k ti)) gs th st rq bl te og sc kd sr wo sa qb du) := hD1.weaken (fun _ _ _ h9 => hFc _ h9)
      refine lv_aload_n hx hb d_T_scan_28 rfl (lv_at hl 1 rfl) ?_
      refine va_get (D := (dC, dI)) (ci := 1) (v := .int tat_2) (C := "SieveDesk$Tokens") (T := F_T) (N := 9) hx hb ht i_T hown hK hP 2 rfl rfl 8 (by decide) (ht _ k_132) (fun _ h9 => h9) rfl d_T_scan_29 ?_
      refine lv_aload_n hx hb d_T_scan_32 rfl (lv_at hl 1 rfl) ?_
      refine va_get (D := (dC, dI)) (ci := 1) (v := .int tlen) (C := "SieveDesk$Tokens") (T := F_T) (N := 9) hx hb ht i_T hown hK hP 2 rfl rfl 7 (by decide) (ht _ k_131) (fun _ h9 => h9) rfl d_T_scan_33 ?_
      refine lv_icmp_lt (tgt := 53) hx hb d_T_scan_36 (by decide) (fun c_6 => ?_) (fun c_6 => ?_)
      · have dc_6 := i_lt c_6 rfl rfl
        refine lv_aload_n hx hb d_T_scan_53 rfl (lv_at hl 1 rfl) ?_
        have hFc := va_free (wc := (WE h g len fp many tlen tat_2 qlen md gat kind (.ref (k wi)) (.ref (k ti)) gs th st rq bl te og sc kd sr wo sa qb du)) hD hS hA [0, 1, 2, 3, 4, 5, 6, 7, 8, 9, 10] rfl
        refine va_calli (va_runV (As := []) (rest := []) ⟨hx, hb, hml, hown, ht⟩ (c_T_scanToken l dC dI k h g len fp many tlen tat_2 qlen md gat kind gs th st rq bl te og wi ti sc kd sr sa qb du wo  _ (by omega) (by omega) (by omega) (by omega) (by omega) (by omega) v_8 (by omega) (by omega)) (cwV 0 ht (g_V k_256 k_258 k_6 k_75 k_259) rfl rfl rfl (by decide +kernel) ⟨(Nat.le_of_ble_eq_true rfl), (Nat.le_of_ble_eq_true rfl)⟩) ⟨fb_X, va_recv hK hP (ci := 1) (q0 := 2) rfl rfl, pre_X hE hS hFc hP hK hD⟩ rfl rfl hl.1 rfl (lv_room (Nat.le_of_ble_eq_true rfl)) d_T_scan_54 ⟨(Nat.le_of_ble_eq_true rfl), (Nat.le_of_ble_eq_true rfl)⟩) hS (fun q _ h9 => hFc q h9) hFc (fun r_16 u_15 t H locs het hvm hw hB hz1 hk1 hS => ?_)
        obtain ⟨many_7, tat_8, kd_9, sr_10, wo_11, sa_12, qlen_13, qb_14⟩ := u_15
        try dsimp only at hw
        obtain ⟨p_17, p_18, p_19, p_20, p_21, p_22, p_23, p_24⟩ := hw
        obtain ⟨hP1, hK1, hD1⟩ := hB
        rw [het] at hP1
        have hP : va_P (dC, dI) cls (WE h g len fp many_7 tlen tat_8 qlen_13 md gat kind (.ref (k wi)) (.ref (k ti)) gs th st rq bl te og sc kd_9 sr_10 wo_11 sa_12 qb_14 du) H := hP1
        have hD : va_D A (WE h g len fp many_7 tlen tat_8 qlen_13 md gat kind (.ref (k wi)) (.ref (k ti)) gs th st rq bl te og sc kd_9 sr_10 wo_11 sa_12 qb_14 du) := hD1.weaken (fun _ _ _ h9 => hFc _ h9)
        refine lv_if_ne (tgt := 75) hx hb d_T_scan_57 (by decide) (fun c_25 => ?_) (fun c_25 => ?_)
        · refine lv_iinc (v := (tu + 1)) (lv' := [(2, .int (tu + 1)), (0, .ref (h 2))]) hx hb d_T_scan_75 hl (k := 0) rfl rfl (by decide) rfl (fun ls hl => ?_)
          have e_26 : Int32.toInt (tu + 1) = (Int32.toInt tu) + 1 := i_add rfl (show Int32.toInt 1 = 1 by decide) (by omega) (by omega)
          refine lv_goto (tgt := 17) hx hb d_T_scan_78 (by decide) ?_
          exact ih (tu + 1) many_7 tlen tat_8 kd_9 sr_10 wo_11 sa_12 qlen_13 qb_14 (by omega) (by omega) (by omega) (by omega) (by omega) (by omega) (by omega) (by omega) p_21 (by omega) (by omega) (by omega) _ _ ls hP hD hS (lv_sub hl [0, 1] rfl)
        · refine lv_aload_n hx hb d_T_scan_60 rfl (lv_at hl 1 rfl) ?_
          refine lv_bipush (v := 6) hx hb d_T_scan_61 (by decide) ?_
          refine va_gets hx hb (ke_W_NONE hE) hS hown (ht _ k_251) (fun _ h9 => h9) d_T_scan_63 ?_
          refine lv_iconst (v := 0) hx hb d_T_scan_66 (by decide) ?_
          refine lv_aload_n hx hb d_T_scan_67 rfl (lv_at hl 1 rfl) ?_
          refine va_get (D := (dC, dI)) (ci := 1) (v := .int tat_8) (C := "SieveDesk$Tokens") (T := F_T) (N := 9) hx hb ht i_T hown hK hP 2 rfl rfl 8 (by decide) (ht _ k_132) (fun _ h9 => h9) rfl d_T_scan_68 ?_
          have hc_6 : Int32.toInt 6 = 6 := by decide
          have hc_0 : Int32.toInt 0 = 0 := by decide
          have hFc := va_free (wc := (WE h g len fp many_7 tlen tat_8 qlen_13 md gat kind (.ref (k wi)) (.ref (k ti)) gs th st rq bl te og sc kd_9 sr_10 wo_11 sa_12 qb_14 du)) hD hS hA [0, 1, 2, 3, 4, 5, 6, 7, 8, 9, 10] rfl
          refine va_callv (va_runV (As := [.int 6, .ref (k 0), .int 0, .int tat_8]) (rest := []) ⟨hx, hb, hml, hown, ht⟩ (c_T_add l dC dI k h g len fp many_7 tlen tat_8 qlen_13 md gat kind gs th st rq bl te og wi ti sc kd_9 sr_10 sa_12 qb_14 du wo_11 6 0 0 tat_8 _ (by omega) (by omega) (by omega) (by omega) (by omega) (by omega) (by omega) (by omega) (by omega) p_21) (cwV 4 ht (g_V k_252 k_254 k_5 k_75 k_255) rfl rfl rfl (by decide +kernel) ⟨(Nat.le_of_ble_eq_true rfl), (Nat.le_of_ble_eq_true rfl)⟩) ⟨fb_X, va_recv hK hP (ci := 1) (q0 := 2) rfl rfl, pre_X hE hS hFc hP hK hD⟩ rfl rfl hl.1 rfl (lv_room (Nat.le_of_ble_eq_true rfl)) d_T_scan_71 ⟨(Nat.le_of_ble_eq_true rfl), (Nat.le_of_ble_eq_true rfl)⟩) hS (fun q _ h9 => hFc q h9) hFc (fun u_33 t H locs het hvm hw hB hz1 hk1 hS => ?_)
          obtain ⟨many_27, tat_28, kd_29, sr_30, wo_31, sa_32⟩ := u_33
          try dsimp only at hw
          obtain ⟨p_35, p_36, p_37, p_38, p_39⟩ := hw
          obtain ⟨hP1, hK1, hD1⟩ := hB
          rw [het] at hP1
          have hP : va_P (dC, dI) cls (WE h g len fp many_27 tlen tat_28 qlen_13 md gat kind (.ref (k wi)) (.ref (k ti)) gs th st rq bl te og sc kd_29 sr_30 wo_31 sa_32 qb_14 du) H := hP1
          have hD : va_D A (WE h g len fp many_27 tlen tat_28 qlen_13 md gat kind (.ref (k wi)) (.ref (k ti)) gs th st rq bl te og sc kd_29 sr_30 wo_31 sa_32 qb_14 du) := hD1.weaken (fun _ _ _ h9 => hFc _ h9)
          exact fin  (many_27, tlen, tat_28, kd_29, sr_30, wo_31, sa_32, qlen_13, qb_14) _ _ _ ls d_T_scan_74 ⟨(by (try dsimp only); omega), (by (try dsimp only); omega), (by (try dsimp only); omega), (by (try dsimp only); omega), (by (try dsimp only); omega), (by (try dsimp only); omega), p_39, (by (try dsimp only); omega), (by (try dsimp only); omega)⟩ hP hD hS
      · have dc_6 := i_nlt c_6 rfl rfl
        refine lv_aload_n hx hb d_T_scan_39 rfl (lv_at hl 1 rfl) ?_
        refine lv_iconst (v := 5) hx hb d_T_scan_40 (by decide) ?_
        refine va_gets hx hb (ke_W_NONE hE) hS hown (ht _ k_251) (fun _ h9 => h9) d_T_scan_41 ?_
        refine lv_iconst (v := 0) hx hb d_T_scan_44 (by decide) ?_
        refine lv_aload_n hx hb d_T_scan_45 rfl (lv_at hl 1 rfl) ?_
        refine va_get (D := (dC, dI)) (ci := 1) (v := .int tat_2) (C := "SieveDesk$Tokens") (T := F_T) (N := 9) hx hb ht i_T hown hK hP 2 rfl rfl 8 (by decide) (ht _ k_132) (fun _ h9 => h9) rfl d_T_scan_46 ?_
        have hc_5 : Int32.toInt 5 = 5 := by decide
        have hc_0 : Int32.toInt 0 = 0 := by decide
        have hFc := va_free (wc := (WE h g len fp many tlen tat_2 qlen md gat kind (.ref (k wi)) (.ref (k ti)) gs th st rq bl te og sc kd sr wo sa qb du)) hD hS hA [0, 1, 2, 3, 4, 5, 6, 7, 8, 9, 10] rfl
        refine va_callv (va_runV (As := [.int 5, .ref (k 0), .int 0, .int tat_2]) (rest := []) ⟨hx, hb, hml, hown, ht⟩ (c_T_add l dC dI k h g len fp many tlen tat_2 qlen md gat kind gs th st rq bl te og wi ti sc kd sr sa qb du wo 5 0 0 tat_2 _ (by omega) (by omega) (by omega) (by omega) (by omega) (by omega) (by omega) (by omega) (by omega) v_8) (cwV 4 ht (g_V k_252 k_254 k_5 k_75 k_255) rfl rfl rfl (by decide +kernel) ⟨(Nat.le_of_ble_eq_true rfl), (Nat.le_of_ble_eq_true rfl)⟩) ⟨fb_X, va_recv hK hP (ci := 1) (q0 := 2) rfl rfl, pre_X hE hS hFc hP hK hD⟩ rfl rfl hl.1 rfl (lv_room (Nat.le_of_ble_eq_true rfl)) d_T_scan_49 ⟨(Nat.le_of_ble_eq_true rfl), (Nat.le_of_ble_eq_true rfl)⟩) hS (fun q _ h9 => hFc q h9) hFc (fun u_46 t H locs het hvm hw hB hz1 hk1 hS => ?_)
        obtain ⟨many_40, tat_41, kd_42, sr_43, wo_44, sa_45⟩ := u_46
        try dsimp only at hw
        obtain ⟨p_48, p_49, p_50, p_51, p_52⟩ := hw
        obtain ⟨hP1, hK1, hD1⟩ := hB
        rw [het] at hP1
        have hP : va_P (dC, dI) cls (WE h g len fp many_40 tlen tat_41 qlen md gat kind (.ref (k wi)) (.ref (k ti)) gs th st rq bl te og sc kd_42 sr_43 wo_44 sa_45 qb du) H := hP1
        have hD : va_D A (WE h g len fp many_40 tlen tat_41 qlen md gat kind (.ref (k wi)) (.ref (k ti)) gs th st rq bl te og sc kd_42 sr_43 wo_44 sa_45 qb du) := hD1.weaken (fun _ _ _ h9 => hFc _ h9)
        exact fin  (many_40, tlen, tat_41, kd_42, sr_43, wo_44, sa_45, qlen, qb) _ _ _ ls d_T_scan_52 ⟨(by (try dsimp only); omega), (by (try dsimp only); omega), (by (try dsimp only); omega), (by (try dsimp only); omega), (by (try dsimp only); omega), (by (try dsimp only); omega), p_52, (by (try dsimp only); omega), (by (try dsimp only); omega)⟩ hP hD hS
set_option maxHeartbeats 4000000 in
set_option maxRecDepth 100000 in
theorem bd_T_scan_0 {p : Program} {l : Launch} {e : Env} {s : State} {m : MethodId} {args : Array Value} {below : List Frame} {meth : Method} {c : Code} {Q : State → Prop} {A : Nat → Prop} {dC : Nat → ClassId} {dI : Nat → Nat → Nat} {k h : Nat → Nat} {g : Nat → ClassId} {len : Int32} {fp : Int32} {md : Int32} {gat : Int32} {kind : Int32} {gs : Int32} {th : Int32} {st : Int32} {rq : Int32} {bl : Int32} {te : Int32} {og : Int32} {wi : Nat} {ti : Nat} {sc : Nat → Int32} {du : Nat → Int32} (hx : p.tables.exec = Jvm.exec) (hb : c.code = b_T_scan) (hml : c.maxLocals = 3) (hown : s.vm.findClass "SieveDesk$Tokens" = some m.cls) (ht : ∀ w ∈ TT, w.before args s = true) (hE : KE k A s s.heap) (hA : ∀ q : Nat, s.heap.size ≤ q → A q) (hK : va_K (dC, dI) cls (TE g) s) {sl : Int32} (h_0 : 0 ≤ Int32.toInt sl) (h_1 : Int32.toInt sl ≤ 400) (fin : ∀ (u : Int32 × Int32 × Int32 × (Nat → Int32) × (Nat → Int32) × (Nat → Option Nat) × (Nat → Int32) × Int32 × (Nat → Int32)) (H : Heap) (locs : List Loc) (pc : Nat) (ls : Array Slot), decode b_T_scan pc = .ok (.return_, 1) → (0 ≤ Int32.toInt u.1 ∧ Int32.toInt u.1 ≤ 401 ∧ 0 ≤ Int32.toInt u.2.1 ∧ Int32.toInt u.2.1 ≤ 400 ∧ 0 ≤ Int32.toInt u.2.2.1 ∧ Int32.toInt u.2.2.1 ≤ Int32.toInt u.2.1 ∧ WOk k u.2.2.2.2.2.1 ∧ 0 ≤ Int32.toInt u.2.2.2.2.2.2.2.1 ∧ Int32.toInt u.2.2.2.2.2.2.2.1 ≤ 200) → va_P (dC, dI) cls (WE h g len fp u.1 u.2.1 u.2.2.1 u.2.2.2.2.2.2.2.1 md gat kind (.ref (k wi)) (.ref (k ti)) gs th st rq bl te og sc u.2.2.2.1 u.2.2.2.2.1 u.2.2.2.2.2.1 u.2.2.2.2.2.2.1 u.2.2.2.2.2.2.2.2 du) H → va_D A (WE h g len fp u.1 u.2.1 u.2.2.1 u.2.2.2.2.2.2.2.1 md gat kind (.ref (k wi)) (.ref (k ti)) gs th st rq bl te og sc u.2.2.2.1 u.2.2.2.2.1 u.2.2.2.2.2.1 u.2.2.2.2.2.2.1 u.2.2.2.2.2.2.2.2 du) → va_S A s.heap H locs → W p l e ({ frames := 9, cells := 0, slots := 0, locals := 205 } : Room) s m args below meth c H locs 0 0 Q (F0 m pc ls [])) : ∀ (many : Int32) (tlen : Int32) (tat : Int32) (kd : Nat → Int32) (sr : Nat → Int32) (wo : Nat → Option Nat) (sa : Nat → Int32) (qlen : Int32) (qb : Nat → Int32), 0 ≤ Int32.toInt many → Int32.toInt many ≤ 401 → 0 ≤ Int32.toInt tlen → Int32.toInt tlen ≤ 400 → 0 ≤ Int32.toInt tat → Int32.toInt tat ≤ Int32.toInt tlen → WOk k wo → 0 ≤ Int32.toInt qlen → Int32.toInt qlen ≤ 200 → ∀ (H : Heap) (locs : List Loc) (ls : Array Slot), va_P (dC, dI) cls (WE h g len fp many tlen tat qlen md gat kind (.ref (k wi)) (.ref (k ti)) gs th st rq bl te og sc kd sr wo sa qb du) H → va_D A (WE h g len fp many tlen tat qlen md gat kind (.ref (k wi)) (.ref (k ti)) gs th st rq bl te og sc kd sr wo sa qb du) → va_S A s.heap H locs → lv_has ls 3 [(0, .ref (h 2)), (1, .int sl)] → W p l e ({ frames := 9, cells := 0, slots := 0, locals := 205 } : Room) s m args below meth c H locs 0 0 Q (F0 m 0 ls []) := by
  intro many tlen tat kd sr wo sa qlen qb v_0 v_1 v_2 v_3 v_4 v_5 v_6 v_7 v_8 H locs ls hP hD hS hl
  refine lv_aload_n hx hb d_T_scan_0 rfl (lv_at hl 0 rfl) ?_
  refine lv_iconst (v := 0) hx hb d_T_scan_1 (by decide) ?_
  refine va_put (D := (dC, dI)) (ci := 1) (v := .int 0) (ty := .int) (C := "SieveDesk$Tokens") (T := F_T) (N := 9) hx hb ht i_T ty_T ty_T_ok n_T hown hK hP hD hS 2 rfl rfl 6 (by decide) (ht _ k_129) (fun _ h9 => h9) rfl (ty_T_ok 6 (by decide)) rfl rfl (Nat.le_of_ble_eq_true rfl) d_T_scan_2 (fun H locs hP hD hS => ?_)
  have hP : va_P (dC, dI) cls (WE h g len fp 0 tlen tat qlen md gat kind (.ref (k wi)) (.ref (k ti)) gs th st rq bl te og sc kd sr wo sa qb du) H := hP
  have hD : va_D A (WE h g len fp 0 tlen tat qlen md gat kind (.ref (k wi)) (.ref (k ti)) gs th st rq bl te og sc kd sr wo sa qb du) := hD
  refine lv_aload_n hx hb d_T_scan_5 rfl (lv_at hl 0 rfl) ?_
  refine lv_iload_n hx hb d_T_scan_6 rfl (lv_at hl 1 rfl) ?_
  refine va_put (D := (dC, dI)) (ci := 1) (v := .int sl) (ty := .int) (C := "SieveDesk$Tokens") (T := F_T) (N := 9) hx hb ht i_T ty_T ty_T_ok n_T hown hK hP hD hS 2 rfl rfl 7 (by decide) (ht _ k_131) (fun _ h9 => h9) rfl (ty_T_ok 7 (by decide)) rfl rfl (Nat.le_of_ble_eq_true rfl) d_T_scan_7 (fun H locs hP hD hS => ?_)
  have hP : va_P (dC, dI) cls (WE h g len fp 0 sl tat qlen md gat kind (.ref (k wi)) (.ref (k ti)) gs th st rq bl te og sc kd sr wo sa qb du) H := hP
  have hD : va_D A (WE h g len fp 0 sl tat qlen md gat kind (.ref (k wi)) (.ref (k ti)) gs th st rq bl te og sc kd sr wo sa qb du) := hD
  refine lv_aload_n hx hb d_T_scan_10 rfl (lv_at hl 0 rfl) ?_
  refine lv_iconst (v := 0) hx hb d_T_scan_11 (by decide) ?_
  refine va_put (D := (dC, dI)) (ci := 1) (v := .int 0) (ty := .int) (C := "SieveDesk$Tokens") (T := F_T) (N := 9) hx hb ht i_T ty_T ty_T_ok n_T hown hK hP hD hS 2 rfl rfl 8 (by decide) (ht _ k_132) (fun _ h9 => h9) rfl (ty_T_ok 8 (by decide)) rfl rfl (Nat.le_of_ble_eq_true rfl) d_T_scan_12 (fun H locs hP hD hS => ?_)
  have hP : va_P (dC, dI) cls (WE h g len fp 0 sl 0 qlen md gat kind (.ref (k wi)) (.ref (k ti)) gs th st rq bl te og sc kd sr wo sa qb du) H := hP
  have hD : va_D A (WE h g len fp 0 sl 0 qlen md gat kind (.ref (k wi)) (.ref (k ti)) gs th st rq bl te og sc kd sr wo sa qb du) := hD
  refine lv_iconst (v := 0) hx hb d_T_scan_15 (by decide) ?_
  refine lv_istore_n (lv' := [(2, .int 0), (0, .ref (h 2)), (1, .int sl)]) hx hb d_T_scan_16 rfl hl (by decide) rfl (fun ls hl => ?_)
  have hc_0 : Int32.toInt 0 = 0 := by decide
  exact (lp_T_scan_17 (sl := sl) hx hb hml hown ht hE hA hK h_0 h_1 fin _) 0 0 sl 0 kd sr wo sa qlen qb (by omega) (by omega) (by omega) (by omega) (by omega) (by omega) (by omega) (by omega) v_6 (by omega) (by omega) (Nat.lt_succ_self _) _ _ ls hP hD hS (lv_sub hl [0, 1] rfl)
set_option maxHeartbeats 4000000 in
set_option maxRecDepth 100000 in
theorem c_T_scan (l : Launch) (dC : Nat → ClassId) (dI : Nat → Nat → Nat) (k : Nat → Nat) (h : Nat → Nat) (g : Nat → ClassId) (len : Int32) (fp : Int32) (many : Int32) (tlen : Int32) (tat : Int32) (qlen : Int32) (md : Int32) (gat : Int32) (kind : Int32) (gs : Int32) (th : Int32) (st : Int32) (rq : Int32) (bl : Int32) (te : Int32) (og : Int32) (wi : Nat) (ti : Nat) (sc : Nat → Int32) (kd : Nat → Int32) (sr : Nat → Int32) (sa : Nat → Int32) (qb : Nat → Int32) (du : Nat → Int32) (wo : Nat → Option Nat) (sl : Int32) (sz : Nat) (h_0 : 0 ≤ Int32.toInt sl) (h_1 : Int32.toInt sl ≤ 400) (v_0 : 0 ≤ Int32.toInt many) (v_1 : Int32.toInt many ≤ 401) (v_2 : 0 ≤ Int32.toInt tlen) (v_3 : Int32.toInt tlen ≤ 400) (v_4 : 0 ≤ Int32.toInt tat) (v_5 : Int32.toInt tat ≤ Int32.toInt tlen) (v_6 : WOk k wo) (v_7 : 0 ≤ Int32.toInt qlen) (v_8 : Int32.toInt qlen ≤ 200) : Met l y_T_scan (.code y_T_scan b_T_scan 3 none :: TT) ({ frames := 9, cells := 0, slots := 0, locals := 205 }) (va_Pc [.ref (h 2), .int sl] (PX dC dI k (TE g) (WE h g len fp many tlen tat qlen md gat kind (.ref (k wi)) (.ref (k ti)) gs th st rq bl te og sc kd sr wo sa qb du) sz)) (va_Qv (fun u : Int32 × Int32 × Int32 × (Nat → Int32) × (Nat → Int32) × (Nat → Option Nat) × (Nat → Int32) × Int32 × (Nat → Int32) => 0 ≤ Int32.toInt u.1 ∧ Int32.toInt u.1 ≤ 401 ∧ 0 ≤ Int32.toInt u.2.1 ∧ Int32.toInt u.2.1 ≤ 400 ∧ 0 ≤ Int32.toInt u.2.2.1 ∧ Int32.toInt u.2.2.1 ≤ Int32.toInt u.2.1 ∧ WOk k u.2.2.2.2.2.1 ∧ 0 ≤ Int32.toInt u.2.2.2.2.2.2.2.1 ∧ Int32.toInt u.2.2.2.2.2.2.2.1 ≤ 200) (fun u t => BX dC dI (TE g) (va_A (WE h g len fp many tlen tat qlen md gat kind (.ref (k wi)) (.ref (k ti)) gs th st rq bl te og sc kd sr wo sa qb du) sz) (WE h g len fp u.1 u.2.1 u.2.2.1 u.2.2.2.2.2.2.2.1 md gat kind (.ref (k wi)) (.ref (k ti)) gs th st rq bl te og sc u.2.2.2.1 u.2.2.2.2.1 u.2.2.2.2.2.1 u.2.2.2.2.2.2.1 u.2.2.2.2.2.2.2.2 du) t) (va_A (WE h g len fp many tlen tat qlen md gat kind (.ref (k wi)) (.ref (k ti)) gs th st rq bl te og sc kd sr wo sa qb du) sz)) 0 0 (va_A (WE h g len fp many tlen tat qlen md gat kind (.ref (k wi)) (.ref (k ti)) gs th st rq bl te og sc kd sr wo sa qb du) sz) := by
  refine Met.ofW (cc := b_T_scan) (maxL := 3) (ret := none) (by decide) rfl ?_
  intro p e s m args below meth c s₁ B hml hv
  obtain ⟨rfl, hsz, hE, hP, hK, hD0⟩ := hv
  have hx := B.exec
  have hb := B.bytes
  have hr := B.returns
  have ht : ∀ w ∈ TT, w.before _ s = true := fun w hw => atoms_spec (ws := .code y_T_scan b_T_scan 3 none :: TT) B.pre w (List.mem_cons_of_mem _ hw)
  have hown : s.vm.findClass "SieveDesk$Tokens" = some m.cls := findClass_of_methodNamed B.named
  have hlocks := B.notSynchronized
  subst hsz
  have hD := hD0.self (sz := s.heap.size)
  generalize hAe : va_A (WE h g len fp many tlen tat qlen md gat kind (.ref (k wi)) (.ref (k ti)) gs th st rq bl te og sc kd sr wo sa qb du) s.heap.size = A at hE hD ⊢
  have hA : ∀ q : Nat, s.heap.size ≤ q → A q := fun q h9 => by rw [← hAe]; exact Or.inr h9
  have hS : va_S A s.heap s.heap [] := va_S.rf
  have hl := lv_entry ([.ref (h 2), .int sl]) (n := 3) (Nat.le_of_ble_eq_true rfl)
  rw [lg_entry_eq]
  generalize (lg_sl ([.ref (h 2), .int sl]) ++ List.replicate (3 - (lg_sl ([.ref (h 2), .int sl])).length) Slot.unset).toArray = ls at hl ⊢
  have hl : lv_has ls 3 [(0, .ref (h 2)), (1, .int sl)] := hl
  exact bd_T_scan_0 (sl := sl) hx hb hml hown ht hE hA hK h_0 h_1 (fun u H locs pc ls hd hp hP hD hS => W.vret hx hb hr (fun t het hW => ⟨⟨u, rfl, hp, by rw [het]; exact hP, va_K.moved hW.alike hK, hD⟩, hS.F het⟩) hS.2.2 hd) many tlen tat kd sr wo sa qlen qb v_0 v_1 v_2 v_3 v_4 v_5 v_6 v_7 v_8 _ _ ls hP hD hS hl

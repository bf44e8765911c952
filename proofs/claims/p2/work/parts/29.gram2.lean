set_option maxHeartbeats 4000000 in
set_option maxRecDepth 100000 in
theorem bd_G_begin_0 {p : Program} {l : Launch} {e : Env} {s : State} {m : MethodId} {args : Array Value} {below : List Frame} {meth : Method} {c : Code} {Q : State → Prop} {A : Nat → Prop} {dC : Nat → ClassId} {dI : Nat → Nat → Nat} {k h : Nat → Nat} {g : Nat → ClassId} {len : Int32} {fp : Int32} {many : Int32} {tlen : Int32} {tat : Int32} {qlen : Int32} {st : Int32} {rq : Int32} {bl : Int32} {te : Int32} {sc : Nat → Int32} {kd : Nat → Int32} {sr : Nat → Int32} {sa : Nat → Int32} {qb : Nat → Int32} {wo : Nat → Option Nat} (hx : p.tables.exec = Jvm.exec) (hb : c.code = b_G_begin) (hml : c.maxLocals = 1) (hown : s.vm.findClass "SieveDesk$Grammar" = some m.cls) (ht : ∀ w ∈ TT, w.before args s = true) (hE : KE k A s s.heap) (hA : ∀ q : Nat, s.heap.size ≤ q → A q) (hK : va_K (dC, dI) cls (TE g) s)  (h_0 : 0 ≤ Int32.toInt many) (h_1 : Int32.toInt many ≤ 401) (h_2 : WOk k wo) (fin : ∀ (r : Int32) (u : Int32 × (Nat → Int32) × Int32 × Int32 × Nat × Nat × Int32 × Int32 × Int32) (H : Heap) (locs : List Loc) (pc : Nat) (ls : Array Slot), decode b_G_begin pc = .ok (.ireturn, 1) → narrow .boolean (.int r) = .int r → (0 ≤ Int32.toInt u.1 ∧ Int32.toInt u.1 ≤ 200 ∧ -1 ≤ Int32.toInt u.2.2.1 ∧ Int32.toInt u.2.2.1 ≤ 400 ∧ u.2.2.2.2.1 < 43 ∧ u.2.2.2.2.2.1 < 43 ∧ narrow .boolean (.int r) = .int r) → va_P (dC, dI) cls (WE h g len fp many tlen tat qlen u.1 u.2.2.1 u.2.2.2.1 (.ref (k u.2.2.2.2.1)) (.ref (k u.2.2.2.2.2.1)) u.2.2.2.2.2.2.1 u.2.2.2.2.2.2.2.1 st rq bl te u.2.2.2.2.2.2.2.2 sc kd sr wo sa qb u.2.1) H → va_D A (WE h g len fp many tlen tat qlen u.1 u.2.2.1 u.2.2.2.1 (.ref (k u.2.2.2.2.1)) (.ref (k u.2.2.2.2.2.1)) u.2.2.2.2.2.2.1 u.2.2.2.2.2.2.2.1 st rq bl te u.2.2.2.2.2.2.2.2 sc kd sr wo sa qb u.2.1) → va_S A s.heap H locs → W p l e ({ frames := 6, cells := 0, slots := 0, locals := 128 } : Room) s m args below meth c H locs 0 0 Q (F0 m pc ls [.int r])) : ∀ (md : Int32) (du : Nat → Int32) (gat : Int32) (kind : Int32) (wi : Nat) (ti : Nat) (gs : Int32) (th : Int32) (og : Int32), 0 ≤ Int32.toInt md → Int32.toInt md ≤ 200 → -1 ≤ Int32.toInt gat → Int32.toInt gat ≤ 400 → wi < 43 → ti < 43 → ∀ (H : Heap) (locs : List Loc) (ls : Array Slot), va_P (dC, dI) cls (WE h g len fp many tlen tat qlen md gat kind (.ref (k wi)) (.ref (k ti)) gs th st rq bl te og sc kd sr wo sa qb du) H → va_D A (WE h g len fp many tlen tat qlen md gat kind (.ref (k wi)) (.ref (k ti)) gs th st rq bl te og sc kd sr wo sa qb du) → va_S A s.heap H locs → lv_has ls 1 [(0, .ref (h 9))] → W p l e ({ frames := 6, cells := 0, slots := 0, locals := 128 } : Room) s m args below meth c H locs 0 0 Q (F0 m 0 ls []) := by
  intro md du gat kind wi ti gs th og v_0 v_1 v_2 v_3 v_4 v_5 H locs ls hP hD hS hl
  refine lv_aload_n hx hb d_G_begin_0 rfl (lv_at hl 0 rfl) ?_
  refine va_get (D := (dC, dI)) (ci := 3) (v := .int th) (C := "SieveDesk$Grammar") (T := F_G) (N := 14) hx hb ht i_G hown hK hP 9 rfl rfl 8 (by decide) (ht _ k_168) (fun _ h9 => h9) rfl d_G_begin_1 ?_
  refine lv_bipush (v := 40) hx hb d_G_begin_4 (by decide) ?_
  refine lv_icmp_ge (tgt := 23) hx hb d_G_begin_6 (by decide) (fun c_1 => ?_) (fun c_1 => ?_)
  · refine lv_iconst (v := 0) hx hb d_G_begin_23 (by decide) ?_
    have hc_0 : Int32.toInt 0 = 0 := by decide
    exact fin 0 (md, du, gat, kind, wi, ti, gs, th, og) _ _ _ ls d_G_begin_24 rfl ⟨(by (try dsimp only); omega), (by (try dsimp only); omega), (by (try dsimp only); omega), (by (try dsimp only); omega), (by (try dsimp only); omega), (by (try dsimp only); omega), rfl⟩ hP hD hS
  · refine lv_aload_n hx hb d_G_begin_9 rfl (lv_at hl 0 rfl) ?_
    refine lv_aload_n hx hb d_G_begin_10 rfl (lv_at hl 0 rfl) ?_
    refine va_get (D := (dC, dI)) (ci := 3) (v := .ref (k wi)) (C := "SieveDesk$Grammar") (T := F_G) (N := 14) hx hb ht i_G hown hK hP 9 rfl rfl 5 (by decide) (ht _ k_165) (fun _ h9 => h9) rfl d_G_begin_11 ?_
    obtain ⟨r_2, hr_2⟩ := (ke_w hE (i := wi) (by omega)).2.2.1
    refine vk_getfN hx hb hr_2 hS hown (nw_use n_874 (hE.1 _ n_874)) (fun _ h9 => h9) d_G_begin_14 ?_
    have hFc := va_free (wc := (WE h g len fp many tlen tat qlen md gat kind (.ref (k wi)) (.ref (k ti)) gs th st rq bl te og sc kd sr wo sa qb du)) hD hS hA [0, 1, 2, 3, 4, 5, 6, 7, 8, 9, 10] rfl
    refine va_calli (va_runV (As := [.int r_2]) (rest := []) ⟨hx, hb, hml, hown, ht⟩ (c_G_lacks l dC dI k h g len fp many tlen tat qlen md gat kind gs th st rq bl te og wi ti sc kd sr sa qb du wo r_2 _  ) (cwV 1 ht (g_V k_498 k_500 k_27 k_77 k_501) rfl rfl rfl (by decide +kernel) ⟨(Nat.le_of_ble_eq_true rfl), (Nat.le_of_ble_eq_true rfl)⟩) ⟨fb_X, va_recv hK hP (ci := 3) (q0 := 9) rfl rfl, pre_X hE hS hFc hP hK hD⟩ rfl rfl hl.1 rfl (lv_room (Nat.le_of_ble_eq_true rfl)) d_G_begin_17 ⟨(Nat.le_of_ble_eq_true rfl), (Nat.le_of_ble_eq_true rfl)⟩) hS (fun q _ h9 => hFc q h9) hFc (fun r_4 u_3 t H locs het hvm hw hB hz1 hk1 hS => ?_)
    have p_5 := hw
    obtain ⟨hP1, hK1, hD1⟩ := hB
    rw [het] at hP1
    have hP : va_P (dC, dI) cls (WE h g len fp many tlen tat qlen md gat kind (.ref (k wi)) (.ref (k ti)) gs th st rq bl te og sc kd sr wo sa qb du) H := hP1
    have hD : va_D A (WE h g len fp many tlen tat qlen md gat kind (.ref (k wi)) (.ref (k ti)) gs th st rq bl te og sc kd sr wo sa qb du) := hD1.weaken (fun _ _ _ h9 => hFc _ h9)
    refine lv_if_eq (tgt := 25) hx hb d_G_begin_20 (by decide) (fun c_6 => ?_) (fun c_6 => ?_)
    · refine lv_aload_n hx hb d_G_begin_25 rfl (lv_at hl 0 rfl) ?_
      refine lv_dup hx hb d_G_begin_26 rfl ?_
      refine va_get (D := (dC, dI)) (ci := 3) (v := .int th) (C := "SieveDesk$Grammar") (T := F_G) (N := 14) hx hb ht i_G hown hK hP 9 rfl rfl 8 (by decide) (ht _ k_168) (fun _ h9 => h9) rfl d_G_begin_27 ?_
      refine lv_iconst (v := 1) hx hb d_G_begin_30 (by decide) ?_
      refine lv_iadd hx hb d_G_begin_31 ?_
      refine va_put (D := (dC, dI)) (ci := 3) (v := .int (th + 1)) (ty := .int) (C := "SieveDesk$Grammar") (T := F_G) (N := 14) hx hb ht i_G ty_G ty_G_ok n_G hown hK hP hD hS 9 rfl rfl 8 (by decide) (ht _ k_168) (fun _ h9 => h9) rfl (ty_G_ok 8 (by decide)) rfl rfl (Nat.le_of_ble_eq_true rfl) d_G_begin_32 (fun H locs hP hD hS => ?_)
      have hP : va_P (dC, dI) cls (WE h g len fp many tlen tat qlen md gat kind (.ref (k wi)) (.ref (k ti)) gs (th + 1) st rq bl te og sc kd sr wo sa qb du) H := hP
      have hD : va_D A (WE h g len fp many tlen tat qlen md gat kind (.ref (k wi)) (.ref (k ti)) gs (th + 1) st rq bl te og sc kd sr wo sa qb du) := hD
      refine lv_aload_n hx hb d_G_begin_35 rfl (lv_at hl 0 rfl) ?_
      refine lv_aload_n hx hb d_G_begin_36 rfl (lv_at hl 0 rfl) ?_
      refine va_get (D := (dC, dI)) (ci := 3) (v := .ref (k wi)) (C := "SieveDesk$Grammar") (T := F_G) (N := 14) hx hb ht i_G hown hK hP 9 rfl rfl 5 (by decide) (ht _ k_165) (fun _ h9 => h9) rfl d_G_begin_37 ?_
      obtain ⟨r_7, hr_7⟩ := (ke_w hE (i := wi) (by omega)).2.2.2.1
      refine vk_getfN hx hb hr_7 hS hown (nw_use n_875 (hE.1 _ n_875)) (fun _ h9 => h9) d_G_begin_40 ?_
      refine va_put (D := (dC, dI)) (ci := 3) (v := .int r_7) (ty := .int) (C := "SieveDesk$Grammar") (T := F_G) (N := 14) hx hb ht i_G ty_G ty_G_ok n_G hown hK hP hD hS 9 rfl rfl 13 (by decide) (ht _ k_176) (fun _ h9 => h9) rfl (ty_G_ok 13 (by decide)) rfl rfl (Nat.le_of_ble_eq_true rfl) d_G_begin_43 (fun H locs hP hD hS => ?_)
      have hP : va_P (dC, dI) cls (WE h g len fp many tlen tat qlen md gat kind (.ref (k wi)) (.ref (k ti)) gs (th + 1) st rq bl te r_7 sc kd sr wo sa qb du) H := hP
      have hD : va_D A (WE h g len fp many tlen tat qlen md gat kind (.ref (k wi)) (.ref (k ti)) gs (th + 1) st rq bl te r_7 sc kd sr wo sa qb du) := hD
      refine lv_aload_n hx hb d_G_begin_46 rfl (lv_at hl 0 rfl) ?_
      refine lv_aload_n hx hb d_G_begin_47 rfl (lv_at hl 0 rfl) ?_
      refine va_get (D := (dC, dI)) (ci := 3) (v := .ref (k wi)) (C := "SieveDesk$Grammar") (T := F_G) (N := 14) hx hb ht i_G hown hK hP 9 rfl rfl 5 (by decide) (ht _ k_165) (fun _ h9 => h9) rfl d_G_begin_48 ?_
      have hFc := va_free (wc := (WE h g len fp many tlen tat qlen md gat kind (.ref (k wi)) (.ref (k ti)) gs (th + 1) st rq bl te r_7 sc kd sr wo sa qb du)) hD hS hA [0, 1, 2, 3, 4, 5, 6, 7, 8, 9, 10] rfl
      refine va_calli (va_runV (As := [.ref (k wi)]) (rest := []) ⟨hx, hb, hml, hown, ht⟩ (c_G_follow l dC dI k h g len fp many tlen tat qlen md gat kind gs (th + 1) st rq bl te r_7 wi ti sc kd sr sa qb du wo wi _ (by omega) (by omega) h_2 (by omega) (by omega) (by omega) (by omega) (by omega) (by omega) (by omega)) (cwV 1 ht (g_V k_483 k_485 k_24 k_77 k_486) rfl rfl rfl (by decide +kernel) ⟨(Nat.le_of_ble_eq_true rfl), (Nat.le_of_ble_eq_true rfl)⟩) ⟨fb_X, va_recv hK hP (ci := 3) (q0 := 9) rfl rfl, pre_X hE hS hFc hP hK hD⟩ rfl rfl hl.1 rfl (lv_room (Nat.le_of_ble_eq_true rfl)) d_G_begin_51 ⟨(Nat.le_of_ble_eq_true rfl), (Nat.le_of_ble_eq_true rfl)⟩) hS (fun q _ h9 => hFc q h9) hFc (fun r_16 u_15 t H locs het hvm hw hB hz1 hk1 hS => ?_)
      obtain ⟨md_8, du_9, gat_10, kind_11, wi_12, ti_13, gs_14⟩ := u_15
      try dsimp only at hw
      obtain ⟨p_17, p_18, p_19, p_20, p_21, p_22, p_23⟩ := hw
      obtain ⟨hP1, hK1, hD1⟩ := hB
      rw [het] at hP1
      have hP : va_P (dC, dI) cls (WE h g len fp many tlen tat qlen md_8 gat_10 kind_11 (.ref (k wi_12)) (.ref (k ti_13)) gs_14 (th + 1) st rq bl te r_7 sc kd sr wo sa qb du_9) H := hP1
      have hD : va_D A (WE h g len fp many tlen tat qlen md_8 gat_10 kind_11 (.ref (k wi_12)) (.ref (k ti_13)) gs_14 (th + 1) st rq bl te r_7 sc kd sr wo sa qb du_9) := hD1.weaken (fun _ _ _ h9 => hFc _ h9)
      exact fin r_16 (md_8, du_9, gat_10, kind_11, wi_12, ti_13, gs_14, (th + 1), r_7) _ _ _ ls d_G_begin_54 p_23 ⟨(by (try dsimp only); omega), (by (try dsimp only); omega), (by (try dsimp only); omega), (by (try dsimp only); omega), (by (try dsimp only); omega), (by (try dsimp only); omega), p_23⟩ hP hD hS
    · refine lv_iconst (v := 0) hx hb d_G_begin_23 (by decide) ?_
      have hc_0 : Int32.toInt 0 = 0 := by decide
      exact fin 0 (md, du, gat, kind, wi, ti, gs, th, og) _ _ _ ls d_G_begin_24 rfl ⟨(by (try dsimp only); omega), (by (try dsimp only); omega), (by (try dsimp only); omega), (by (try dsimp only); omega), (by (try dsimp only); omega), (by (try dsimp only); omega), rfl⟩ hP hD hS
set_option maxHeartbeats 4000000 in
set_option maxRecDepth 100000 in
theorem c_G_begin (l : Launch) (dC : Nat → ClassId) (dI : Nat → Nat → Nat) (k : Nat → Nat) (h : Nat → Nat) (g : Nat → ClassId) (len : Int32) (fp : Int32) (many : Int32) (tlen : Int32) (tat : Int32) (qlen : Int32) (md : Int32) (gat : Int32) (kind : Int32) (gs : Int32) (th : Int32) (st : Int32) (rq : Int32) (bl : Int32) (te : Int32) (og : Int32) (wi : Nat) (ti : Nat) (sc : Nat → Int32) (kd : Nat → Int32) (sr : Nat → Int32) (sa : Nat → Int32) (qb : Nat → Int32) (du : Nat → Int32) (wo : Nat → Option Nat)  (sz : Nat) (h_0 : 0 ≤ Int32.toInt many) (h_1 : Int32.toInt many ≤ 401) (h_2 : WOk k wo) (v_0 : 0 ≤ Int32.toInt md) (v_1 : Int32.toInt md ≤ 200) (v_2 : -1 ≤ Int32.toInt gat) (v_3 : Int32.toInt gat ≤ 400) (v_4 : wi < 43) (v_5 : ti < 43) : Met l y_G_begin (.code y_G_begin b_G_begin 1 (some .boolean) :: TT) ({ frames := 6, cells := 0, slots := 0, locals := 128 }) (va_Pc [.ref (h 9)] (PX dC dI k (TE g) (WE h g len fp many tlen tat qlen md gat kind (.ref (k wi)) (.ref (k ti)) gs th st rq bl te og sc kd sr wo sa qb du) sz)) (va_Qi (fun (r : Int32) (u : Int32 × (Nat → Int32) × Int32 × Int32 × Nat × Nat × Int32 × Int32 × Int32) => 0 ≤ Int32.toInt u.1 ∧ Int32.toInt u.1 ≤ 200 ∧ -1 ≤ Int32.toInt u.2.2.1 ∧ Int32.toInt u.2.2.1 ≤ 400 ∧ u.2.2.2.2.1 < 43 ∧ u.2.2.2.2.2.1 < 43 ∧ narrow .boolean (.int r) = .int r) (fun u t => BX dC dI (TE g) (va_A (WE h g len fp many tlen tat qlen md gat kind (.ref (k wi)) (.ref (k ti)) gs th st rq bl te og sc kd sr wo sa qb du) sz) (WE h g len fp many tlen tat qlen u.1 u.2.2.1 u.2.2.2.1 (.ref (k u.2.2.2.2.1)) (.ref (k u.2.2.2.2.2.1)) u.2.2.2.2.2.2.1 u.2.2.2.2.2.2.2.1 st rq bl te u.2.2.2.2.2.2.2.2 sc kd sr wo sa qb u.2.1) t) (va_A (WE h g len fp many tlen tat qlen md gat kind (.ref (k wi)) (.ref (k ti)) gs th st rq bl te og sc kd sr wo sa qb du) sz)) 0 0 (va_A (WE h g len fp many tlen tat qlen md gat kind (.ref (k wi)) (.ref (k ti)) gs th st rq bl te og sc kd sr wo sa qb du) sz) := by
  refine Met.ofW (cc := b_G_begin) (maxL := 1) (ret := (some .boolean)) (by decide) rfl ?_
  intro p e s m args below meth c s₁ B hml hv
  obtain ⟨rfl, hsz, hE, hP, hK, hD0⟩ := hv
  have hx := B.exec
  have hb := B.bytes
  have hr := B.returns
  have ht : ∀ w ∈ TT, w.before _ s = true := fun w hw => atoms_spec (ws := .code y_G_begin b_G_begin 1 (some .boolean) :: TT) B.pre w (List.mem_cons_of_mem _ hw)
  have hown : s.vm.findClass "SieveDesk$Grammar" = some m.cls := findClass_of_methodNamed B.named
  have hlocks := B.notSynchronized
  subst hsz
  have hD := hD0.self (sz := s.heap.size)
  generalize hAe : va_A (WE h g len fp many tlen tat qlen md gat kind (.ref (k wi)) (.ref (k ti)) gs th st rq bl te og sc kd sr wo sa qb du) s.heap.size = A at hE hD ⊢
  have hA : ∀ q : Nat, s.heap.size ≤ q → A q := fun q h9 => by rw [← hAe]; exact Or.inr h9
  have hS : va_S A s.heap s.heap [] := va_S.rf
  have hl := lv_entry ([.ref (h 9)]) (n := 1) (Nat.le_of_ble_eq_true rfl)
  rw [lg_entry_eq]
  generalize (lg_sl ([.ref (h 9)]) ++ List.replicate (1 - (lg_sl ([.ref (h 9)])).length) Slot.unset).toArray = ls at hl ⊢
  have hl : lv_has ls 1 [(0, .ref (h 9))] := hl
  exact bd_G_begin_0  hx hb hml hown ht hE hA hK h_0 h_1 h_2 (fun r u H locs pc ls hd hn hp hP hD hS => W.zret hx hb hr hn (fun t het hW => ⟨⟨r, u, rfl, hp, by rw [het]; exact hP, va_K.moved hW.alike hK, hD⟩, hS.F het⟩) hS.2.2 hd) md du gat kind wi ti gs th og v_0 v_1 v_2 v_3 v_4 v_5 _ _ ls hP hD hS hl
set_option maxHeartbeats 4000000 in
set_option maxRecDepth 100000 in
theorem bd_G_takeCommands_0 {p : Program} {l : Launch} {e : Env} {s : State} {m : MethodId} {args : Array Value} {below : List Frame} {meth : Method} {c : Code} {Q : State → Prop} {A : Nat → Prop} {dC : Nat → ClassId} {dI : Nat → Nat → Nat} {k h : Nat → Nat} {g : Nat → ClassId} {len : Int32} {fp : Int32} {many : Int32} {tlen : Int32} {tat : Int32} {qlen : Int32} {st : Int32} {rq : Int32} {bl : Int32} {te : Int32} {sc : Nat → Int32} {kd : Nat → Int32} {sr : Nat → Int32} {sa : Nat → Int32} {qb : Nat → Int32} {wo : Nat → Option Nat} (hx : p.tables.exec = Jvm.exec) (hb : c.code = b_G_takeCommands) (hml : c.maxLocals = 1) (hown : s.vm.findClass "SieveDesk$Grammar" = some m.cls) (ht : ∀ w ∈ TT, w.before args s = true) (hE : KE k A s s.heap) (hA : ∀ q : Nat, s.heap.size ≤ q → A q) (hK : va_K (dC, dI) cls (TE g) s)  (h_0 : 0 ≤ Int32.toInt many) (h_1 : Int32.toInt many ≤ 401) (h_2 : WOk k wo) (fin : ∀ (r : Int32) (u : Int32 × (Nat → Int32) × Int32 × Int32 × Nat × Nat × Int32 × Int32 × Int32) (H : Heap) (locs : List Loc) (pc : Nat) (ls : Array Slot), decode b_G_takeCommands pc = .ok (.ireturn, 1) → narrow .boolean (.int r) = .int r → (0 ≤ Int32.toInt u.1 ∧ Int32.toInt u.1 ≤ 200 ∧ -1 ≤ Int32.toInt u.2.2.1 ∧ Int32.toInt u.2.2.1 ≤ 400 ∧ u.2.2.2.2.1 < 43 ∧ u.2.2.2.2.2.1 < 43 ∧ narrow .boolean (.int r) = .int r) → va_P (dC, dI) cls (WE h g len fp many tlen tat qlen u.1 u.2.2.1 u.2.2.2.1 (.ref (k u.2.2.2.2.1)) (.ref (k u.2.2.2.2.2.1)) u.2.2.2.2.2.2.1 u.2.2.2.2.2.2.2.1 st rq bl te u.2.2.2.2.2.2.2.2 sc kd sr wo sa qb u.2.1) H → va_D A (WE h g len fp many tlen tat qlen u.1 u.2.2.1 u.2.2.2.1 (.ref (k u.2.2.2.2.1)) (.ref (k u.2.2.2.2.2.1)) u.2.2.2.2.2.2.1 u.2.2.2.2.2.2.2.1 st rq bl te u.2.2.2.2.2.2.2.2 sc kd sr wo sa qb u.2.1) → va_S A s.heap H locs → W p l e ({ frames := 7, cells := 0, slots := 0, locals := 148 } : Room) s m args below meth c H locs 0 0 Q (F0 m pc ls [.int r])) : ∀ (md : Int32) (du : Nat → Int32) (gat : Int32) (kind : Int32) (wi : Nat) (ti : Nat) (gs : Int32) (th : Int32) (og : Int32), 0 ≤ Int32.toInt md → Int32.toInt md ≤ 200 → -1 ≤ Int32.toInt gat → Int32.toInt gat ≤ 400 → wi < 43 → ti < 43 → ∀ (H : Heap) (locs : List Loc) (ls : Array Slot), va_P (dC, dI) cls (WE h g len fp many tlen tat qlen md gat kind (.ref (k wi)) (.ref (k ti)) gs th st rq bl te og sc kd sr wo sa qb du) H → va_D A (WE h g len fp many tlen tat qlen md gat kind (.ref (k wi)) (.ref (k ti)) gs th st rq bl te og sc kd sr wo sa qb du) → va_S A s.heap H locs → lv_has ls 1 [(0, .ref (h 9))] → W p l e ({ frames := 7, cells := 0, slots := 0, locals := 148 } : Room) s m args below meth c H locs 0 0 Q (F0 m 0 ls []) := by
  intro md du gat kind wi ti gs th og v_0 v_1 v_2 v_3 v_4 v_5 H locs ls hP hD hS hl
  refine lv_aload_n hx hb d_G_takeCommands_0 rfl (lv_at hl 0 rfl) ?_
  refine va_get (D := (dC, dI)) (ci := 3) (v := .ref (k wi)) (C := "SieveDesk$Grammar") (T := F_G) (N := 14) hx hb ht i_G hown hK hP 9 rfl rfl 5 (by decide) (ht _ k_165) (fun _ h9 => h9) rfl d_G_takeCommands_1 ?_
  obtain ⟨r_1, hr_1⟩ := (ke_w hE (i := wi) (by omega)).2.1
  refine vk_getfN hx hb hr_1 hS hown (nw_use n_873 (hE.1 _ n_873)) (fun _ h9 => h9) d_G_takeCommands_4 ?_
  refine lv_iconst (v := 1) hx hb d_G_takeCommands_7 (by decide) ?_
  refine lv_icmp_eq (tgt := 13) hx hb d_G_takeCommands_8 (by decide) (fun c_2 => ?_) (fun c_2 => ?_)
  · refine lv_aload_n hx hb d_G_takeCommands_13 rfl (lv_at hl 0 rfl) ?_
    refine va_get (D := (dC, dI)) (ci := 3) (v := .ref (k wi)) (C := "SieveDesk$Grammar") (T := F_G) (N := 14) hx hb ht i_G hown hK hP 9 rfl rfl 5 (by decide) (ht _ k_165) (fun _ h9 => h9) rfl d_G_takeCommands_14 ?_
    refine va_gets hx hb (ke_W_IF hE) hS hown (ht _ k_491) (fun _ h9 => h9) d_G_takeCommands_17 ?_
    refine lv_acmp_ne (rx := (some (k wi))) (ry := (some (k 4))) (tgt := 34) hx hb d_G_takeCommands_20 (by decide) (fun c_3 => ?_) (fun c_3 => ?_)
    · refine lv_aload_n hx hb d_G_takeCommands_34 rfl (lv_at hl 0 rfl) ?_
      refine va_ldcS hx hb hown (show vk_R "SieveDesk$Grammar" 167 "c" (k (100 + 108)) s from ke_l208 hE) d_G_takeCommands_35 ?_
      have hFc := va_free (wc := (WE h g len fp many tlen tat qlen md gat kind (.ref (k wi)) (.ref (k ti)) gs th st rq bl te og sc kd sr wo sa qb du)) hD hS hA [0, 1, 2, 3, 4, 5, 6, 7, 8, 9, 10] rfl
      refine va_callv (va_runV (As := [.ref (k (100 + 108))]) (rest := []) ⟨hx, hb, hml, hown, ht⟩ (c_G_expect l dC dI k h g len fp many tlen tat qlen md gat kind gs th st rq bl te og wi ti sc kd sr sa qb du wo 108 _ (by omega) (by omega) (by omega)) (cwV 1 ht (g_V k_471 k_473 k_22 k_77 k_474) rfl rfl rfl (by decide +kernel) ⟨(Nat.le_of_ble_eq_true rfl), (Nat.le_of_ble_eq_true rfl)⟩) ⟨fb_X, va_recv hK hP (ci := 3) (q0 := 9) rfl rfl, pre_X hE hS hFc hP hK hD⟩ rfl rfl hl.1 rfl (lv_room (Nat.le_of_ble_eq_true rfl)) d_G_takeCommands_37 ⟨(Nat.le_of_ble_eq_true rfl), (Nat.le_of_ble_eq_true rfl)⟩) hS (fun q _ h9 => hFc q h9) hFc (fun u_6 t H locs het hvm hw hB hz1 hk1 hS => ?_)
      obtain ⟨md_4, du_5⟩ := u_6
      try dsimp only at hw
      obtain ⟨p_8, p_9⟩ := hw
      obtain ⟨hP1, hK1, hD1⟩ := hB
      rw [het] at hP1
      have hP : va_P (dC, dI) cls (WE h g len fp many tlen tat qlen md_4 gat kind (.ref (k wi)) (.ref (k ti)) gs th st rq bl te og sc kd sr wo sa qb du_5) H := hP1
      have hD : va_D A (WE h g len fp many tlen tat qlen md_4 gat kind (.ref (k wi)) (.ref (k ti)) gs th st rq bl te og sc kd sr wo sa qb du_5) := hD1.weaken (fun _ _ _ h9 => hFc _ h9)
      refine lv_aload_n hx hb d_G_takeCommands_40 rfl (lv_at hl 0 rfl) ?_
      have hFc := va_free (wc := (WE h g len fp many tlen tat qlen md_4 gat kind (.ref (k wi)) (.ref (k ti)) gs th st rq bl te og sc kd sr wo sa qb du_5)) hD hS hA [0, 1, 2, 3, 4, 5, 6, 7, 8, 9, 10] rfl
      refine va_calli (va_runV (As := []) (rest := []) ⟨hx, hb, hml, hown, ht⟩ (c_G_begin l dC dI k h g len fp many tlen tat qlen md_4 gat kind gs th st rq bl te og wi ti sc kd sr sa qb du_5 wo  _ (by omega) (by omega) h_2 (by omega) (by omega) (by omega) (by omega) (by omega) (by omega)) (cwV 0 ht (g_V k_494 k_496 k_26 k_77 k_497) rfl rfl rfl (by decide +kernel) ⟨(Nat.le_of_ble_eq_true rfl), (Nat.le_of_ble_eq_true rfl)⟩) ⟨fb_X, va_recv hK hP (ci := 3) (q0 := 9) rfl rfl, pre_X hE hS hFc hP hK hD⟩ rfl rfl hl.1 rfl (lv_room (Nat.le_of_ble_eq_true rfl)) d_G_takeCommands_41 ⟨(Nat.le_of_ble_eq_true rfl), (Nat.le_of_ble_eq_true rfl)⟩) hS (fun q _ h9 => hFc q h9) hFc (fun r_20 u_19 t H locs het hvm hw hB hz1 hk1 hS => ?_)
      obtain ⟨md_10, du_11, gat_12, kind_13, wi_14, ti_15, gs_16, th_17, og_18⟩ := u_19
      try dsimp only at hw
      obtain ⟨p_21, p_22, p_23, p_24, p_25, p_26, p_27⟩ := hw
      obtain ⟨hP1, hK1, hD1⟩ := hB
      rw [het] at hP1
      have hP : va_P (dC, dI) cls (WE h g len fp many tlen tat qlen md_10 gat_12 kind_13 (.ref (k wi_14)) (.ref (k ti_15)) gs_16 th_17 st rq bl te og_18 sc kd sr wo sa qb du_11) H := hP1
      have hD : va_D A (WE h g len fp many tlen tat qlen md_10 gat_12 kind_13 (.ref (k wi_14)) (.ref (k ti_15)) gs_16 th_17 st rq bl te og_18 sc kd sr wo sa qb du_11) := hD1.weaken (fun _ _ _ h9 => hFc _ h9)
      exact fin r_20 (md_10, du_11, gat_12, kind_13, wi_14, ti_15, gs_16, th_17, og_18) _ _ _ ls d_G_takeCommands_44 p_27 ⟨(by (try dsimp only); omega), (by (try dsimp only); omega), (by (try dsimp only); omega), (by (try dsimp only); omega), (by (try dsimp only); omega), (by (try dsimp only); omega), p_27⟩ hP hD hS
    · refine lv_aload_n hx hb d_G_takeCommands_23 rfl (lv_at hl 0 rfl) ?_
      refine va_get (D := (dC, dI)) (ci := 3) (v := .int bl) (C := "SieveDesk$Grammar") (T := F_G) (N := 14) hx hb ht i_G hown hK hP 9 rfl rfl 11 (by decide) (ht _ k_174) (fun _ h9 => h9) rfl d_G_takeCommands_24 ?_
      refine lv_bipush (v := 8) hx hb d_G_takeCommands_27 (by decide) ?_
      refine lv_icmp_lt (tgt := 34) hx hb d_G_takeCommands_29 (by decide) (fun c_28 => ?_) (fun c_28 => ?_)
      · refine lv_aload_n hx hb d_G_takeCommands_34 rfl (lv_at hl 0 rfl) ?_
        refine va_ldcS hx hb hown (show vk_R "SieveDesk$Grammar" 167 "c" (k (100 + 108)) s from ke_l208 hE) d_G_takeCommands_35 ?_
        have hFc := va_free (wc := (WE h g len fp many tlen tat qlen md gat kind (.ref (k wi)) (.ref (k ti)) gs th st rq bl te og sc kd sr wo sa qb du)) hD hS hA [0, 1, 2, 3, 4, 5, 6, 7, 8, 9, 10] rfl
        refine va_callv (va_runV (As := [.ref (k (100 + 108))]) (rest := []) ⟨hx, hb, hml, hown, ht⟩ (c_G_expect l dC dI k h g len fp many tlen tat qlen md gat kind gs th st rq bl te og wi ti sc kd sr sa qb du wo 108 _ (by omega) (by omega) (by omega)) (cwV 1 ht (g_V k_471 k_473 k_22 k_77 k_474) rfl rfl rfl (by decide +kernel) ⟨(Nat.le_of_ble_eq_true rfl), (Nat.le_of_ble_eq_true rfl)⟩) ⟨fb_X, va_recv hK hP (ci := 3) (q0 := 9) rfl rfl, pre_X hE hS hFc hP hK hD⟩ rfl rfl hl.1 rfl (lv_room (Nat.le_of_ble_eq_true rfl)) d_G_takeCommands_37 ⟨(Nat.le_of_ble_eq_true rfl), (Nat.le_of_ble_eq_true rfl)⟩) hS (fun q _ h9 => hFc q h9) hFc (fun u_31 t H locs het hvm hw hB hz1 hk1 hS => ?_)
        obtain ⟨md_29, du_30⟩ := u_31
        try dsimp only at hw
        obtain ⟨p_33, p_34⟩ := hw
        obtain ⟨hP1, hK1, hD1⟩ := hB
        rw [het] at hP1
        have hP : va_P (dC, dI) cls (WE h g len fp many tlen tat qlen md_29 gat kind (.ref (k wi)) (.ref (k ti)) gs th st rq bl te og sc kd sr wo sa qb du_30) H := hP1
        have hD : va_D A (WE h g len fp many tlen tat qlen md_29 gat kind (.ref (k wi)) (.ref (k ti)) gs th st rq bl te og sc kd sr wo sa qb du_30) := hD1.weaken (fun _ _ _ h9 => hFc _ h9)
        refine lv_aload_n hx hb d_G_takeCommands_40 rfl (lv_at hl 0 rfl) ?_
        have hFc := va_free (wc := (WE h g len fp many tlen tat qlen md_29 gat kind (.ref (k wi)) (.ref (k ti)) gs th st rq bl te og sc kd sr wo sa qb du_30)) hD hS hA [0, 1, 2, 3, 4, 5, 6, 7, 8, 9, 10] rfl
        refine va_calli (va_runV (As := []) (rest := []) ⟨hx, hb, hml, hown, ht⟩ (c_G_begin l dC dI k h g len fp many tlen tat qlen md_29 gat kind gs th st rq bl te og wi ti sc kd sr sa qb du_30 wo  _ (by omega) (by omega) h_2 (by omega) (by omega) (by omega) (by omega) (by omega) (by omega)) (cwV 0 ht (g_V k_494 k_496 k_26 k_77 k_497) rfl rfl rfl (by decide +kernel) ⟨(Nat.le_of_ble_eq_true rfl), (Nat.le_of_ble_eq_true rfl)⟩) ⟨fb_X, va_recv hK hP (ci := 3) (q0 := 9) rfl rfl, pre_X hE hS hFc hP hK hD⟩ rfl rfl hl.1 rfl (lv_room (Nat.le_of_ble_eq_true rfl)) d_G_takeCommands_41 ⟨(Nat.le_of_ble_eq_true rfl), (Nat.le_of_ble_eq_true rfl)⟩) hS (fun q _ h9 => hFc q h9) hFc (fun r_45 u_44 t H locs het hvm hw hB hz1 hk1 hS => ?_)
        obtain ⟨md_35, du_36, gat_37, kind_38, wi_39, ti_40, gs_41, th_42, og_43⟩ := u_44
        try dsimp only at hw
        obtain ⟨p_46, p_47, p_48, p_49, p_50, p_51, p_52⟩ := hw
        obtain ⟨hP1, hK1, hD1⟩ := hB
        rw [het] at hP1
        have hP : va_P (dC, dI) cls (WE h g len fp many tlen tat qlen md_35 gat_37 kind_38 (.ref (k wi_39)) (.ref (k ti_40)) gs_41 th_42 st rq bl te og_43 sc kd sr wo sa qb du_36) H := hP1
        have hD : va_D A (WE h g len fp many tlen tat qlen md_35 gat_37 kind_38 (.ref (k wi_39)) (.ref (k ti_40)) gs_41 th_42 st rq bl te og_43 sc kd sr wo sa qb du_36) := hD1.weaken (fun _ _ _ h9 => hFc _ h9)
        exact fin r_45 (md_35, du_36, gat_37, kind_38, wi_39, ti_40, gs_41, th_42, og_43) _ _ _ ls d_G_takeCommands_44 p_52 ⟨(by (try dsimp only); omega), (by (try dsimp only); omega), (by (try dsimp only); omega), (by (try dsimp only); omega), (by (try dsimp only); omega), (by (try dsimp only); omega), p_52⟩ hP hD hS
      · refine lv_iconst (v := 0) hx hb d_G_takeCommands_32 (by decide) ?_
        have hc_0 : Int32.toInt 0 = 0 := by decide
        exact fin 0 (md, du, gat, kind, wi, ti, gs, th, og) _ _ _ ls d_G_takeCommands_33 rfl ⟨(by (try dsimp only); omega), (by (try dsimp only); omega), (by (try dsimp only); omega), (by (try dsimp only); omega), (by (try dsimp only); omega), (by (try dsimp only); omega), rfl⟩ hP hD hS
  · refine lv_iconst (v := 1) hx hb d_G_takeCommands_11 (by decide) ?_
    have hc_1 : Int32.toInt 1 = 1 := by decide
    exact fin 1 (md, du, gat, kind, wi, ti, gs, th, og) _ _ _ ls d_G_takeCommands_12 rfl ⟨(by (try dsimp only); omega), (by (try dsimp only); omega), (by (try dsimp only); omega), (by (try dsimp only); omega), (by (try dsimp only); omega), (by (try dsimp only); omega), rfl⟩ hP hD hS
set_option maxHeartbeats 4000000 in
set_option maxRecDepth 100000 in
theorem c_G_takeCommands (l : Launch) (dC : Nat → ClassId) (dI : Nat → Nat → Nat) (k : Nat → Nat) (h : Nat → Nat) (g : Nat → ClassId) (len : Int32) (fp : Int32) (many : Int32) (tlen : Int32) (tat : Int32) (qlen : Int32) (md : Int32) (gat : Int32) (kind : Int32) (gs : Int32) (th : Int32) (st : Int32) (rq : Int32) (bl : Int32) (te : Int32) (og : Int32) (wi : Nat) (ti : Nat) (sc : Nat → Int32) (kd : Nat → Int32) (sr : Nat → Int32) (sa : Nat → Int32) (qb : Nat → Int32) (du : Nat → Int32) (wo : Nat → Option Nat)  (sz : Nat) (h_0 : 0 ≤ Int32.toInt many) (h_1 : Int32.toInt many ≤ 401) (h_2 : WOk k wo) (v_0 : 0 ≤ Int32.toInt md) (v_1 : Int32.toInt md ≤ 200) (v_2 : -1 ≤ Int32.toInt gat) (v_3 : Int32.toInt gat ≤ 400) (v_4 : wi < 43) (v_5 : ti < 43) : Met l y_G_takeCommands (.code y_G_takeCommands b_G_takeCommands 1 (some .boolean) :: TT) ({ frames := 7, cells := 0, slots := 0, locals := 148 }) (va_Pc [.ref (h 9)] (PX dC dI k (TE g) (WE h g len fp many tlen tat qlen md gat kind (.ref (k wi)) (.ref (k ti)) gs th st rq bl te og sc kd sr wo sa qb du) sz)) (va_Qi (fun (r : Int32) (u : Int32 × (Nat → Int32) × Int32 × Int32 × Nat × Nat × Int32 × Int32 × Int32) => 0 ≤ Int32.toInt u.1 ∧ Int32.toInt u.1 ≤ 200 ∧ -1 ≤ Int32.toInt u.2.2.1 ∧ Int32.toInt u.2.2.1 ≤ 400 ∧ u.2.2.2.2.1 < 43 ∧ u.2.2.2.2.2.1 < 43 ∧ narrow .boolean (.int r) = .int r) (fun u t => BX dC dI (TE g) (va_A (WE h g len fp many tlen tat qlen md gat kind (.ref (k wi)) (.ref (k ti)) gs th st rq bl te og sc kd sr wo sa qb du) sz) (WE h g len fp many tlen tat qlen u.1 u.2.2.1 u.2.2.2.1 (.ref (k u.2.2.2.2.1)) (.ref (k u.2.2.2.2.2.1)) u.2.2.2.2.2.2.1 u.2.2.2.2.2.2.2.1 st rq bl te u.2.2.2.2.2.2.2.2 sc kd sr wo sa qb u.2.1) t) (va_A (WE h g len fp many tlen tat qlen md gat kind (.ref (k wi)) (.ref (k ti)) gs th st rq bl te og sc kd sr wo sa qb du) sz)) 0 0 (va_A (WE h g len fp many tlen tat qlen md gat kind (.ref (k wi)) (.ref (k ti)) gs th st rq bl te og sc kd sr wo sa qb du) sz) := by
  refine Met.ofW (cc := b_G_takeCommands) (maxL := 1) (ret := (some .boolean)) (by decide) rfl ?_
  intro p e s m args below meth c s₁ B hml hv
  obtain ⟨rfl, hsz, hE, hP, hK, hD0⟩ := hv
  have hx := B.exec
  have hb := B.bytes
  have hr := B.returns
  have ht : ∀ w ∈ TT, w.before _ s = true := fun w hw => atoms_spec (ws := .code y_G_takeCommands b_G_takeCommands 1 (some .boolean) :: TT) B.pre w (List.mem_cons_of_mem _ hw)
  have hown : s.vm.findClass "SieveDesk$Grammar" = some m.cls := findClass_of_methodNamed B.named
  have hlocks := B.notSynchronized
  subst hsz
  have hD := hD0.self (sz := s.heap.size)
  generalize hAe : va_A (WE h g len fp many tlen tat qlen md gat kind (.ref (k wi)) (.ref (k ti)) gs th st rq bl te og sc kd sr wo sa qb du) s.heap.size = A at hE hD ⊢
  have hA : ∀ q : Nat, s.heap.size ≤ q → A q := fun q h9 => by rw [← hAe]; exact Or.inr h9
  have hS : va_S A s.heap s.heap [] := va_S.rf
  have hl := lv_entry ([.ref (h 9)]) (n := 1) (Nat.le_of_ble_eq_true rfl)
  rw [lg_entry_eq]
  generalize (lg_sl ([.ref (h 9)]) ++ List.replicate (1 - (lg_sl ([.ref (h 9)])).length) Slot.unset).toArray = ls at hl ⊢
  have hl : lv_has ls 1 [(0, .ref (h 9))] := hl
  exact bd_G_takeCommands_0  hx hb hml hown ht hE hA hK h_0 h_1 h_2 (fun r u H locs pc ls hd hn hp hP hD hS => W.zret hx hb hr hn (fun t het hW => ⟨⟨r, u, rfl, hp, by rw [het]; exact hP, va_K.moved hW.alike hK, hD⟩, hS.F het⟩) hS.2.2 hd) md du gat kind wi ti gs th og v_0 v_1 v_2 v_3 v_4 v_5 _ _ ls hP hD hS hl
set_option maxHeartbeats 4000000 in
set_option maxRecDepth 100000 in
theorem bd_G_takeTest_0 {p : Program} {l : Launch} {e : Env} {s : State} {m : MethodId} {args : Array Value} {below : List Frame} {meth : Method} {c : Code} {Q : State → Prop} {A : Nat → Prop} {dC : Nat → ClassId} {dI : Nat → Nat → Nat} {k h : Nat → Nat} {g : Nat → ClassId} {len : Int32} {fp : Int32} {many : Int32} {tlen : Int32} {tat : Int32} {qlen : Int32} {st : Int32} {rq : Int32} {bl : Int32} {sc : Nat → Int32} {kd : Nat → Int32} {sr : Nat → Int32} {sa : Nat → Int32} {qb : Nat → Int32} {wo : Nat → Option Nat} (hx : p.tables.exec = Jvm.exec) (hb : c.code = b_G_takeTest) (hml : c.maxLocals = 1) (hown : s.vm.findClass "SieveDesk$Grammar" = some m.cls) (ht : ∀ w ∈ TT, w.before args s = true) (hE : KE k A s s.heap) (hA : ∀ q : Nat, s.heap.size ≤ q → A q) (hK : va_K (dC, dI) cls (TE g) s)  (h_0 : 0 ≤ Int32.toInt many) (h_1 : Int32.toInt many ≤ 401) (h_2 : WOk k wo) (fin : ∀ (r : Int32) (u : Int32 × (Nat → Int32) × Int32 × Int32 × Nat × Nat × Int32 × Int32 × Int32 × Int32) (H : Heap) (locs : List Loc) (pc : Nat) (ls : Array Slot), decode b_G_takeTest pc = .ok (.ireturn, 1) → narrow .boolean (.int r) = .int r → (0 ≤ Int32.toInt u.1 ∧ Int32.toInt u.1 ≤ 200 ∧ -1 ≤ Int32.toInt u.2.2.1 ∧ Int32.toInt u.2.2.1 ≤ 400 ∧ u.2.2.2.2.1 < 43 ∧ u.2.2.2.2.2.1 < 43 ∧ narrow .boolean (.int r) = .int r) → va_P (dC, dI) cls (WE h g len fp many tlen tat qlen u.1 u.2.2.1 u.2.2.2.1 (.ref (k u.2.2.2.2.1)) (.ref (k u.2.2.2.2.2.1)) u.2.2.2.2.2.2.1 u.2.2.2.2.2.2.2.1 st rq bl u.2.2.2.2.2.2.2.2.1 u.2.2.2.2.2.2.2.2.2 sc kd sr wo sa qb u.2.1) H → va_D A (WE h g len fp many tlen tat qlen u.1 u.2.2.1 u.2.2.2.1 (.ref (k u.2.2.2.2.1)) (.ref (k u.2.2.2.2.2.1)) u.2.2.2.2.2.2.1 u.2.2.2.2.2.2.2.1 st rq bl u.2.2.2.2.2.2.2.2.1 u.2.2.2.2.2.2.2.2.2 sc kd sr wo sa qb u.2.1) → va_S A s.heap H locs → W p l e ({ frames := 7, cells := 0, slots := 0, locals := 148 } : Room) s m args below meth c H locs 0 0 Q (F0 m pc ls [.int r])) : ∀ (md : Int32) (du : Nat → Int32) (gat : Int32) (kind : Int32) (wi : Nat) (ti : Nat) (gs : Int32) (th : Int32) (te : Int32) (og : Int32), 0 ≤ Int32.toInt md → Int32.toInt md ≤ 200 → -1 ≤ Int32.toInt gat → Int32.toInt gat ≤ 400 → wi < 43 → ti < 43 → ∀ (H : Heap) (locs : List Loc) (ls : Array Slot), va_P (dC, dI) cls (WE h g len fp many tlen tat qlen md gat kind (.ref (k wi)) (.ref (k ti)) gs th st rq bl te og sc kd sr wo sa qb du) H → va_D A (WE h g len fp many tlen tat qlen md gat kind (.ref (k wi)) (.ref (k ti)) gs th st rq bl te og sc kd sr wo sa qb du) → va_S A s.heap H locs → lv_has ls 1 [(0, .ref (h 9))] → W p l e ({ frames := 7, cells := 0, slots := 0, locals := 148 } : Room) s m args below meth c H locs 0 0 Q (F0 m 0 ls []) := by
  intro md du gat kind wi ti gs th te og v_0 v_1 v_2 v_3 v_4 v_5 H locs ls hP hD hS hl
  refine lv_aload_n hx hb d_G_takeTest_0 rfl (lv_at hl 0 rfl) ?_
  refine va_get (D := (dC, dI)) (ci := 3) (v := .ref (k wi)) (C := "SieveDesk$Grammar") (T := F_G) (N := 14) hx hb ht i_G hown hK hP 9 rfl rfl 5 (by decide) (ht _ k_165) (fun _ h9 => h9) rfl d_G_takeTest_1 ?_
  obtain ⟨r_1, hr_1⟩ := (ke_w hE (i := wi) (by omega)).2.1
  refine vk_getfN hx hb hr_1 hS hown (nw_use n_873 (hE.1 _ n_873)) (fun _ h9 => h9) d_G_takeTest_4 ?_
  refine lv_iconst (v := 2) hx hb d_G_takeTest_7 (by decide) ?_
  refine lv_icmp_ne (tgt := 20) hx hb d_G_takeTest_8 (by decide) (fun c_2 => ?_) (fun c_2 => ?_)
  · refine lv_iconst (v := 0) hx hb d_G_takeTest_20 (by decide) ?_
    have hc_0 : Int32.toInt 0 = 0 := by decide
    exact fin 0 (md, du, gat, kind, wi, ti, gs, th, te, og) _ _ _ ls d_G_takeTest_21 rfl ⟨(by (try dsimp only); omega), (by (try dsimp only); omega), (by (try dsimp only); omega), (by (try dsimp only); omega), (by (try dsimp only); omega), (by (try dsimp only); omega), rfl⟩ hP hD hS
  · refine lv_aload_n hx hb d_G_takeTest_11 rfl (lv_at hl 0 rfl) ?_
    refine va_get (D := (dC, dI)) (ci := 3) (v := .int te) (C := "SieveDesk$Grammar") (T := F_G) (N := 14) hx hb ht i_G hown hK hP 9 rfl rfl 12 (by decide) (ht _ k_175) (fun _ h9 => h9) rfl d_G_takeTest_12 ?_
    refine lv_bipush (v := 8) hx hb d_G_takeTest_15 (by decide) ?_
    refine lv_icmp_lt (tgt := 22) hx hb d_G_takeTest_17 (by decide) (fun c_3 => ?_) (fun c_3 => ?_)
    · refine lv_aload_n hx hb d_G_takeTest_22 rfl (lv_at hl 0 rfl) ?_
      refine lv_dup hx hb d_G_takeTest_23 rfl ?_
      refine va_get (D := (dC, dI)) (ci := 3) (v := .int te) (C := "SieveDesk$Grammar") (T := F_G) (N := 14) hx hb ht i_G hown hK hP 9 rfl rfl 12 (by decide) (ht _ k_175) (fun _ h9 => h9) rfl d_G_takeTest_24 ?_
      refine lv_iconst (v := 1) hx hb d_G_takeTest_27 (by decide) ?_
      refine lv_iadd hx hb d_G_takeTest_28 ?_
      refine va_put (D := (dC, dI)) (ci := 3) (v := .int (te + 1)) (ty := .int) (C := "SieveDesk$Grammar") (T := F_G) (N := 14) hx hb ht i_G ty_G ty_G_ok n_G hown hK hP hD hS 9 rfl rfl 12 (by decide) (ht _ k_175) (fun _ h9 => h9) rfl (ty_G_ok 12 (by decide)) rfl rfl (Nat.le_of_ble_eq_true rfl) d_G_takeTest_29 (fun H locs hP hD hS => ?_)
      have hP : va_P (dC, dI) cls (WE h g len fp many tlen tat qlen md gat kind (.ref (k wi)) (.ref (k ti)) gs th st rq bl (te + 1) og sc kd sr wo sa qb du) H := hP
      have hD : va_D A (WE h g len fp many tlen tat qlen md gat kind (.ref (k wi)) (.ref (k ti)) gs th st rq bl (te + 1) og sc kd sr wo sa qb du) := hD
      refine lv_aload_n hx hb d_G_takeTest_32 rfl (lv_at hl 0 rfl) ?_
      refine va_ldcS hx hb hown (show vk_R "SieveDesk$Grammar" 172 "v" (k (100 + 109)) s from ke_l209 hE) d_G_takeTest_33 ?_
      have hFc := va_free (wc := (WE h g len fp many tlen tat qlen md gat kind (.ref (k wi)) (.ref (k ti)) gs th st rq bl (te + 1) og sc kd sr wo sa qb du)) hD hS hA [0, 1, 2, 3, 4, 5, 6, 7, 8, 9, 10] rfl
      refine va_callv (va_runV (As := [.ref (k (100 + 109))]) (rest := []) ⟨hx, hb, hml, hown, ht⟩ (c_G_expect l dC dI k h g len fp many tlen tat qlen md gat kind gs th st rq bl (te + 1) og wi ti sc kd sr sa qb du wo 109 _ (by omega) (by omega) (by omega)) (cwV 1 ht (g_V k_471 k_473 k_22 k_77 k_474) rfl rfl rfl (by decide +kernel) ⟨(Nat.le_of_ble_eq_true rfl), (Nat.le_of_ble_eq_true rfl)⟩) ⟨fb_X, va_recv hK hP (ci := 3) (q0 := 9) rfl rfl, pre_X hE hS hFc hP hK hD⟩ rfl rfl hl.1 rfl (lv_room (Nat.le_of_ble_eq_true rfl)) d_G_takeTest_35 ⟨(Nat.le_of_ble_eq_true rfl), (Nat.le_of_ble_eq_true rfl)⟩) hS (fun q _ h9 => hFc q h9) hFc (fun u_6 t H locs het hvm hw hB hz1 hk1 hS => ?_)
      obtain ⟨md_4, du_5⟩ := u_6
      try dsimp only at hw
      obtain ⟨p_8, p_9⟩ := hw
      obtain ⟨hP1, hK1, hD1⟩ := hB
      rw [het] at hP1
      have hP : va_P (dC, dI) cls (WE h g len fp many tlen tat qlen md_4 gat kind (.ref (k wi)) (.ref (k ti)) gs th st rq bl (te + 1) og sc kd sr wo sa qb du_5) H := hP1
      have hD : va_D A (WE h g len fp many tlen tat qlen md_4 gat kind (.ref (k wi)) (.ref (k ti)) gs th st rq bl (te + 1) og sc kd sr wo sa qb du_5) := hD1.weaken (fun _ _ _ h9 => hFc _ h9)
      refine lv_aload_n hx hb d_G_takeTest_38 rfl (lv_at hl 0 rfl) ?_
      have hFc := va_free (wc := (WE h g len fp many tlen tat qlen md_4 gat kind (.ref (k wi)) (.ref (k ti)) gs th st rq bl (te + 1) og sc kd sr wo sa qb du_5)) hD hS hA [0, 1, 2, 3, 4, 5, 6, 7, 8, 9, 10] rfl
      refine va_calli (va_runV (As := []) (rest := []) ⟨hx, hb, hml, hown, ht⟩ (c_G_begin l dC dI k h g len fp many tlen tat qlen md_4 gat kind gs th st rq bl (te + 1) og wi ti sc kd sr sa qb du_5 wo  _ (by omega) (by omega) h_2 (by omega) (by omega) (by omega) (by omega) (by omega) (by omega)) (cwV 0 ht (g_V k_494 k_496 k_26 k_77 k_497) rfl rfl rfl (by decide +kernel) ⟨(Nat.le_of_ble_eq_true rfl), (Nat.le_of_ble_eq_true rfl)⟩) ⟨fb_X, va_recv hK hP (ci := 3) (q0 := 9) rfl rfl, pre_X hE hS hFc hP hK hD⟩ rfl rfl hl.1 rfl (lv_room (Nat.le_of_ble_eq_true rfl)) d_G_takeTest_39 ⟨(Nat.le_of_ble_eq_true rfl), (Nat.le_of_ble_eq_true rfl)⟩) hS (fun q _ h9 => hFc q h9) hFc (fun r_20 u_19 t H locs het hvm hw hB hz1 hk1 hS => ?_)
      obtain ⟨md_10, du_11, gat_12, kind_13, wi_14, ti_15, gs_16, th_17, og_18⟩ := u_19
      try dsimp only at hw
      obtain ⟨p_21, p_22, p_23, p_24, p_25, p_26, p_27⟩ := hw
      obtain ⟨hP1, hK1, hD1⟩ := hB
      rw [het] at hP1
      have hP : va_P (dC, dI) cls (WE h g len fp many tlen tat qlen md_10 gat_12 kind_13 (.ref (k wi_14)) (.ref (k ti_15)) gs_16 th_17 st rq bl (te + 1) og_18 sc kd sr wo sa qb du_11) H := hP1
      have hD : va_D A (WE h g len fp many tlen tat qlen md_10 gat_12 kind_13 (.ref (k wi_14)) (.ref (k ti_15)) gs_16 th_17 st rq bl (te + 1) og_18 sc kd sr wo sa qb du_11) := hD1.weaken (fun _ _ _ h9 => hFc _ h9)
      exact fin r_20 (md_10, du_11, gat_12, kind_13, wi_14, ti_15, gs_16, th_17, (te + 1), og_18) _ _ _ ls d_G_takeTest_42 p_27 ⟨(by (try dsimp only); omega), (by (try dsimp only); omega), (by (try dsimp only); omega), (by (try dsimp only); omega), (by (try dsimp only); omega), (by (try dsimp only); omega), p_27⟩ hP hD hS
    · refine lv_iconst (v := 0) hx hb d_G_takeTest_20 (by decide) ?_
      have hc_0 : Int32.toInt 0 = 0 := by decide
      exact fin 0 (md, du, gat, kind, wi, ti, gs, th, te, og) _ _ _ ls d_G_takeTest_21 rfl ⟨(by (try dsimp only); omega), (by (try dsimp only); omega), (by (try dsimp only); omega), (by (try dsimp only); omega), (by (try dsimp only); omega), (by (try dsimp only); omega), rfl⟩ hP hD hS
set_option maxHeartbeats 4000000 in
set_option maxRecDepth 100000 in
theorem c_G_takeTest (l : Launch) (dC : Nat → ClassId) (dI : Nat → Nat → Nat) (k : Nat → Nat) (h : Nat → Nat) (g : Nat → ClassId) (len : Int32) (fp : Int32) (many : Int32) (tlen : Int32) (tat : Int32) (qlen : Int32) (md : Int32) (gat : Int32) (kind : Int32) (gs : Int32) (th : Int32) (st : Int32) (rq : Int32) (bl : Int32) (te : Int32) (og : Int32) (wi : Nat) (ti : Nat) (sc : Nat → Int32) (kd : Nat → Int32) (sr : Nat → Int32) (sa : Nat → Int32) (qb : Nat → Int32) (du : Nat → Int32) (wo : Nat → Option Nat)  (sz : Nat) (h_0 : 0 ≤ Int32.toInt many) (h_1 : Int32.toInt many ≤ 401) (h_2 : WOk k wo) (v_0 : 0 ≤ Int32.toInt md) (v_1 : Int32.toInt md ≤ 200) (v_2 : -1 ≤ Int32.toInt gat) (v_3 : Int32.toInt gat ≤ 400) (v_4 : wi < 43) (v_5 : ti < 43) : Met l y_G_takeTest (.code y_G_takeTest b_G_takeTest 1 (some .boolean) :: TT) ({ frames := 7, cells := 0, slots := 0, locals := 148 }) (va_Pc [.ref (h 9)] (PX dC dI k (TE g) (WE h g len fp many tlen tat qlen md gat kind (.ref (k wi)) (.ref (k ti)) gs th st rq bl te og sc kd sr wo sa qb du) sz)) (va_Qi (fun (r : Int32) (u : Int32 × (Nat → Int32) × Int32 × Int32 × Nat × Nat × Int32 × Int32 × Int32 × Int32) => 0 ≤ Int32.toInt u.1 ∧ Int32.toInt u.1 ≤ 200 ∧ -1 ≤ Int32.toInt u.2.2.1 ∧ Int32.toInt u.2.2.1 ≤ 400 ∧ u.2.2.2.2.1 < 43 ∧ u.2.2.2.2.2.1 < 43 ∧ narrow .boolean (.int r) = .int r) (fun u t => BX dC dI (TE g) (va_A (WE h g len fp many tlen tat qlen md gat kind (.ref (k wi)) (.ref (k ti)) gs th st rq bl te og sc kd sr wo sa qb du) sz) (WE h g len fp many tlen tat qlen u.1 u.2.2.1 u.2.2.2.1 (.ref (k u.2.2.2.2.1)) (.ref (k u.2.2.2.2.2.1)) u.2.2.2.2.2.2.1 u.2.2.2.2.2.2.2.1 st rq bl u.2.2.2.2.2.2.2.2.1 u.2.2.2.2.2.2.2.2.2 sc kd sr wo sa qb u.2.1) t) (va_A (WE h g len fp many tlen tat qlen md gat kind (.ref (k wi)) (.ref (k ti)) gs th st rq bl te og sc kd sr wo sa qb du) sz)) 0 0 (va_A (WE h g len fp many tlen tat qlen md gat kind (.ref (k wi)) (.ref (k ti)) gs th st rq bl te og sc kd sr wo sa qb du) sz) := by
  refine Met.ofW (cc := b_G_takeTest) (maxL := 1) (ret := (some .boolean)) (by decide) rfl ?_
  intro p e s m args below meth c s₁ B hml hv
  obtain ⟨rfl, hsz, hE, hP, hK, hD0⟩ := hv
  have hx := B.exec
  have hb := B.bytes
  have hr := B.returns
  have ht : ∀ w ∈ TT, w.before _ s = true := fun w hw => atoms_spec (ws := .code y_G_takeTest b_G_takeTest 1 (some .boolean) :: TT) B.pre w (List.mem_cons_of_mem _ hw)
  have hown : s.vm.findClass "SieveDesk$Grammar" = some m.cls := findClass_of_methodNamed B.named
  have hlocks := B.notSynchronized
  subst hsz
  have hD := hD0.self (sz := s.heap.size)
  generalize hAe : va_A (WE h g len fp many tlen tat qlen md gat kind (.ref (k wi)) (.ref (k ti)) gs th st rq bl te og sc kd sr wo sa qb du) s.heap.size = A at hE hD ⊢
  have hA : ∀ q : Nat, s.heap.size ≤ q → A q := fun q h9 => by rw [← hAe]; exact Or.inr h9
  have hS : va_S A s.heap s.heap [] := va_S.rf
  have hl := lv_entry ([.ref (h 9)]) (n := 1) (Nat.le_of_ble_eq_true rfl)
  rw [lg_entry_eq]
  generalize (lg_sl ([.ref (h 9)]) ++ List.replicate (1 - (lg_sl ([.ref (h 9)])).length) Slot.unset).toArray = ls at hl ⊢
  have hl : lv_has ls 1 [(0, .ref (h 9))] := hl
  exact bd_G_takeTest_0  hx hb hml hown ht hE hA hK h_0 h_1 h_2 (fun r u H locs pc ls hd hn hp hP hD hS => W.zret hx hb hr hn (fun t het hW => ⟨⟨r, u, rfl, hp, by rw [het]; exact hP, va_K.moved hW.alike hK, hD⟩, hS.F het⟩) hS.2.2 hd) md du gat kind wi ti gs th te og v_0 v_1 v_2 v_3 v_4 v_5 _ _ ls hP hD hS hl
set_option maxHeartbeats 4000000 in
set_option maxRecDepth 100000 in
theorem bd_G_takeMoreTests_0 {p : Program} {l : Launch} {e : Env} {s : State} {m : MethodId} {args : Array Value} {below : List Frame} {meth : Method} {c : Code} {Q : State → Prop} {A : Nat → Prop} {dC : Nat → ClassId} {dI : Nat → Nat → Nat} {k h : Nat → Nat} {g : Nat → ClassId} {len : Int32} {fp : Int32} {many : Int32} {tlen : Int32} {tat : Int32} {qlen : Int32} {th : Int32} {st : Int32} {rq : Int32} {bl : Int32} {te : Int32} {og : Int32} {sc : Nat → Int32} {kd : Nat → Int32} {sr : Nat → Int32} {sa : Nat → Int32} {qb : Nat → Int32} {wo : Nat → Option Nat} (hx : p.tables.exec = Jvm.exec) (hb : c.code = b_G_takeMoreTests) (hml : c.maxLocals = 1) (hown : s.vm.findClass "SieveDesk$Grammar" = some m.cls) (ht : ∀ w ∈ TT, w.before args s = true) (hE : KE k A s s.heap) (hA : ∀ q : Nat, s.heap.size ≤ q → A q) (hK : va_K (dC, dI) cls (TE g) s)  (h_0 : 0 ≤ Int32.toInt many) (h_1 : Int32.toInt many ≤ 401) (h_2 : WOk k wo) (fin : ∀ (r : Int32) (u : Int32 × (Nat → Int32) × Int32 × Int32 × Nat × Nat × Int32) (H : Heap) (locs : List Loc) (pc : Nat) (ls : Array Slot), decode b_G_takeMoreTests pc = .ok (.ireturn, 1) → narrow .boolean (.int r) = .int r → (0 ≤ Int32.toInt u.1 ∧ Int32.toInt u.1 ≤ 200 ∧ -1 ≤ Int32.toInt u.2.2.1 ∧ Int32.toInt u.2.2.1 ≤ 400 ∧ u.2.2.2.2.1 < 43 ∧ u.2.2.2.2.2.1 < 43 ∧ narrow .boolean (.int r) = .int r) → va_P (dC, dI) cls (WE h g len fp many tlen tat qlen u.1 u.2.2.1 u.2.2.2.1 (.ref (k u.2.2.2.2.1)) (.ref (k u.2.2.2.2.2.1)) u.2.2.2.2.2.2 th st rq bl te og sc kd sr wo sa qb u.2.1) H → va_D A (WE h g len fp many tlen tat qlen u.1 u.2.2.1 u.2.2.2.1 (.ref (k u.2.2.2.2.1)) (.ref (k u.2.2.2.2.2.1)) u.2.2.2.2.2.2 th st rq bl te og sc kd sr wo sa qb u.2.1) → va_S A s.heap H locs → W p l e ({ frames := 5, cells := 0, slots := 0, locals := 107 } : Room) s m args below meth c H locs 0 0 Q (F0 m pc ls [.int r])) : ∀ (md : Int32) (du : Nat → Int32) (gat : Int32) (kind : Int32) (wi : Nat) (ti : Nat) (gs : Int32), 0 ≤ Int32.toInt md → Int32.toInt md ≤ 200 → -1 ≤ Int32.toInt gat → Int32.toInt gat ≤ 400 → wi < 43 → ti < 43 → ∀ (H : Heap) (locs : List Loc) (ls : Array Slot), va_P (dC, dI) cls (WE h g len fp many tlen tat qlen md gat kind (.ref (k wi)) (.ref (k ti)) gs th st rq bl te og sc kd sr wo sa qb du) H → va_D A (WE h g len fp many tlen tat qlen md gat kind (.ref (k wi)) (.ref (k ti)) gs th st rq bl te og sc kd sr wo sa qb du) → va_S A s.heap H locs → lv_has ls 1 [(0, .ref (h 9))] → W p l e ({ frames := 5, cells := 0, slots := 0, locals := 107 } : Room) s m args below meth c H locs 0 0 Q (F0 m 0 ls []) := by
  intro md du gat kind wi ti gs v_0 v_1 v_2 v_3 v_4 v_5 H locs ls hP hD hS hl
  refine lv_aload_n hx hb d_G_takeMoreTests_0 rfl (lv_at hl 0 rfl) ?_
  refine va_get (D := (dC, dI)) (ci := 3) (v := .int kind) (C := "SieveDesk$Grammar") (T := F_G) (N := 14) hx hb ht i_G hown hK hP 9 rfl rfl 4 (by decide) (ht _ k_164) (fun _ h9 => h9) rfl d_G_takeMoreTests_1 ?_
  refine lv_bipush (v := 44) hx hb d_G_takeMoreTests_4 (by decide) ?_
  refine lv_icmp_eq (tgt := 11) hx hb d_G_takeMoreTests_6 (by decide) (fun c_1 => ?_) (fun c_1 => ?_)
  · refine lv_aload_n hx hb d_G_takeMoreTests_11 rfl (lv_at hl 0 rfl) ?_
    have hFc := va_free (wc := (WE h g len fp many tlen tat qlen md gat kind (.ref (k wi)) (.ref (k ti)) gs th st rq bl te og sc kd sr wo sa qb du)) hD hS hA [0, 1, 2, 3, 4, 5, 6, 7, 8, 9, 10] rfl
    refine va_callv (va_runV (As := []) (rest := []) ⟨hx, hb, hml, hown, ht⟩ (c_G_advance l dC dI k h g len fp many tlen tat qlen md gat kind gs th st rq bl te og wi ti sc kd sr sa qb du wo  _ (by omega) (by omega) h_2 (by omega) (by omega) (by omega) (by omega)) (cwV 0 ht (g_V k_466 k_468 k_21 k_77 k_469) rfl rfl rfl (by decide +kernel) ⟨(Nat.le_of_ble_eq_true rfl), (Nat.le_of_ble_eq_true rfl)⟩) ⟨fb_X, va_recv hK hP (ci := 3) (q0 := 9) rfl rfl, pre_X hE hS hFc hP hK hD⟩ rfl rfl hl.1 rfl (lv_room (Nat.le_of_ble_eq_true rfl)) d_G_takeMoreTests_12 ⟨(Nat.le_of_ble_eq_true rfl), (Nat.le_of_ble_eq_true rfl)⟩) hS (fun q _ h9 => hFc q h9) hFc (fun u_7 t H locs het hvm hw hB hz1 hk1 hS => ?_)
    obtain ⟨gat_2, kind_3, wi_4, ti_5, gs_6⟩ := u_7
    try dsimp only at hw
    obtain ⟨p_9, p_10, p_11, p_12⟩ := hw
    obtain ⟨hP1, hK1, hD1⟩ := hB
    rw [het] at hP1
    have hP : va_P (dC, dI) cls (WE h g len fp many tlen tat qlen md gat_2 kind_3 (.ref (k wi_4)) (.ref (k ti_5)) gs_6 th st rq bl te og sc kd sr wo sa qb du) H := hP1
    have hD : va_D A (WE h g len fp many tlen tat qlen md gat_2 kind_3 (.ref (k wi_4)) (.ref (k ti_5)) gs_6 th st rq bl te og sc kd sr wo sa qb du) := hD1.weaken (fun _ _ _ h9 => hFc _ h9)
    refine lv_aload_n hx hb d_G_takeMoreTests_15 rfl (lv_at hl 0 rfl) ?_
    refine va_ldcS hx hb hown (show vk_R "SieveDesk$Grammar" 174 "tm" (k (100 + 110)) s from ke_l210 hE) d_G_takeMoreTests_16 ?_
    have hFc := va_free (wc := (WE h g len fp many tlen tat qlen md gat_2 kind_3 (.ref (k wi_4)) (.ref (k ti_5)) gs_6 th st rq bl te og sc kd sr wo sa qb du)) hD hS hA [0, 1, 2, 3, 4, 5, 6, 7, 8, 9, 10] rfl
    refine va_callv (va_runV (As := [.ref (k (100 + 110))]) (rest := []) ⟨hx, hb, hml, hown, ht⟩ (c_G_expect l dC dI k h g len fp many tlen tat qlen md gat_2 kind_3 gs_6 th st rq bl te og wi_4 ti_5 sc kd sr sa qb du wo 110 _ (by omega) (by omega) (by omega)) (cwV 1 ht (g_V k_471 k_473 k_22 k_77 k_474) rfl rfl rfl (by decide +kernel) ⟨(Nat.le_of_ble_eq_true rfl), (Nat.le_of_ble_eq_true rfl)⟩) ⟨fb_X, va_recv hK hP (ci := 3) (q0 := 9) rfl rfl, pre_X hE hS hFc hP hK hD⟩ rfl rfl hl.1 rfl (lv_room (Nat.le_of_ble_eq_true rfl)) d_G_takeMoreTests_18 ⟨(Nat.le_of_ble_eq_true rfl), (Nat.le_of_ble_eq_true rfl)⟩) hS (fun q _ h9 => hFc q h9) hFc (fun u_15 t H locs het hvm hw hB hz1 hk1 hS => ?_)
    obtain ⟨md_13, du_14⟩ := u_15
    try dsimp only at hw
    obtain ⟨p_17, p_18⟩ := hw
    obtain ⟨hP1, hK1, hD1⟩ := hB
    rw [het] at hP1
    have hP : va_P (dC, dI) cls (WE h g len fp many tlen tat qlen md_13 gat_2 kind_3 (.ref (k wi_4)) (.ref (k ti_5)) gs_6 th st rq bl te og sc kd sr wo sa qb du_14) H := hP1
    have hD : va_D A (WE h g len fp many tlen tat qlen md_13 gat_2 kind_3 (.ref (k wi_4)) (.ref (k ti_5)) gs_6 th st rq bl te og sc kd sr wo sa qb du_14) := hD1.weaken (fun _ _ _ h9 => hFc _ h9)
    refine lv_iconst (v := 1) hx hb d_G_takeMoreTests_21 (by decide) ?_
    have hc_1 : Int32.toInt 1 = 1 := by decide
    exact fin 1 (md_13, du_14, gat_2, kind_3, wi_4, ti_5, gs_6) _ _ _ ls d_G_takeMoreTests_22 rfl ⟨(by (try dsimp only); omega), (by (try dsimp only); omega), (by (try dsimp only); omega), (by (try dsimp only); omega), (by (try dsimp only); omega), (by (try dsimp only); omega), rfl⟩ hP hD hS
  · refine lv_iconst (v := 1) hx hb d_G_takeMoreTests_9 (by decide) ?_
    have hc_1 : Int32.toInt 1 = 1 := by decide
    exact fin 1 (md, du, gat, kind, wi, ti, gs) _ _ _ ls d_G_takeMoreTests_10 rfl ⟨(by (try dsimp only); omega), (by (try dsimp only); omega), (by (try dsimp only); omega), (by (try dsimp only); omega), (by (try dsimp only); omega), (by (try dsimp only); omega), rfl⟩ hP hD hS
set_option maxHeartbeats 4000000 in
set_option maxRecDepth 100000 in
theorem c_G_takeMoreTests (l : Launch) (dC : Nat → ClassId) (dI : Nat → Nat → Nat) (k : Nat → Nat) (h : Nat → Nat) (g : Nat → ClassId) (len : Int32) (fp : Int32) (many : Int32) (tlen : Int32) (tat : Int32) (qlen : Int32) (md : Int32) (gat : Int32) (kind : Int32) (gs : Int32) (th : Int32) (st : Int32) (rq : Int32) (bl : Int32) (te : Int32) (og : Int32) (wi : Nat) (ti : Nat) (sc : Nat → Int32) (kd : Nat → Int32) (sr : Nat → Int32) (sa : Nat → Int32) (qb : Nat → Int32) (du : Nat → Int32) (wo : Nat → Option Nat)  (sz : Nat) (h_0 : 0 ≤ Int32.toInt many) (h_1 : Int32.toInt many ≤ 401) (h_2 : WOk k wo) (v_0 : 0 ≤ Int32.toInt md) (v_1 : Int32.toInt md ≤ 200) (v_2 : -1 ≤ Int32.toInt gat) (v_3 : Int32.toInt gat ≤ 400) (v_4 : wi < 43) (v_5 : ti < 43) : Met l y_G_takeMoreTests (.code y_G_takeMoreTests b_G_takeMoreTests 1 (some .boolean) :: TT) ({ frames := 5, cells := 0, slots := 0, locals := 107 }) (va_Pc [.ref (h 9)] (PX dC dI k (TE g) (WE h g len fp many tlen tat qlen md gat kind (.ref (k wi)) (.ref (k ti)) gs th st rq bl te og sc kd sr wo sa qb du) sz)) (va_Qi (fun (r : Int32) (u : Int32 × (Nat → Int32) × Int32 × Int32 × Nat × Nat × Int32) => 0 ≤ Int32.toInt u.1 ∧ Int32.toInt u.1 ≤ 200 ∧ -1 ≤ Int32.toInt u.2.2.1 ∧ Int32.toInt u.2.2.1 ≤ 400 ∧ u.2.2.2.2.1 < 43 ∧ u.2.2.2.2.2.1 < 43 ∧ narrow .boolean (.int r) = .int r) (fun u t => BX dC dI (TE g) (va_A (WE h g len fp many tlen tat qlen md gat kind (.ref (k wi)) (.ref (k ti)) gs th st rq bl te og sc kd sr wo sa qb du) sz) (WE h g len fp many tlen tat qlen u.1 u.2.2.1 u.2.2.2.1 (.ref (k u.2.2.2.2.1)) (.ref (k u.2.2.2.2.2.1)) u.2.2.2.2.2.2 th st rq bl te og sc kd sr wo sa qb u.2.1) t) (va_A (WE h g len fp many tlen tat qlen md gat kind (.ref (k wi)) (.ref (k ti)) gs th st rq bl te og sc kd sr wo sa qb du) sz)) 0 0 (va_A (WE h g len fp many tlen tat qlen md gat kind (.ref (k wi)) (.ref (k ti)) gs th st rq bl te og sc kd sr wo sa qb du) sz) := by
  refine Met.ofW (cc := b_G_takeMoreTests) (maxL := 1) (ret := (some .boolean)) (by decide) rfl ?_
  intro p e s m args below meth c s₁ B hml hv
  obtain ⟨rfl, hsz, hE, hP, hK, hD0⟩ := hv
  have hx := B.exec
  have hb := B.bytes
  have hr := B.returns
  have ht : ∀ w ∈ TT, w.before _ s = true := fun w hw => atoms_spec (ws := .code y_G_takeMoreTests b_G_takeMoreTests 1 (some .boolean) :: TT) B.pre w (List.mem_cons_of_mem _ hw)
  have hown : s.vm.findClass "SieveDesk$Grammar" = some m.cls := findClass_of_methodNamed B.named
  have hlocks := B.notSynchronized
  subst hsz
  have hD := hD0.self (sz := s.heap.size)
  generalize hAe : va_A (WE h g len fp many tlen tat qlen md gat kind (.ref (k wi)) (.ref (k ti)) gs th st rq bl te og sc kd sr wo sa qb du) s.heap.size = A at hE hD ⊢
  have hA : ∀ q : Nat, s.heap.size ≤ q → A q := fun q h9 => by rw [← hAe]; exact Or.inr h9
  have hS : va_S A s.heap s.heap [] := va_S.rf
  have hl := lv_entry ([.ref (h 9)]) (n := 1) (Nat.le_of_ble_eq_true rfl)
  rw [lg_entry_eq]
  generalize (lg_sl ([.ref (h 9)]) ++ List.replicate (1 - (lg_sl ([.ref (h 9)])).length) Slot.unset).toArray = ls at hl ⊢
  have hl : lv_has ls 1 [(0, .ref (h 9))] := hl
  exact bd_G_takeMoreTests_0  hx hb hml hown ht hE hA hK h_0 h_1 h_2 (fun r u H locs pc ls hd hn hp hP hD hS => W.zret hx hb hr hn (fun t het hW => ⟨⟨r, u, rfl, hp, by rw [het]; exact hP, va_K.moved hW.alike hK, hD⟩, hS.F het⟩) hS.2.2 hd) md du gat kind wi ti gs v_0 v_1 v_2 v_3 v_4 v_5 _ _ ls hP hD hS hl
set_option maxHeartbeats 4000000 in
set_option maxRecDepth 100000 in
theorem bd_G_takeTags_0 {p : Program} {l : Launch} {e : Env} {s : State} {m : MethodId} {args : Array Value} {below : List Frame} {meth : Method} {c : Code} {Q : State → Prop} {A : Nat → Prop} {dC : Nat → ClassId} {dI : Nat → Nat → Nat} {k h : Nat → Nat} {g : Nat → ClassId} {len : Int32} {fp : Int32} {many : Int32} {tlen : Int32} {tat : Int32} {qlen : Int32} {th : Int32} {st : Int32} {rq : Int32} {bl : Int32} {te : Int32} {sc : Nat → Int32} {kd : Nat → Int32} {sr : Nat → Int32} {sa : Nat → Int32} {qb : Nat → Int32} {wo : Nat → Option Nat} (hx : p.tables.exec = Jvm.exec) (hb : c.code = b_G_takeTags) (hml : c.maxLocals = 1) (hown : s.vm.findClass "SieveDesk$Grammar" = some m.cls) (ht : ∀ w ∈ TT, w.before args s = true) (hE : KE k A s s.heap) (hA : ∀ q : Nat, s.heap.size ≤ q → A q) (hK : va_K (dC, dI) cls (TE g) s)  (h_0 : 0 ≤ Int32.toInt many) (h_1 : Int32.toInt many ≤ 401) (h_2 : WOk k wo) (fin : ∀ (r : Int32) (u : Int32 × (Nat → Int32) × Int32 × Int32 × Nat × Nat × Int32 × Int32) (H : Heap) (locs : List Loc) (pc : Nat) (ls : Array Slot), decode b_G_takeTags pc = .ok (.ireturn, 1) → narrow .boolean (.int r) = .int r → (0 ≤ Int32.toInt u.1 ∧ Int32.toInt u.1 ≤ 200 ∧ -1 ≤ Int32.toInt u.2.2.1 ∧ Int32.toInt u.2.2.1 ≤ 400 ∧ u.2.2.2.2.1 < 43 ∧ u.2.2.2.2.2.1 < 43 ∧ narrow .boolean (.int r) = .int r) → va_P (dC, dI) cls (WE h g len fp many tlen tat qlen u.1 u.2.2.1 u.2.2.2.1 (.ref (k u.2.2.2.2.1)) (.ref (k u.2.2.2.2.2.1)) u.2.2.2.2.2.2.1 th st rq bl te u.2.2.2.2.2.2.2 sc kd sr wo sa qb u.2.1) H → va_D A (WE h g len fp many tlen tat qlen u.1 u.2.2.1 u.2.2.2.1 (.ref (k u.2.2.2.2.1)) (.ref (k u.2.2.2.2.2.1)) u.2.2.2.2.2.2.1 th st rq bl te u.2.2.2.2.2.2.2 sc kd sr wo sa qb u.2.1) → va_S A s.heap H locs → W p l e ({ frames := 6, cells := 0, slots := 0, locals := 128 } : Room) s m args below meth c H locs 0 0 Q (F0 m pc ls [.int r])) : ∀ (md : Int32) (du : Nat → Int32) (gat : Int32) (kind : Int32) (wi : Nat) (ti : Nat) (gs : Int32) (og : Int32), 0 ≤ Int32.toInt md → Int32.toInt md ≤ 200 → -1 ≤ Int32.toInt gat → Int32.toInt gat ≤ 400 → wi < 43 → ti < 43 → ∀ (H : Heap) (locs : List Loc) (ls : Array Slot), va_P (dC, dI) cls (WE h g len fp many tlen tat qlen md gat kind (.ref (k wi)) (.ref (k ti)) gs th st rq bl te og sc kd sr wo sa qb du) H → va_D A (WE h g len fp many tlen tat qlen md gat kind (.ref (k wi)) (.ref (k ti)) gs th st rq bl te og sc kd sr wo sa qb du) → va_S A s.heap H locs → lv_has ls 1 [(0, .ref (h 9))] → W p l e ({ frames := 6, cells := 0, slots := 0, locals := 128 } : Room) s m args below meth c H locs 0 0 Q (F0 m 0 ls []) := by
  intro md du gat kind wi ti gs og v_0 v_1 v_2 v_3 v_4 v_5 H locs ls hP hD hS hl
  refine lv_aload_n hx hb d_G_takeTags_0 rfl (lv_at hl 0 rfl) ?_
  refine va_get (D := (dC, dI)) (ci := 3) (v := .int kind) (C := "SieveDesk$Grammar") (T := F_G) (N := 14) hx hb ht i_G hown hK hP 9 rfl rfl 4 (by decide) (ht _ k_164) (fun _ h9 => h9) rfl d_G_takeTags_1 ?_
  refine lv_iconst (v := 2) hx hb d_G_takeTags_4 (by decide) ?_
  refine lv_icmp_eq (tgt := 10) hx hb d_G_takeTags_5 (by decide) (fun c_1 => ?_) (fun c_1 => ?_)
  · refine lv_aload_n hx hb d_G_takeTags_10 rfl (lv_at hl 0 rfl) ?_
    refine va_get (D := (dC, dI)) (ci := 3) (v := .ref (k ti)) (C := "SieveDesk$Grammar") (T := F_G) (N := 14) hx hb ht i_G hown hK hP 9 rfl rfl 6 (by decide) (ht _ k_166) (fun _ h9 => h9) rfl d_G_takeTags_11 ?_
    obtain ⟨r_2, hr_2⟩ := (ke_w hE (i := ti) (by omega)).2.1
    refine vk_getfN hx hb hr_2 hS hown (nw_use n_873 (hE.1 _ n_873)) (fun _ h9 => h9) d_G_takeTags_14 ?_
    refine lv_iconst (v := 3) hx hb d_G_takeTags_17 (by decide) ?_
    refine lv_icmp_ne (tgt := 50) hx hb d_G_takeTags_18 (by decide) (fun c_3 => ?_) (fun c_3 => ?_)
    · refine lv_iconst (v := 0) hx hb d_G_takeTags_50 (by decide) ?_
      have hc_0 : Int32.toInt 0 = 0 := by decide
      exact fin 0 (md, du, gat, kind, wi, ti, gs, og) _ _ _ ls d_G_takeTags_51 rfl ⟨(by (try dsimp only); omega), (by (try dsimp only); omega), (by (try dsimp only); omega), (by (try dsimp only); omega), (by (try dsimp only); omega), (by (try dsimp only); omega), rfl⟩ hP hD hS
    · refine lv_aload_n hx hb d_G_takeTags_21 rfl (lv_at hl 0 rfl) ?_
      refine va_get (D := (dC, dI)) (ci := 3) (v := .ref (k ti)) (C := "SieveDesk$Grammar") (T := F_G) (N := 14) hx hb ht i_G hown hK hP 9 rfl rfl 6 (by decide) (ht _ k_166) (fun _ h9 => h9) rfl d_G_takeTags_22 ?_
      obtain ⟨r_4, hr_4⟩ := (ke_w hE (i := ti) (by omega)).2.2.2.1
      refine vk_getfN hx hb hr_4 hS hown (nw_use n_875 (hE.1 _ n_875)) (fun _ h9 => h9) d_G_takeTags_25 ?_
      refine lv_aload_n hx hb d_G_takeTags_28 rfl (lv_at hl 0 rfl) ?_
      refine va_get (D := (dC, dI)) (ci := 3) (v := .int og) (C := "SieveDesk$Grammar") (T := F_G) (N := 14) hx hb ht i_G hown hK hP 9 rfl rfl 13 (by decide) (ht _ k_176) (fun _ h9 => h9) rfl d_G_takeTags_29 ?_
      refine lv_iand hx hb d_G_takeTags_32 ?_
      refine lv_if_eq (tgt := 50) hx hb d_G_takeTags_33 (by decide) (fun c_5 => ?_) (fun c_5 => ?_)
      · refine lv_iconst (v := 0) hx hb d_G_takeTags_50 (by decide) ?_
        have hc_0 : Int32.toInt 0 = 0 := by decide
        exact fin 0 (md, du, gat, kind, wi, ti, gs, og) _ _ _ ls d_G_takeTags_51 rfl ⟨(by (try dsimp only); omega), (by (try dsimp only); omega), (by (try dsimp only); omega), (by (try dsimp only); omega), (by (try dsimp only); omega), (by (try dsimp only); omega), rfl⟩ hP hD hS
      · refine lv_aload_n hx hb d_G_takeTags_36 rfl (lv_at hl 0 rfl) ?_
        refine lv_aload_n hx hb d_G_takeTags_37 rfl (lv_at hl 0 rfl) ?_
        refine va_get (D := (dC, dI)) (ci := 3) (v := .ref (k ti)) (C := "SieveDesk$Grammar") (T := F_G) (N := 14) hx hb ht i_G hown hK hP 9 rfl rfl 6 (by decide) (ht _ k_166) (fun _ h9 => h9) rfl d_G_takeTags_38 ?_
        obtain ⟨r_6, hr_6⟩ := (ke_w hE (i := ti) (by omega)).2.2.1
        refine vk_getfN hx hb hr_6 hS hown (nw_use n_874 (hE.1 _ n_874)) (fun _ h9 => h9) d_G_takeTags_41 ?_
        have hFc := va_free (wc := (WE h g len fp many tlen tat qlen md gat kind (.ref (k wi)) (.ref (k ti)) gs th st rq bl te og sc kd sr wo sa qb du)) hD hS hA [0, 1, 2, 3, 4, 5, 6, 7, 8, 9, 10] rfl
        refine va_calli (va_runV (As := [.int r_6]) (rest := []) ⟨hx, hb, hml, hown, ht⟩ (c_G_lacks l dC dI k h g len fp many tlen tat qlen md gat kind gs th st rq bl te og wi ti sc kd sr sa qb du wo r_6 _  ) (cwV 1 ht (g_V k_498 k_500 k_27 k_77 k_501) rfl rfl rfl (by decide +kernel) ⟨(Nat.le_of_ble_eq_true rfl), (Nat.le_of_ble_eq_true rfl)⟩) ⟨fb_X, va_recv hK hP (ci := 3) (q0 := 9) rfl rfl, pre_X hE hS hFc hP hK hD⟩ rfl rfl hl.1 rfl (lv_room (Nat.le_of_ble_eq_true rfl)) d_G_takeTags_44 ⟨(Nat.le_of_ble_eq_true rfl), (Nat.le_of_ble_eq_true rfl)⟩) hS (fun q _ h9 => hFc q h9) hFc (fun r_8 u_7 t H locs het hvm hw hB hz1 hk1 hS => ?_)
        have p_9 := hw
        obtain ⟨hP1, hK1, hD1⟩ := hB
        rw [het] at hP1
        have hP : va_P (dC, dI) cls (WE h g len fp many tlen tat qlen md gat kind (.ref (k wi)) (.ref (k ti)) gs th st rq bl te og sc kd sr wo sa qb du) H := hP1
        have hD : va_D A (WE h g len fp many tlen tat qlen md gat kind (.ref (k wi)) (.ref (k ti)) gs th st rq bl te og sc kd sr wo sa qb du) := hD1.weaken (fun _ _ _ h9 => hFc _ h9)
        refine lv_if_eq (tgt := 52) hx hb d_G_takeTags_47 (by decide) (fun c_10 => ?_) (fun c_10 => ?_)
        · refine lv_aload_n hx hb d_G_takeTags_52 rfl (lv_at hl 0 rfl) ?_
          refine lv_dup hx hb d_G_takeTags_53 rfl ?_
          refine va_get (D := (dC, dI)) (ci := 3) (v := .int og) (C := "SieveDesk$Grammar") (T := F_G) (N := 14) hx hb ht i_G hown hK hP 9 rfl rfl 13 (by decide) (ht _ k_176) (fun _ h9 => h9) rfl d_G_takeTags_54 ?_
          refine lv_aload_n hx hb d_G_takeTags_57 rfl (lv_at hl 0 rfl) ?_
          refine va_get (D := (dC, dI)) (ci := 3) (v := .ref (k ti)) (C := "SieveDesk$Grammar") (T := F_G) (N := 14) hx hb ht i_G hown hK hP 9 rfl rfl 6 (by decide) (ht _ k_166) (fun _ h9 => h9) rfl d_G_takeTags_58 ?_
          obtain ⟨r_11, hr_11⟩ := (ke_w hE (i := ti) (by omega)).2.2.2.1
          refine vk_getfN hx hb hr_11 hS hown (nw_use n_875 (hE.1 _ n_875)) (fun _ h9 => h9) d_G_takeTags_61 ?_
          refine lv_iconst (v := (-1)) hx hb d_G_takeTags_64 (by decide) ?_
          refine lv_ixor hx hb d_G_takeTags_65 ?_
          refine lv_iand hx hb d_G_takeTags_66 ?_
          refine va_put (D := (dC, dI)) (ci := 3) (v := .int (og &&& (r_11 ^^^ (-1)))) (ty := .int) (C := "SieveDesk$Grammar") (T := F_G) (N := 14) hx hb ht i_G ty_G ty_G_ok n_G hown hK hP hD hS 9 rfl rfl 13 (by decide) (ht _ k_176) (fun _ h9 => h9) rfl (ty_G_ok 13 (by decide)) rfl rfl (Nat.le_of_ble_eq_true rfl) d_G_takeTags_67 (fun H locs hP hD hS => ?_)
          have hP : va_P (dC, dI) cls (WE h g len fp many tlen tat qlen md gat kind (.ref (k wi)) (.ref (k ti)) gs th st rq bl te (og &&& (r_11 ^^^ (-1))) sc kd sr wo sa qb du) H := hP
          have hD : va_D A (WE h g len fp many tlen tat qlen md gat kind (.ref (k wi)) (.ref (k ti)) gs th st rq bl te (og &&& (r_11 ^^^ (-1))) sc kd sr wo sa qb du) := hD
          refine lv_aload_n hx hb d_G_takeTags_70 rfl (lv_at hl 0 rfl) ?_
          refine va_ldcS hx hb hown (show vk_R "SieveDesk$Grammar" 176 "g" (k (100 + 111)) s from ke_l211 hE) d_G_takeTags_71 ?_
          have hFc := va_free (wc := (WE h g len fp many tlen tat qlen md gat kind (.ref (k wi)) (.ref (k ti)) gs th st rq bl te (og &&& (r_11 ^^^ (-1))) sc kd sr wo sa qb du)) hD hS hA [0, 1, 2, 3, 4, 5, 6, 7, 8, 9, 10] rfl
          refine va_callv (va_runV (As := [.ref (k (100 + 111))]) (rest := []) ⟨hx, hb, hml, hown, ht⟩ (c_G_expect l dC dI k h g len fp many tlen tat qlen md gat kind gs th st rq bl te (og &&& (r_11 ^^^ (-1))) wi ti sc kd sr sa qb du wo 111 _ (by omega) (by omega) (by omega)) (cwV 1 ht (g_V k_471 k_473 k_22 k_77 k_474) rfl rfl rfl (by decide +kernel) ⟨(Nat.le_of_ble_eq_true rfl), (Nat.le_of_ble_eq_true rfl)⟩) ⟨fb_X, va_recv hK hP (ci := 3) (q0 := 9) rfl rfl, pre_X hE hS hFc hP hK hD⟩ rfl rfl hl.1 rfl (lv_room (Nat.le_of_ble_eq_true rfl)) d_G_takeTags_73 ⟨(Nat.le_of_ble_eq_true rfl), (Nat.le_of_ble_eq_true rfl)⟩) hS (fun q _ h9 => hFc q h9) hFc (fun u_14 t H locs het hvm hw hB hz1 hk1 hS => ?_)
          obtain ⟨md_12, du_13⟩ := u_14
          try dsimp only at hw
          obtain ⟨p_16, p_17⟩ := hw
          obtain ⟨hP1, hK1, hD1⟩ := hB
          rw [het] at hP1
          have hP : va_P (dC, dI) cls (WE h g len fp many tlen tat qlen md_12 gat kind (.ref (k wi)) (.ref (k ti)) gs th st rq bl te (og &&& (r_11 ^^^ (-1))) sc kd sr wo sa qb du_13) H := hP1
          have hD : va_D A (WE h g len fp many tlen tat qlen md_12 gat kind (.ref (k wi)) (.ref (k ti)) gs th st rq bl te (og &&& (r_11 ^^^ (-1))) sc kd sr wo sa qb du_13) := hD1.weaken (fun _ _ _ h9 => hFc _ h9)
          refine lv_aload_n hx hb d_G_takeTags_76 rfl (lv_at hl 0 rfl) ?_
          refine lv_aload_n hx hb d_G_takeTags_77 rfl (lv_at hl 0 rfl) ?_
          refine va_get (D := (dC, dI)) (ci := 3) (v := .ref (k ti)) (C := "SieveDesk$Grammar") (T := F_G) (N := 14) hx hb ht i_G hown hK hP 9 rfl rfl 6 (by decide) (ht _ k_166) (fun _ h9 => h9) rfl d_G_takeTags_78 ?_
          have hFc := va_free (wc := (WE h g len fp many tlen tat qlen md_12 gat kind (.ref (k wi)) (.ref (k ti)) gs th st rq bl te (og &&& (r_11 ^^^ (-1))) sc kd sr wo sa qb du_13)) hD hS hA [0, 1, 2, 3, 4, 5, 6, 7, 8, 9, 10] rfl
          refine va_calli (va_runV (As := [.ref (k ti)]) (rest := []) ⟨hx, hb, hml, hown, ht⟩ (c_G_follow l dC dI k h g len fp many tlen tat qlen md_12 gat kind gs th st rq bl te (og &&& (r_11 ^^^ (-1))) wi ti sc kd sr sa qb du_13 wo ti _ (by omega) (by omega) h_2 (by omega) (by omega) (by omega) (by omega) (by omega) (by omega) (by omega)) (cwV 1 ht (g_V k_483 k_485 k_24 k_77 k_486) rfl rfl rfl (by decide +kernel) ⟨(Nat.le_of_ble_eq_true rfl), (Nat.le_of_ble_eq_true rfl)⟩) ⟨fb_X, va_recv hK hP (ci := 3) (q0 := 9) rfl rfl, pre_X hE hS hFc hP hK hD⟩ rfl rfl hl.1 rfl (lv_room (Nat.le_of_ble_eq_true rfl)) d_G_takeTags_81 ⟨(Nat.le_of_ble_eq_true rfl), (Nat.le_of_ble_eq_true rfl)⟩) hS (fun q _ h9 => hFc q h9) hFc (fun r_26 u_25 t H locs het hvm hw hB hz1 hk1 hS => ?_)
          obtain ⟨md_18, du_19, gat_20, kind_21, wi_22, ti_23, gs_24⟩ := u_25
          try dsimp only at hw
          obtain ⟨p_27, p_28, p_29, p_30, p_31, p_32, p_33⟩ := hw
          obtain ⟨hP1, hK1, hD1⟩ := hB
          rw [het] at hP1
          have hP : va_P (dC, dI) cls (WE h g len fp many tlen tat qlen md_18 gat_20 kind_21 (.ref (k wi_22)) (.ref (k ti_23)) gs_24 th st rq bl te (og &&& (r_11 ^^^ (-1))) sc kd sr wo sa qb du_19) H := hP1
          have hD : va_D A (WE h g len fp many tlen tat qlen md_18 gat_20 kind_21 (.ref (k wi_22)) (.ref (k ti_23)) gs_24 th st rq bl te (og &&& (r_11 ^^^ (-1))) sc kd sr wo sa qb du_19) := hD1.weaken (fun _ _ _ h9 => hFc _ h9)
          exact fin r_26 (md_18, du_19, gat_20, kind_21, wi_22, ti_23, gs_24, (og &&& (r_11 ^^^ (-1)))) _ _ _ ls d_G_takeTags_84 p_33 ⟨(by (try dsimp only); omega), (by (try dsimp only); omega), (by (try dsimp only); omega), (by (try dsimp only); omega), (by (try dsimp only); omega), (by (try dsimp only); omega), p_33⟩ hP hD hS
        · refine lv_iconst (v := 0) hx hb d_G_takeTags_50 (by decide) ?_
          have hc_0 : Int32.toInt 0 = 0 := by decide
          exact fin 0 (md, du, gat, kind, wi, ti, gs, og) _ _ _ ls d_G_takeTags_51 rfl ⟨(by (try dsimp only); omega), (by (try dsimp only); omega), (by (try dsimp only); omega), (by (try dsimp only); omega), (by (try dsimp only); omega), (by (try dsimp only); omega), rfl⟩ hP hD hS
  · refine lv_iconst (v := 1) hx hb d_G_takeTags_8 (by decide) ?_
    have hc_1 : Int32.toInt 1 = 1 := by decide
    exact fin 1 (md, du, gat, kind, wi, ti, gs, og) _ _ _ ls d_G_takeTags_9 rfl ⟨(by (try dsimp only); omega), (by (try dsimp only); omega), (by (try dsimp only); omega), (by (try dsimp only); omega), (by (try dsimp only); omega), (by (try dsimp only); omega), rfl⟩ hP hD hS
set_option maxHeartbeats 4000000 in
set_option maxRecDepth 100000 in
theorem c_G_takeTags (l : Launch) (dC : Nat → ClassId) (dI : Nat → Nat → Nat) (k : Nat → Nat) (h : Nat → Nat) (g : Nat → ClassId) (len : Int32) (fp : Int32) (many : Int32) (tlen : Int32) (tat : Int32) (qlen : Int32) (md : Int32) (gat : Int32) (kind : Int32) (gs : Int32) (th : Int32) (st : Int32) (rq : Int32) (bl : Int32) (te : Int32) (og : Int32) (wi : Nat) (ti : Nat) (sc : Nat → Int32) (kd : Nat → Int32) (sr : Nat → Int32) (sa : Nat → Int32) (qb : Nat → Int32) (du : Nat → Int32) (wo : Nat → Option Nat)  (sz : Nat) (h_0 : 0 ≤ Int32.toInt many) (h_1 : Int32.toInt many ≤ 401) (h_2 : WOk k wo) (v_0 : 0 ≤ Int32.toInt md) (v_1 : Int32.toInt md ≤ 200) (v_2 : -1 ≤ Int32.toInt gat) (v_3 : Int32.toInt gat ≤ 400) (v_4 : wi < 43) (v_5 : ti < 43) : Met l y_G_takeTags (.code y_G_takeTags b_G_takeTags 1 (some .boolean) :: TT) ({ frames := 6, cells := 0, slots := 0, locals := 128 }) (va_Pc [.ref (h 9)] (PX dC dI k (TE g) (WE h g len fp many tlen tat qlen md gat kind (.ref (k wi)) (.ref (k ti)) gs th st rq bl te og sc kd sr wo sa qb du) sz)) (va_Qi (fun (r : Int32) (u : Int32 × (Nat → Int32) × Int32 × Int32 × Nat × Nat × Int32 × Int32) => 0 ≤ Int32.toInt u.1 ∧ Int32.toInt u.1 ≤ 200 ∧ -1 ≤ Int32.toInt u.2.2.1 ∧ Int32.toInt u.2.2.1 ≤ 400 ∧ u.2.2.2.2.1 < 43 ∧ u.2.2.2.2.2.1 < 43 ∧ narrow .boolean (.int r) = .int r) (fun u t => BX dC dI (TE g) (va_A (WE h g len fp many tlen tat qlen md gat kind (.ref (k wi)) (.ref (k ti)) gs th st rq bl te og sc kd sr wo sa qb du) sz) (WE h g len fp many tlen tat qlen u.1 u.2.2.1 u.2.2.2.1 (.ref (k u.2.2.2.2.1)) (.ref (k u.2.2.2.2.2.1)) u.2.2.2.2.2.2.1 th st rq bl te u.2.2.2.2.2.2.2 sc kd sr wo sa qb u.2.1) t) (va_A (WE h g len fp many tlen tat qlen md gat kind (.ref (k wi)) (.ref (k ti)) gs th st rq bl te og sc kd sr wo sa qb du) sz)) 0 0 (va_A (WE h g len fp many tlen tat qlen md gat kind (.ref (k wi)) (.ref (k ti)) gs th st rq bl te og sc kd sr wo sa qb du) sz) := by
  refine Met.ofW (cc := b_G_takeTags) (maxL := 1) (ret := (some .boolean)) (by decide) rfl ?_
  intro p e s m args below meth c s₁ B hml hv
  obtain ⟨rfl, hsz, hE, hP, hK, hD0⟩ := hv
  have hx := B.exec
  have hb := B.bytes
  have hr := B.returns
  have ht : ∀ w ∈ TT, w.before _ s = true := fun w hw => atoms_spec (ws := .code y_G_takeTags b_G_takeTags 1 (some .boolean) :: TT) B.pre w (List.mem_cons_of_mem _ hw)
  have hown : s.vm.findClass "SieveDesk$Grammar" = some m.cls := findClass_of_methodNamed B.named
  have hlocks := B.notSynchronized
  subst hsz
  have hD := hD0.self (sz := s.heap.size)
  generalize hAe : va_A (WE h g len fp many tlen tat qlen md gat kind (.ref (k wi)) (.ref (k ti)) gs th st rq bl te og sc kd sr wo sa qb du) s.heap.size = A at hE hD ⊢
  have hA : ∀ q : Nat, s.heap.size ≤ q → A q := fun q h9 => by rw [← hAe]; exact Or.inr h9
  have hS : va_S A s.heap s.heap [] := va_S.rf
  have hl := lv_entry ([.ref (h 9)]) (n := 1) (Nat.le_of_ble_eq_true rfl)
  rw [lg_entry_eq]
  generalize (lg_sl ([.ref (h 9)]) ++ List.replicate (1 - (lg_sl ([.ref (h 9)])).length) Slot.unset).toArray = ls at hl ⊢
  have hl : lv_has ls 1 [(0, .ref (h 9))] := hl
  exact bd_G_takeTags_0  hx hb hml hown ht hE hA hK h_0 h_1 h_2 (fun r u H locs pc ls hd hn hp hP hD hS => W.zret hx hb hr hn (fun t het hW => ⟨⟨r, u, rfl, hp, by rw [het]; exact hP, va_K.moved hW.alike hK, hD⟩, hS.F het⟩) hS.2.2 hd) md du gat kind wi ti gs og v_0 v_1 v_2 v_3 v_4 v_5 _ _ ls hP hD hS hl
set_option maxHeartbeats 4000000 in
set_option maxRecDepth 100000 in
theorem bd_G_takeKind_0 {p : Program} {l : Launch} {e : Env} {s : State} {m : MethodId} {args : Array Value} {below : List Frame} {meth : Method} {c : Code} {Q : State → Prop} {A : Nat → Prop} {dC : Nat → ClassId} {dI : Nat → Nat → Nat} {k h : Nat → Nat} {g : Nat → ClassId} {len : Int32} {fp : Int32} {many : Int32} {tlen : Int32} {tat : Int32} {qlen : Int32} {md : Int32} {th : Int32} {st : Int32} {rq : Int32} {bl : Int32} {te : Int32} {og : Int32} {sc : Nat → Int32} {kd : Nat → Int32} {sr : Nat → Int32} {sa : Nat → Int32} {qb : Nat → Int32} {du : Nat → Int32} {wo : Nat → Option Nat} (hx : p.tables.exec = Jvm.exec) (hb : c.code = b_G_takeKind) (hml : c.maxLocals = 2) (hown : s.vm.findClass "SieveDesk$Grammar" = some m.cls) (ht : ∀ w ∈ TT, w.before args s = true) (hE : KE k A s s.heap) (hA : ∀ q : Nat, s.heap.size ≤ q → A q) (hK : va_K (dC, dI) cls (TE g) s) {wn : Int32} (h_0 : 0 ≤ Int32.toInt many) (h_1 : Int32.toInt many ≤ 401) (h_2 : 0 ≤ Int32.toInt md) (h_3 : Int32.toInt md ≤ 200) (h_4 : WOk k wo) (fin : ∀ (r : Int32) (u : Int32 × Int32 × Nat × Nat × Int32) (H : Heap) (locs : List Loc) (pc : Nat) (ls : Array Slot), decode b_G_takeKind pc = .ok (.ireturn, 1) → narrow .boolean (.int r) = .int r → (-1 ≤ Int32.toInt u.1 ∧ Int32.toInt u.1 ≤ 400 ∧ u.2.2.1 < 43 ∧ u.2.2.2.1 < 43 ∧ narrow .boolean (.int r) = .int r) → va_P (dC, dI) cls (WE h g len fp many tlen tat qlen md u.1 u.2.1 (.ref (k u.2.2.1)) (.ref (k u.2.2.2.1)) u.2.2.2.2 th st rq bl te og sc kd sr wo sa qb du) H → va_D A (WE h g len fp many tlen tat qlen md u.1 u.2.1 (.ref (k u.2.2.1)) (.ref (k u.2.2.2.1)) u.2.2.2.2 th st rq bl te og sc kd sr wo sa qb du) → va_S A s.heap H locs → W p l e ({ frames := 1, cells := 0, slots := 0, locals := 21 } : Room) s m args below meth c H locs 0 0 Q (F0 m pc ls [.int r])) : ∀ (gat : Int32) (kind : Int32) (wi : Nat) (ti : Nat) (gs : Int32), -1 ≤ Int32.toInt gat → Int32.toInt gat ≤ 400 → wi < 43 → ti < 43 → ∀ (H : Heap) (locs : List Loc) (ls : Array Slot), va_P (dC, dI) cls (WE h g len fp many tlen tat qlen md gat kind (.ref (k wi)) (.ref (k ti)) gs th st rq bl te og sc kd sr wo sa qb du) H → va_D A (WE h g len fp many tlen tat qlen md gat kind (.ref (k wi)) (.ref (k ti)) gs th st rq bl te og sc kd sr wo sa qb du) → va_S A s.heap H locs → lv_has ls 2 [(0, .ref (h 9)), (1, .int wn)] → W p l e ({ frames := 1, cells := 0, slots := 0, locals := 21 } : Room) s m args below meth c H locs 0 0 Q (F0 m 0 ls []) := by
  intro gat kind wi ti gs v_0 v_1 v_2 v_3 H locs ls hP hD hS hl
  refine lv_aload_n hx hb d_G_takeKind_0 rfl (lv_at hl 0 rfl) ?_
  refine va_get (D := (dC, dI)) (ci := 3) (v := .int kind) (C := "SieveDesk$Grammar") (T := F_G) (N := 14) hx hb ht i_G hown hK hP 9 rfl rfl 4 (by decide) (ht _ k_164) (fun _ h9 => h9) rfl d_G_takeKind_1 ?_
  refine lv_iload_n hx hb d_G_takeKind_4 rfl (lv_at hl 1 rfl) ?_
  refine lv_icmp_eq (tgt := 10) hx hb d_G_takeKind_5 (by decide) (fun c_1 => ?_) (fun c_1 => ?_)
  · refine lv_aload_n hx hb d_G_takeKind_10 rfl (lv_at hl 0 rfl) ?_
    have hFc := va_free (wc := (WE h g len fp many tlen tat qlen md gat kind (.ref (k wi)) (.ref (k ti)) gs th st rq bl te og sc kd sr wo sa qb du)) hD hS hA [0, 1, 2, 3, 4, 5, 6, 7, 8, 9, 10] rfl
    refine va_callv (va_runV (As := []) (rest := []) ⟨hx, hb, hml, hown, ht⟩ (c_G_advance l dC dI k h g len fp many tlen tat qlen md gat kind gs th st rq bl te og wi ti sc kd sr sa qb du wo  _ (by omega) (by omega) h_4 (by omega) (by omega) (by omega) (by omega)) (cwV 0 ht (g_V k_466 k_468 k_21 k_77 k_469) rfl rfl rfl (by decide +kernel) ⟨(Nat.le_of_ble_eq_true rfl), (Nat.le_of_ble_eq_true rfl)⟩) ⟨fb_X, va_recv hK hP (ci := 3) (q0 := 9) rfl rfl, pre_X hE hS hFc hP hK hD⟩ rfl rfl hl.1 rfl (lv_room (Nat.le_of_ble_eq_true rfl)) d_G_takeKind_11 ⟨(Nat.le_of_ble_eq_true rfl), (Nat.le_of_ble_eq_true rfl)⟩) hS (fun q _ h9 => hFc q h9) hFc (fun u_7 t H locs het hvm hw hB hz1 hk1 hS => ?_)
    obtain ⟨gat_2, kind_3, wi_4, ti_5, gs_6⟩ := u_7
    try dsimp only at hw
    obtain ⟨p_9, p_10, p_11, p_12⟩ := hw
    obtain ⟨hP1, hK1, hD1⟩ := hB
    rw [het] at hP1
    have hP : va_P (dC, dI) cls (WE h g len fp many tlen tat qlen md gat_2 kind_3 (.ref (k wi_4)) (.ref (k ti_5)) gs_6 th st rq bl te og sc kd sr wo sa qb du) H := hP1
    have hD : va_D A (WE h g len fp many tlen tat qlen md gat_2 kind_3 (.ref (k wi_4)) (.ref (k ti_5)) gs_6 th st rq bl te og sc kd sr wo sa qb du) := hD1.weaken (fun _ _ _ h9 => hFc _ h9)
    refine lv_iconst (v := 1) hx hb d_G_takeKind_14 (by decide) ?_
    have hc_1 : Int32.toInt 1 = 1 := by decide
    exact fin 1 (gat_2, kind_3, wi_4, ti_5, gs_6) _ _ _ ls d_G_takeKind_15 rfl ⟨(by (try dsimp only); omega), (by (try dsimp only); omega), (by (try dsimp only); omega), (by (try dsimp only); omega), rfl⟩ hP hD hS
  · refine lv_iconst (v := 0) hx hb d_G_takeKind_8 (by decide) ?_
    have hc_0 : Int32.toInt 0 = 0 := by decide
    exact fin 0 (gat, kind, wi, ti, gs) _ _ _ ls d_G_takeKind_9 rfl ⟨(by (try dsimp only); omega), (by (try dsimp only); omega), (by (try dsimp only); omega), (by (try dsimp only); omega), rfl⟩ hP hD hS
set_option maxHeartbeats 4000000 in
set_option maxRecDepth 100000 in
theorem c_G_takeKind (l : Launch) (dC : Nat → ClassId) (dI : Nat → Nat → Nat) (k : Nat → Nat) (h : Nat → Nat) (g : Nat → ClassId) (len : Int32) (fp : Int32) (many : Int32) (tlen : Int32) (tat : Int32) (qlen : Int32) (md : Int32) (gat : Int32) (kind : Int32) (gs : Int32) (th : Int32) (st : Int32) (rq : Int32) (bl : Int32) (te : Int32) (og : Int32) (wi : Nat) (ti : Nat) (sc : Nat → Int32) (kd : Nat → Int32) (sr : Nat → Int32) (sa : Nat → Int32) (qb : Nat → Int32) (du : Nat → Int32) (wo : Nat → Option Nat) (wn : Int32) (sz : Nat) (h_0 : 0 ≤ Int32.toInt many) (h_1 : Int32.toInt many ≤ 401) (h_2 : 0 ≤ Int32.toInt md) (h_3 : Int32.toInt md ≤ 200) (h_4 : WOk k wo) (v_0 : -1 ≤ Int32.toInt gat) (v_1 : Int32.toInt gat ≤ 400) (v_2 : wi < 43) (v_3 : ti < 43) : Met l y_G_takeKind (.code y_G_takeKind b_G_takeKind 2 (some .boolean) :: TT) ({ frames := 1, cells := 0, slots := 0, locals := 21 }) (va_Pc [.ref (h 9), .int wn] (PX dC dI k (TE g) (WE h g len fp many tlen tat qlen md gat kind (.ref (k wi)) (.ref (k ti)) gs th st rq bl te og sc kd sr wo sa qb du) sz)) (va_Qi (fun (r : Int32) (u : Int32 × Int32 × Nat × Nat × Int32) => -1 ≤ Int32.toInt u.1 ∧ Int32.toInt u.1 ≤ 400 ∧ u.2.2.1 < 43 ∧ u.2.2.2.1 < 43 ∧ narrow .boolean (.int r) = .int r) (fun u t => BX dC dI (TE g) (va_A (WE h g len fp many tlen tat qlen md gat kind (.ref (k wi)) (.ref (k ti)) gs th st rq bl te og sc kd sr wo sa qb du) sz) (WE h g len fp many tlen tat qlen md u.1 u.2.1 (.ref (k u.2.2.1)) (.ref (k u.2.2.2.1)) u.2.2.2.2 th st rq bl te og sc kd sr wo sa qb du) t) (va_A (WE h g len fp many tlen tat qlen md gat kind (.ref (k wi)) (.ref (k ti)) gs th st rq bl te og sc kd sr wo sa qb du) sz)) 0 0 (va_A (WE h g len fp many tlen tat qlen md gat kind (.ref (k wi)) (.ref (k ti)) gs th st rq bl te og sc kd sr wo sa qb du) sz) := by
  refine Met.ofW (cc := b_G_takeKind) (maxL := 2) (ret := (some .boolean)) (by decide) rfl ?_
  intro p e s m args below meth c s₁ B hml hv
  obtain ⟨rfl, hsz, hE, hP, hK, hD0⟩ := hv
  have hx := B.exec
  have hb := B.bytes
  have hr := B.returns
  have ht : ∀ w ∈ TT, w.before _ s = true := fun w hw => atoms_spec (ws := .code y_G_takeKind b_G_takeKind 2 (some .boolean) :: TT) B.pre w (List.mem_cons_of_mem _ hw)
  have hown : s.vm.findClass "SieveDesk$Grammar" = some m.cls := findClass_of_methodNamed B.named
  have hlocks := B.notSynchronized
  subst hsz
  have hD := hD0.self (sz := s.heap.size)
  generalize hAe : va_A (WE h g len fp many tlen tat qlen md gat kind (.ref (k wi)) (.ref (k ti)) gs th st rq bl te og sc kd sr wo sa qb du) s.heap.size = A at hE hD ⊢
  have hA : ∀ q : Nat, s.heap.size ≤ q → A q := fun q h9 => by rw [← hAe]; exact Or.inr h9
  have hS : va_S A s.heap s.heap [] := va_S.rf
  have hl := lv_entry ([.ref (h 9), .int wn]) (n := 2) (Nat.le_of_ble_eq_true rfl)
  rw [lg_entry_eq]
  generalize (lg_sl ([.ref (h 9), .int wn]) ++ List.replicate (2 - (lg_sl ([.ref (h 9), .int wn])).length) Slot.unset).toArray = ls at hl ⊢
  have hl : lv_has ls 2 [(0, .ref (h 9)), (1, .int wn)] := hl
  exact bd_G_takeKind_0 (wn := wn) hx hb hml hown ht hE hA hK h_0 h_1 h_2 h_3 h_4 (fun r u H locs pc ls hd hn hp hP hD hS => W.zret hx hb hr hn (fun t het hW => ⟨⟨r, u, rfl, hp, by rw [het]; exact hP, va_K.moved hW.alike hK, hD⟩, hS.F het⟩) hS.2.2 hd) gat kind wi ti gs v_0 v_1 v_2 v_3 _ _ ls hP hD hS hl
set_option maxHeartbeats 4000000 in
set_option maxRecDepth 100000 in
theorem bd_G_takeString_0 {p : Program} {l : Launch} {e : Env} {s : State} {m : MethodId} {args : Array Value} {below : List Frame} {meth : Method} {c : Code} {Q : State → Prop} {A : Nat → Prop} {dC : Nat → ClassId} {dI : Nat → Nat → Nat} {k h : Nat → Nat} {g : Nat → ClassId} {len : Int32} {fp : Int32} {many : Int32} {tlen : Int32} {tat : Int32} {qlen : Int32} {md : Int32} {th : Int32} {bl : Int32} {te : Int32} {og : Int32} {sc : Nat → Int32} {kd : Nat → Int32} {sr : Nat → Int32} {sa : Nat → Int32} {qb : Nat → Int32} {du : Nat → Int32} {wo : Nat → Option Nat} (hx : p.tables.exec = Jvm.exec) (hb : c.code = b_G_takeString) (hml : c.maxLocals = 2) (hown : s.vm.findClass "SieveDesk$Grammar" = some m.cls) (ht : ∀ w ∈ TT, w.before args s = true) (hE : KE k A s s.heap) (hA : ∀ q : Nat, s.heap.size ≤ q → A q) (hK : va_K (dC, dI) cls (TE g) s) {wn : Int32} (h_0 : 0 ≤ Int32.toInt many) (h_1 : Int32.toInt many ≤ 401) (h_2 : 0 ≤ Int32.toInt md) (h_3 : Int32.toInt md ≤ 200) (h_4 : WOk k wo) (fin : ∀ (r : Int32) (u : Int32 × Int32 × Nat × Nat × Int32 × Int32 × Int32) (H : Heap) (locs : List Loc) (pc : Nat) (ls : Array Slot), decode b_G_takeString pc = .ok (.ireturn, 1) → narrow .boolean (.int r) = .int r → (-1 ≤ Int32.toInt u.1 ∧ Int32.toInt u.1 ≤ 400 ∧ u.2.2.1 < 43 ∧ u.2.2.2.1 < 43 ∧ narrow .boolean (.int r) = .int r) → va_P (dC, dI) cls (WE h g len fp many tlen tat qlen md u.1 u.2.1 (.ref (k u.2.2.1)) (.ref (k u.2.2.2.1)) u.2.2.2.2.1 th u.2.2.2.2.2.1 u.2.2.2.2.2.2 bl te og sc kd sr wo sa qb du) H → va_D A (WE h g len fp many tlen tat qlen md u.1 u.2.1 (.ref (k u.2.2.1)) (.ref (k u.2.2.2.1)) u.2.2.2.2.1 th u.2.2.2.2.2.1 u.2.2.2.2.2.2 bl te og sc kd sr wo sa qb du) → va_S A s.heap H locs → W p l e ({ frames := 1, cells := 0, slots := 0, locals := 21 } : Room) s m args below meth c H locs 0 0 Q (F0 m pc ls [.int r])) : ∀ (gat : Int32) (kind : Int32) (wi : Nat) (ti : Nat) (gs : Int32) (st : Int32) (rq : Int32), -1 ≤ Int32.toInt gat → Int32.toInt gat ≤ 400 → wi < 43 → ti < 43 → ∀ (H : Heap) (locs : List Loc) (ls : Array Slot), va_P (dC, dI) cls (WE h g len fp many tlen tat qlen md gat kind (.ref (k wi)) (.ref (k ti)) gs th st rq bl te og sc kd sr wo sa qb du) H → va_D A (WE h g len fp many tlen tat qlen md gat kind (.ref (k wi)) (.ref (k ti)) gs th st rq bl te og sc kd sr wo sa qb du) → va_S A s.heap H locs → lv_has ls 2 [(0, .ref (h 9)), (1, .int wn)] → W p l e ({ frames := 1, cells := 0, slots := 0, locals := 21 } : Room) s m args below meth c H locs 0 0 Q (F0 m 0 ls []) := by
  intro gat kind wi ti gs st rq v_0 v_1 v_2 v_3 H locs ls hP hD hS hl
  refine lv_aload_n hx hb d_G_takeString_0 rfl (lv_at hl 0 rfl) ?_
  refine va_get (D := (dC, dI)) (ci := 3) (v := .int kind) (C := "SieveDesk$Grammar") (T := F_G) (N := 14) hx hb ht i_G hown hK hP 9 rfl rfl 4 (by decide) (ht _ k_164) (fun _ h9 => h9) rfl d_G_takeString_1 ?_
  refine lv_iconst (v := 4) hx hb d_G_takeString_4 (by decide) ?_
  refine lv_icmp_ne (tgt := 17) hx hb d_G_takeString_5 (by decide) (fun c_1 => ?_) (fun c_1 => ?_)
  · refine lv_iconst (v := 0) hx hb d_G_takeString_17 (by decide) ?_
    have hc_0 : Int32.toInt 0 = 0 := by decide
    exact fin 0 (gat, kind, wi, ti, gs, st, rq) _ _ _ ls d_G_takeString_18 rfl ⟨(by (try dsimp only); omega), (by (try dsimp only); omega), (by (try dsimp only); omega), (by (try dsimp only); omega), rfl⟩ hP hD hS
  · refine lv_aload_n hx hb d_G_takeString_8 rfl (lv_at hl 0 rfl) ?_
    refine va_get (D := (dC, dI)) (ci := 3) (v := .int st) (C := "SieveDesk$Grammar") (T := F_G) (N := 14) hx hb ht i_G hown hK hP 9 rfl rfl 9 (by decide) (ht _ k_170) (fun _ h9 => h9) rfl d_G_takeString_9 ?_
    refine lv_bipush (v := 60) hx hb d_G_takeString_12 (by decide) ?_
    refine lv_icmp_lt (tgt := 19) hx hb d_G_takeString_14 (by decide) (fun c_2 => ?_) (fun c_2 => ?_)
    · refine lv_aload_n hx hb d_G_takeString_19 rfl (lv_at hl 0 rfl) ?_
      refine lv_dup hx hb d_G_takeString_20 rfl ?_
      refine va_get (D := (dC, dI)) (ci := 3) (v := .int st) (C := "SieveDesk$Grammar") (T := F_G) (N := 14) hx hb ht i_G hown hK hP 9 rfl rfl 9 (by decide) (ht _ k_170) (fun _ h9 => h9) rfl d_G_takeString_21 ?_
      refine lv_iconst (v := 1) hx hb d_G_takeString_24 (by decide) ?_
      refine lv_iadd hx hb d_G_takeString_25 ?_
      refine va_put (D := (dC, dI)) (ci := 3) (v := .int (st + 1)) (ty := .int) (C := "SieveDesk$Grammar") (T := F_G) (N := 14) hx hb ht i_G ty_G ty_G_ok n_G hown hK hP hD hS 9 rfl rfl 9 (by decide) (ht _ k_170) (fun _ h9 => h9) rfl (ty_G_ok 9 (by decide)) rfl rfl (Nat.le_of_ble_eq_true rfl) d_G_takeString_26 (fun H locs hP hD hS => ?_)
      have hP : va_P (dC, dI) cls (WE h g len fp many tlen tat qlen md gat kind (.ref (k wi)) (.ref (k ti)) gs th (st + 1) rq bl te og sc kd sr wo sa qb du) H := hP
      have hD : va_D A (WE h g len fp many tlen tat qlen md gat kind (.ref (k wi)) (.ref (k ti)) gs th (st + 1) rq bl te og sc kd sr wo sa qb du) := hD
      refine lv_aload_n hx hb d_G_takeString_29 rfl (lv_at hl 0 rfl) ?_
      refine va_get (D := (dC, dI)) (ci := 3) (v := .int gs) (C := "SieveDesk$Grammar") (T := F_G) (N := 14) hx hb ht i_G hown hK hP 9 rfl rfl 7 (by decide) (ht _ k_167) (fun _ h9 => h9) rfl d_G_takeString_30 ?_
      refine lv_iload_n hx hb d_G_takeString_33 rfl (lv_at hl 1 rfl) ?_
      refine lv_iand hx hb d_G_takeString_34 ?_
      refine lv_if_ne (tgt := 40) hx hb d_G_takeString_35 (by decide) (fun c_3 => ?_) (fun c_3 => ?_)
      · refine lv_iload_n hx hb d_G_takeString_40 rfl (lv_at hl 1 rfl) ?_
        refine lv_sipush (v := 255) hx hb d_G_takeString_41 (by decide) ?_
        refine lv_icmp_ne (tgt := 64) hx hb d_G_takeString_44 (by decide) (fun c_4 => ?_) (fun c_4 => ?_)
        · refine lv_aload_n hx hb d_G_takeString_64 rfl (lv_at hl 0 rfl) ?_
          have hFc := va_free (wc := (WE h g len fp many tlen tat qlen md gat kind (.ref (k wi)) (.ref (k ti)) gs th (st + 1) rq bl te og sc kd sr wo sa qb du)) hD hS hA [0, 1, 2, 3, 4, 5, 6, 7, 8, 9, 10] rfl
          refine va_callv (va_runV (As := []) (rest := []) ⟨hx, hb, hml, hown, ht⟩ (c_G_advance l dC dI k h g len fp many tlen tat qlen md gat kind gs th (st + 1) rq bl te og wi ti sc kd sr sa qb du wo  _ (by omega) (by omega) h_4 (by omega) (by omega) (by omega) (by omega)) (cwV 0 ht (g_V k_466 k_468 k_21 k_77 k_469) rfl rfl rfl (by decide +kernel) ⟨(Nat.le_of_ble_eq_true rfl), (Nat.le_of_ble_eq_true rfl)⟩) ⟨fb_X, va_recv hK hP (ci := 3) (q0 := 9) rfl rfl, pre_X hE hS hFc hP hK hD⟩ rfl rfl hl.1 rfl (lv_room (Nat.le_of_ble_eq_true rfl)) d_G_takeString_65 ⟨(Nat.le_of_ble_eq_true rfl), (Nat.le_of_ble_eq_true rfl)⟩) hS (fun q _ h9 => hFc q h9) hFc (fun u_10 t H locs het hvm hw hB hz1 hk1 hS => ?_)
          obtain ⟨gat_5, kind_6, wi_7, ti_8, gs_9⟩ := u_10
          try dsimp only at hw
          obtain ⟨p_12, p_13, p_14, p_15⟩ := hw
          obtain ⟨hP1, hK1, hD1⟩ := hB
          rw [het] at hP1
          have hP : va_P (dC, dI) cls (WE h g len fp many tlen tat qlen md gat_5 kind_6 (.ref (k wi_7)) (.ref (k ti_8)) gs_9 th (st + 1) rq bl te og sc kd sr wo sa qb du) H := hP1
          have hD : va_D A (WE h g len fp many tlen tat qlen md gat_5 kind_6 (.ref (k wi_7)) (.ref (k ti_8)) gs_9 th (st + 1) rq bl te og sc kd sr wo sa qb du) := hD1.weaken (fun _ _ _ h9 => hFc _ h9)
          refine lv_iconst (v := 1) hx hb d_G_takeString_68 (by decide) ?_
          have hc_1 : Int32.toInt 1 = 1 := by decide
          exact fin 1 (gat_5, kind_6, wi_7, ti_8, gs_9, (st + 1), rq) _ _ _ ls d_G_takeString_69 rfl ⟨(by (try dsimp only); omega), (by (try dsimp only); omega), (by (try dsimp only); omega), (by (try dsimp only); omega), rfl⟩ hP hD hS
        · refine lv_aload_n hx hb d_G_takeString_47 rfl (lv_at hl 0 rfl) ?_
          refine lv_dup hx hb d_G_takeString_48 rfl ?_
          refine va_get (D := (dC, dI)) (ci := 3) (v := .int rq) (C := "SieveDesk$Grammar") (T := F_G) (N := 14) hx hb ht i_G hown hK hP 9 rfl rfl 10 (by decide) (ht _ k_172) (fun _ h9 => h9) rfl d_G_takeString_49 ?_
          refine lv_aload_n hx hb d_G_takeString_52 rfl (lv_at hl 0 rfl) ?_
          refine va_get (D := (dC, dI)) (ci := 3) (v := .int gs) (C := "SieveDesk$Grammar") (T := F_G) (N := 14) hx hb ht i_G hown hK hP 9 rfl rfl 7 (by decide) (ht _ k_167) (fun _ h9 => h9) rfl d_G_takeString_53 ?_
          refine lv_sipush (v := 255) hx hb d_G_takeString_56 (by decide) ?_
          refine lv_iand hx hb d_G_takeString_59 ?_
          refine lv_ior hx hb d_G_takeString_60 ?_
          refine va_put (D := (dC, dI)) (ci := 3) (v := .int (rq ||| (gs &&& 255))) (ty := .int) (C := "SieveDesk$Grammar") (T := F_G) (N := 14) hx hb ht i_G ty_G ty_G_ok n_G hown hK hP hD hS 9 rfl rfl 10 (by decide) (ht _ k_172) (fun _ h9 => h9) rfl (ty_G_ok 10 (by decide)) rfl rfl (Nat.le_of_ble_eq_true rfl) d_G_takeString_61 (fun H locs hP hD hS => ?_)
          have hP : va_P (dC, dI) cls (WE h g len fp many tlen tat qlen md gat kind (.ref (k wi)) (.ref (k ti)) gs th (st + 1) (rq ||| (gs &&& 255)) bl te og sc kd sr wo sa qb du) H := hP
          have hD : va_D A (WE h g len fp many tlen tat qlen md gat kind (.ref (k wi)) (.ref (k ti)) gs th (st + 1) (rq ||| (gs &&& 255)) bl te og sc kd sr wo sa qb du) := hD
          refine lv_aload_n hx hb d_G_takeString_64 rfl (lv_at hl 0 rfl) ?_
          have hFc := va_free (wc := (WE h g len fp many tlen tat qlen md gat kind (.ref (k wi)) (.ref (k ti)) gs th (st + 1) (rq ||| (gs &&& 255)) bl te og sc kd sr wo sa qb du)) hD hS hA [0, 1, 2, 3, 4, 5, 6, 7, 8, 9, 10] rfl
          refine va_callv (va_runV (As := []) (rest := []) ⟨hx, hb, hml, hown, ht⟩ (c_G_advance l dC dI k h g len fp many tlen tat qlen md gat kind gs th (st + 1) (rq ||| (gs &&& 255)) bl te og wi ti sc kd sr sa qb du wo  _ (by omega) (by omega) h_4 (by omega) (by omega) (by omega) (by omega)) (cwV 0 ht (g_V k_466 k_468 k_21 k_77 k_469) rfl rfl rfl (by decide +kernel) ⟨(Nat.le_of_ble_eq_true rfl), (Nat.le_of_ble_eq_true rfl)⟩) ⟨fb_X, va_recv hK hP (ci := 3) (q0 := 9) rfl rfl, pre_X hE hS hFc hP hK hD⟩ rfl rfl hl.1 rfl (lv_room (Nat.le_of_ble_eq_true rfl)) d_G_takeString_65 ⟨(Nat.le_of_ble_eq_true rfl), (Nat.le_of_ble_eq_true rfl)⟩) hS (fun q _ h9 => hFc q h9) hFc (fun u_21 t H locs het hvm hw hB hz1 hk1 hS => ?_)
          obtain ⟨gat_16, kind_17, wi_18, ti_19, gs_20⟩ := u_21
          try dsimp only at hw
          obtain ⟨p_23, p_24, p_25, p_26⟩ := hw
          obtain ⟨hP1, hK1, hD1⟩ := hB
          rw [het] at hP1
          have hP : va_P (dC, dI) cls (WE h g len fp many tlen tat qlen md gat_16 kind_17 (.ref (k wi_18)) (.ref (k ti_19)) gs_20 th (st + 1) (rq ||| (gs &&& 255)) bl te og sc kd sr wo sa qb du) H := hP1
          have hD : va_D A (WE h g len fp many tlen tat qlen md gat_16 kind_17 (.ref (k wi_18)) (.ref (k ti_19)) gs_20 th (st + 1) (rq ||| (gs &&& 255)) bl te og sc kd sr wo sa qb du) := hD1.weaken (fun _ _ _ h9 => hFc _ h9)
          refine lv_iconst (v := 1) hx hb d_G_takeString_68 (by decide) ?_
          have hc_1 : Int32.toInt 1 = 1 := by decide
          exact fin 1 (gat_16, kind_17, wi_18, ti_19, gs_20, (st + 1), (rq ||| (gs &&& 255))) _ _ _ ls d_G_takeString_69 rfl ⟨(by (try dsimp only); omega), (by (try dsimp only); omega), (by (try dsimp only); omega), (by (try dsimp only); omega), rfl⟩ hP hD hS
      · refine lv_iconst (v := 0) hx hb d_G_takeString_38 (by decide) ?_
        have hc_0 : Int32.toInt 0 = 0 := by decide
        exact fin 0 (gat, kind, wi, ti, gs, (st + 1), rq) _ _ _ ls d_G_takeString_39 rfl ⟨(by (try dsimp only); omega), (by (try dsimp only); omega), (by (try dsimp only); omega), (by (try dsimp only); omega), rfl⟩ hP hD hS
    · refine lv_iconst (v := 0) hx hb d_G_takeString_17 (by decide) ?_
      have hc_0 : Int32.toInt 0 = 0 := by decide
      exact fin 0 (gat, kind, wi, ti, gs, st, rq) _ _ _ ls d_G_takeString_18 rfl ⟨(by (try dsimp only); omega), (by (try dsimp only); omega), (by (try dsimp only); omega), (by (try dsimp only); omega), rfl⟩ hP hD hS
set_option maxHeartbeats 4000000 in
set_option maxRecDepth 100000 in
theorem c_G_takeString (l : Launch) (dC : Nat → ClassId) (dI : Nat → Nat → Nat) (k : Nat → Nat) (h : Nat → Nat) (g : Nat → ClassId) (len : Int32) (fp : Int32) (many : Int32) (tlen : Int32) (tat : Int32) (qlen : Int32) (md : Int32) (gat : Int32) (kind : Int32) (gs : Int32) (th : Int32) (st : Int32) (rq : Int32) (bl : Int32) (te : Int32) (og : Int32) (wi : Nat) (ti : Nat) (sc : Nat → Int32) (kd : Nat → Int32) (sr : Nat → Int32) (sa : Nat → Int32) (qb : Nat → Int32) (du : Nat → Int32) (wo : Nat → Option Nat) (wn : Int32) (sz : Nat) (h_0 : 0 ≤ Int32.toInt many) (h_1 : Int32.toInt many ≤ 401) (h_2 : 0 ≤ Int32.toInt md) (h_3 : Int32.toInt md ≤ 200) (h_4 : WOk k wo) (v_0 : -1 ≤ Int32.toInt gat) (v_1 : Int32.toInt gat ≤ 400) (v_2 : wi < 43) (v_3 : ti < 43) : Met l y_G_takeString (.code y_G_takeString b_G_takeString 2 (some .boolean) :: TT) ({ frames := 1, cells := 0, slots := 0, locals := 21 }) (va_Pc [.ref (h 9), .int wn] (PX dC dI k (TE g) (WE h g len fp many tlen tat qlen md gat kind (.ref (k wi)) (.ref (k ti)) gs th st rq bl te og sc kd sr wo sa qb du) sz)) (va_Qi (fun (r : Int32) (u : Int32 × Int32 × Nat × Nat × Int32 × Int32 × Int32) => -1 ≤ Int32.toInt u.1 ∧ Int32.toInt u.1 ≤ 400 ∧ u.2.2.1 < 43 ∧ u.2.2.2.1 < 43 ∧ narrow .boolean (.int r) = .int r) (fun u t => BX dC dI (TE g) (va_A (WE h g len fp many tlen tat qlen md gat kind (.ref (k wi)) (.ref (k ti)) gs th st rq bl te og sc kd sr wo sa qb du) sz) (WE h g len fp many tlen tat qlen md u.1 u.2.1 (.ref (k u.2.2.1)) (.ref (k u.2.2.2.1)) u.2.2.2.2.1 th u.2.2.2.2.2.1 u.2.2.2.2.2.2 bl te og sc kd sr wo sa qb du) t) (va_A (WE h g len fp many tlen tat qlen md gat kind (.ref (k wi)) (.ref (k ti)) gs th st rq bl te og sc kd sr wo sa qb du) sz)) 0 0 (va_A (WE h g len fp many tlen tat qlen md gat kind (.ref (k wi)) (.ref (k ti)) gs th st rq bl te og sc kd sr wo sa qb du) sz) := by
  refine Met.ofW (cc := b_G_takeString) (maxL := 2) (ret := (some .boolean)) (by decide) rfl ?_
  intro p e s m args below meth c s₁ B hml hv
  obtain ⟨rfl, hsz, hE, hP, hK, hD0⟩ := hv
  have hx := B.exec
  have hb := B.bytes
  have hr := B.returns
  have ht : ∀ w ∈ TT, w.before _ s = true := fun w hw => atoms_spec (ws := .code y_G_takeString b_G_takeString 2 (some .boolean) :: TT) B.pre w (List.mem_cons_of_mem _ hw)
  have hown : s.vm.findClass "SieveDesk$Grammar" = some m.cls := findClass_of_methodNamed B.named
  have hlocks := B.notSynchronized
  subst hsz
  have hD := hD0.self (sz := s.heap.size)
  generalize hAe : va_A (WE h g len fp many tlen tat qlen md gat kind (.ref (k wi)) (.ref (k ti)) gs th st rq bl te og sc kd sr wo sa qb du) s.heap.size = A at hE hD ⊢
  have hA : ∀ q : Nat, s.heap.size ≤ q → A q := fun q h9 => by rw [← hAe]; exact Or.inr h9
  have hS : va_S A s.heap s.heap [] := va_S.rf
  have hl := lv_entry ([.ref (h 9), .int wn]) (n := 2) (Nat.le_of_ble_eq_true rfl)
  rw [lg_entry_eq]
  generalize (lg_sl ([.ref (h 9), .int wn]) ++ List.replicate (2 - (lg_sl ([.ref (h 9), .int wn])).length) Slot.unset).toArray = ls at hl ⊢
  have hl : lv_has ls 2 [(0, .ref (h 9)), (1, .int wn)] := hl
  exact bd_G_takeString_0 (wn := wn) hx hb hml hown ht hE hA hK h_0 h_1 h_2 h_3 h_4 (fun r u H locs pc ls hd hn hp hP hD hS => W.zret hx hb hr hn (fun t het hW => ⟨⟨r, u, rfl, hp, by rw [het]; exact hP, va_K.moved hW.alike hK, hD⟩, hS.F het⟩) hS.2.2 hd) gat kind wi ti gs st rq v_0 v_1 v_2 v_3 _ _ ls hP hD hS hl
set_option maxHeartbeats 4000000 in
set_option maxRecDepth 100000 in
theorem lp_G_takeStrings_21 {p : Program} {l : Launch} {e : Env} {s : State} {m : MethodId} {args : Array Value} {below : List Frame} {meth : Method} {c : Code} {Q : State → Prop} {A : Nat → Prop} {dC : Nat → ClassId} {dI : Nat → Nat → Nat} {k h : Nat → Nat} {g : Nat → ClassId} {len : Int32} {fp : Int32} {many : Int32} {tlen : Int32} {tat : Int32} {qlen : Int32} {md : Int32} {th : Int32} {bl : Int32} {te : Int32} {og : Int32} {sc : Nat → Int32} {kd : Nat → Int32} {sr : Nat → Int32} {sa : Nat → Int32} {qb : Nat → Int32} {du : Nat → Int32} {wo : Nat → Option Nat} (hx : p.tables.exec = Jvm.exec) (hb : c.code = b_G_takeStrings) (hml : c.maxLocals = 3) (hown : s.vm.findClass "SieveDesk$Grammar" = some m.cls) (ht : ∀ w ∈ TT, w.before args s = true) (hE : KE k A s s.heap) (hA : ∀ q : Nat, s.heap.size ≤ q → A q) (hK : va_K (dC, dI) cls (TE g) s) {wn : Int32} (h_0 : 0 ≤ Int32.toInt many) (h_1 : Int32.toInt many ≤ 401) (h_2 : 0 ≤ Int32.toInt md) (h_3 : Int32.toInt md ≤ 200) (h_4 : WOk k wo) (fin : ∀ (r : Int32) (u : Int32 × Int32 × Nat × Nat × Int32 × Int32 × Int32) (H : Heap) (locs : List Loc) (pc : Nat) (ls : Array Slot), decode b_G_takeStrings pc = .ok (.ireturn, 1) → narrow .boolean (.int r) = .int r → (-1 ≤ Int32.toInt u.1 ∧ Int32.toInt u.1 ≤ 400 ∧ u.2.2.1 < 43 ∧ u.2.2.2.1 < 43 ∧ narrow .boolean (.int r) = .int r) → va_P (dC, dI) cls (WE h g len fp many tlen tat qlen md u.1 u.2.1 (.ref (k u.2.2.1)) (.ref (k u.2.2.2.1)) u.2.2.2.2.1 th u.2.2.2.2.2.1 u.2.2.2.2.2.2 bl te og sc kd sr wo sa qb du) H → va_D A (WE h g len fp many tlen tat qlen md u.1 u.2.1 (.ref (k u.2.2.1)) (.ref (k u.2.2.2.1)) u.2.2.2.2.1 th u.2.2.2.2.2.1 u.2.2.2.2.2.2 bl te og sc kd sr wo sa qb du) → va_S A s.heap H locs → W p l e ({ frames := 2, cells := 0, slots := 0, locals := 42 } : Room) s m args below meth c H locs 0 0 Q (F0 m pc ls [.int r])) : ∀ (nn : Nat), ∀ (ls_ : Int32) (gat : Int32) (kind : Int32) (wi : Nat) (ti : Nat) (gs : Int32) (st : Int32) (rq : Int32), 0 ≤ Int32.toInt ls_ → Int32.toInt ls_ ≤ 10 → -1 ≤ Int32.toInt gat → Int32.toInt gat ≤ 400 → wi < 43 → ti < 43 → (10 - Int32.toInt ls_).toNat < nn → ∀ (H : Heap) (locs : List Loc) (ls : Array Slot), va_P (dC, dI) cls (WE h g len fp many tlen tat qlen md gat kind (.ref (k wi)) (.ref (k ti)) gs th st rq bl te og sc kd sr wo sa qb du) H → va_D A (WE h g len fp many tlen tat qlen md gat kind (.ref (k wi)) (.ref (k ti)) gs th st rq bl te og sc kd sr wo sa qb du) → va_S A s.heap H locs → lv_has ls 3 [(2, .int ls_), (0, .ref (h 9)), (1, .int wn)] → W p l e ({ frames := 2, cells := 0, slots := 0, locals := 42 } : Room) s m args below meth c H locs 0 0 Q (F0 m 21 ls []) := by
  intro nn
  induction nn with
  | zero =>
    intro _ _ _ _ _ _ _ _ _ _ _ _ _ _ hm
    exact absurd hm (Nat.not_lt_zero _)
  | succ nn ih =>
    intro ls_ gat kind wi ti gs st rq v_0 v_1 v_2 v_3 v_4 v_5 hm H locs ls hP hD hS hl
    refine lv_iload_n hx hb d_G_takeStrings_21 rfl (lv_at hl 0 rfl) ?_
    refine lv_bipush (v := 10) hx hb d_G_takeStrings_22 (by decide) ?_
    refine lv_icmp_ge (tgt := 63) hx hb d_G_takeStrings_24 (by decide) (fun c_1 => ?_) (fun c_1 => ?_)
    · have dc_1 := i_le c_1 (show Int32.toInt 10 = 10 by decide) rfl
      refine lv_iconst (v := 0) hx hb d_G_takeStrings_63 (by decide) ?_
      have hc_0 : Int32.toInt 0 = 0 := by decide
      exact fin 0 (gat, kind, wi, ti, gs, st, rq) _ _ _ ls d_G_takeStrings_64 rfl ⟨(by (try dsimp only); omega), (by (try dsimp only); omega), (by (try dsimp only); omega), (by (try dsimp only); omega), rfl⟩ hP hD hS
    · have dc_1 := i_nle c_1 (show Int32.toInt 10 = 10 by decide) rfl
      refine lv_aload_n hx hb d_G_takeStrings_27 rfl (lv_at hl 1 rfl) ?_
      refine lv_iload_n hx hb d_G_takeStrings_28 rfl (lv_at hl 2 rfl) ?_
      have hFc := va_free (wc := (WE h g len fp many tlen tat qlen md gat kind (.ref (k wi)) (.ref (k ti)) gs th st rq bl te og sc kd sr wo sa qb du)) hD hS hA [0, 1, 2, 3, 4, 5, 6, 7, 8, 9, 10] rfl
      refine va_calli (va_runV (As := [.int wn]) (rest := []) ⟨hx, hb, hml, hown, ht⟩ (c_G_takeString l dC dI k h g len fp many tlen tat qlen md gat kind gs th st rq bl te og wi ti sc kd sr sa qb du wo wn _ (by omega) (by omega) (by omega) (by omega) h_4 (by omega) (by omega) (by omega) (by omega)) (cwV 1 ht (g_V k_529 k_531 k_32 k_77 k_532) rfl rfl rfl (by decide +kernel) ⟨(Nat.le_of_ble_eq_true rfl), (Nat.le_of_ble_eq_true rfl)⟩) ⟨fb_X, va_recv hK hP (ci := 3) (q0 := 9) rfl rfl, pre_X hE hS hFc hP hK hD⟩ rfl rfl hl.1 rfl (lv_room (Nat.le_of_ble_eq_true rfl)) d_G_takeStrings_29 ⟨(Nat.le_of_ble_eq_true rfl), (Nat.le_of_ble_eq_true rfl)⟩) hS (fun q _ h9 => hFc q h9) hFc (fun r_10 u_9 t H locs het hvm hw hB hz1 hk1 hS => ?_)
      obtain ⟨gat_2, kind_3, wi_4, ti_5, gs_6, st_7, rq_8⟩ := u_9
      try dsimp only at hw
      obtain ⟨p_11, p_12, p_13, p_14, p_15⟩ := hw
      obtain ⟨hP1, hK1, hD1⟩ := hB
      rw [het] at hP1
      have hP : va_P (dC, dI) cls (WE h g len fp many tlen tat qlen md gat_2 kind_3 (.ref (k wi_4)) (.ref (k ti_5)) gs_6 th st_7 rq_8 bl te og sc kd sr wo sa qb du) H := hP1
      have hD : va_D A (WE h g len fp many tlen tat qlen md gat_2 kind_3 (.ref (k wi_4)) (.ref (k ti_5)) gs_6 th st_7 rq_8 bl te og sc kd sr wo sa qb du) := hD1.weaken (fun _ _ _ h9 => hFc _ h9)
      refine lv_if_ne (tgt := 37) hx hb d_G_takeStrings_32 (by decide) (fun c_16 => ?_) (fun c_16 => ?_)
      · refine lv_aload_n hx hb d_G_takeStrings_37 rfl (lv_at hl 1 rfl) ?_
        refine va_get (D := (dC, dI)) (ci := 3) (v := .int kind_3) (C := "SieveDesk$Grammar") (T := F_G) (N := 14) hx hb ht i_G hown hK hP 9 rfl rfl 4 (by decide) (ht _ k_164) (fun _ h9 => h9) rfl d_G_takeStrings_38 ?_
        refine lv_bipush (v := 44) hx hb d_G_takeStrings_41 (by decide) ?_
        refine lv_icmp_eq (tgt := 53) hx hb d_G_takeStrings_43 (by decide) (fun c_17 => ?_) (fun c_17 => ?_)
        · refine lv_aload_n hx hb d_G_takeStrings_53 rfl (lv_at hl 1 rfl) ?_
          have hFc := va_free (wc := (WE h g len fp many tlen tat qlen md gat_2 kind_3 (.ref (k wi_4)) (.ref (k ti_5)) gs_6 th st_7 rq_8 bl te og sc kd sr wo sa qb du)) hD hS hA [0, 1, 2, 3, 4, 5, 6, 7, 8, 9, 10] rfl
          refine va_callv (va_runV (As := []) (rest := []) ⟨hx, hb, hml, hown, ht⟩ (c_G_advance l dC dI k h g len fp many tlen tat qlen md gat_2 kind_3 gs_6 th st_7 rq_8 bl te og wi_4 ti_5 sc kd sr sa qb du wo  _ (by omega) (by omega) h_4 (by omega) (by omega) (by omega) (by omega)) (cwV 0 ht (g_V k_466 k_468 k_21 k_77 k_469) rfl rfl rfl (by decide +kernel) ⟨(Nat.le_of_ble_eq_true rfl), (Nat.le_of_ble_eq_true rfl)⟩) ⟨fb_X, va_recv hK hP (ci := 3) (q0 := 9) rfl rfl, pre_X hE hS hFc hP hK hD⟩ rfl rfl hl.1 rfl (lv_room (Nat.le_of_ble_eq_true rfl)) d_G_takeStrings_54 ⟨(Nat.le_of_ble_eq_true rfl), (Nat.le_of_ble_eq_true rfl)⟩) hS (fun q _ h9 => hFc q h9) hFc (fun u_23 t H locs het hvm hw hB hz1 hk1 hS => ?_)
          obtain ⟨gat_18, kind_19, wi_20, ti_21, gs_22⟩ := u_23
          try dsimp only at hw
          obtain ⟨p_25, p_26, p_27, p_28⟩ := hw
          obtain ⟨hP1, hK1, hD1⟩ := hB
          rw [het] at hP1
          have hP : va_P (dC, dI) cls (WE h g len fp many tlen tat qlen md gat_18 kind_19 (.ref (k wi_20)) (.ref (k ti_21)) gs_22 th st_7 rq_8 bl te og sc kd sr wo sa qb du) H := hP1
          have hD : va_D A (WE h g len fp many tlen tat qlen md gat_18 kind_19 (.ref (k wi_20)) (.ref (k ti_21)) gs_22 th st_7 rq_8 bl te og sc kd sr wo sa qb du) := hD1.weaken (fun _ _ _ h9 => hFc _ h9)
          refine lv_iinc (v := (ls_ + 1)) (lv' := [(2, .int (ls_ + 1)), (0, .ref (h 9)), (1, .int wn)]) hx hb d_G_takeStrings_57 hl (k := 0) rfl rfl (by decide) rfl (fun ls hl => ?_)
          have e_29 : Int32.toInt (ls_ + 1) = (Int32.toInt ls_) + 1 := i_add rfl (show Int32.toInt 1 = 1 by decide) (by omega) (by omega)
          refine lv_goto (tgt := 21) hx hb d_G_takeStrings_60 (by decide) ?_
          exact ih (ls_ + 1) gat_18 kind_19 wi_20 ti_21 gs_22 st_7 rq_8 (by omega) (by omega) (by omega) (by omega) (by omega) (by omega) (by omega) _ _ ls hP hD hS (lv_sub hl [0, 1, 2] rfl)
        · refine lv_aload_n hx hb d_G_takeStrings_46 rfl (lv_at hl 1 rfl) ?_
          refine lv_bipush (v := 93) hx hb d_G_takeStrings_47 (by decide) ?_
          have hc_93 : Int32.toInt 93 = 93 := by decide
          have hFc := va_free (wc := (WE h g len fp many tlen tat qlen md gat_2 kind_3 (.ref (k wi_4)) (.ref (k ti_5)) gs_6 th st_7 rq_8 bl te og sc kd sr wo sa qb du)) hD hS hA [0, 1, 2, 3, 4, 5, 6, 7, 8, 9, 10] rfl
          refine va_calli (va_runV (As := [.int 93]) (rest := []) ⟨hx, hb, hml, hown, ht⟩ (c_G_takeKind l dC dI k h g len fp many tlen tat qlen md gat_2 kind_3 gs_6 th st_7 rq_8 bl te og wi_4 ti_5 sc kd sr sa qb du wo 93 _ (by omega) (by omega) (by omega) (by omega) h_4 (by omega) (by omega) (by omega) (by omega)) (cwV 1 ht (g_V k_525 k_527 k_31 k_77 k_528) rfl rfl rfl (by decide +kernel) ⟨(Nat.le_of_ble_eq_true rfl), (Nat.le_of_ble_eq_true rfl)⟩) ⟨fb_X, va_recv hK hP (ci := 3) (q0 := 9) rfl rfl, pre_X hE hS hFc hP hK hD⟩ rfl rfl hl.1 rfl (lv_room (Nat.le_of_ble_eq_true rfl)) d_G_takeStrings_49 ⟨(Nat.le_of_ble_eq_true rfl), (Nat.le_of_ble_eq_true rfl)⟩) hS (fun q _ h9 => hFc q h9) hFc (fun r_36 u_35 t H locs het hvm hw hB hz1 hk1 hS => ?_)
          obtain ⟨gat_30, kind_31, wi_32, ti_33, gs_34⟩ := u_35
          try dsimp only at hw
          obtain ⟨p_37, p_38, p_39, p_40, p_41⟩ := hw
          obtain ⟨hP1, hK1, hD1⟩ := hB
          rw [het] at hP1
          have hP : va_P (dC, dI) cls (WE h g len fp many tlen tat qlen md gat_30 kind_31 (.ref (k wi_32)) (.ref (k ti_33)) gs_34 th st_7 rq_8 bl te og sc kd sr wo sa qb du) H := hP1
          have hD : va_D A (WE h g len fp many tlen tat qlen md gat_30 kind_31 (.ref (k wi_32)) (.ref (k ti_33)) gs_34 th st_7 rq_8 bl te og sc kd sr wo sa qb du) := hD1.weaken (fun _ _ _ h9 => hFc _ h9)
          exact fin r_36 (gat_30, kind_31, wi_32, ti_33, gs_34, st_7, rq_8) _ _ _ ls d_G_takeStrings_52 p_41 ⟨(by (try dsimp only); omega), (by (try dsimp only); omega), (by (try dsimp only); omega), (by (try dsimp only); omega), p_41⟩ hP hD hS
      · refine lv_iconst (v := 0) hx hb d_G_takeStrings_35 (by decide) ?_
        have hc_0 : Int32.toInt 0 = 0 := by decide
        exact fin 0 (gat_2, kind_3, wi_4, ti_5, gs_6, st_7, rq_8) _ _ _ ls d_G_takeStrings_36 rfl ⟨(by (try dsimp only); omega), (by (try dsimp only); omega), (by (try dsimp only); omega), (by (try dsimp only); omega), rfl⟩ hP hD hS
set_option maxHeartbeats 4000000 in
set_option maxRecDepth 100000 in
theorem bd_G_takeStrings_0 {p : Program} {l : Launch} {e : Env} {s : State} {m : MethodId} {args : Array Value} {below : List Frame} {meth : Method} {c : Code} {Q : State → Prop} {A : Nat → Prop} {dC : Nat → ClassId} {dI : Nat → Nat → Nat} {k h : Nat → Nat} {g : Nat → ClassId} {len : Int32} {fp : Int32} {many : Int32} {tlen : Int32} {tat : Int32} {qlen : Int32} {md : Int32} {th : Int32} {bl : Int32} {te : Int32} {og : Int32} {sc : Nat → Int32} {kd : Nat → Int32} {sr : Nat → Int32} {sa : Nat → Int32} {qb : Nat → Int32} {du : Nat → Int32} {wo : Nat → Option Nat} (hx : p.tables.exec = Jvm.exec) (hb : c.code = b_G_takeStrings) (hml : c.maxLocals = 3) (hown : s.vm.findClass "SieveDesk$Grammar" = some m.cls) (ht : ∀ w ∈ TT, w.before args s = true) (hE : KE k A s s.heap) (hA : ∀ q : Nat, s.heap.size ≤ q → A q) (hK : va_K (dC, dI) cls (TE g) s) {wn : Int32} (h_0 : 0 ≤ Int32.toInt many) (h_1 : Int32.toInt many ≤ 401) (h_2 : 0 ≤ Int32.toInt md) (h_3 : Int32.toInt md ≤ 200) (h_4 : WOk k wo) (fin : ∀ (r : Int32) (u : Int32 × Int32 × Nat × Nat × Int32 × Int32 × Int32) (H : Heap) (locs : List Loc) (pc : Nat) (ls : Array Slot), decode b_G_takeStrings pc = .ok (.ireturn, 1) → narrow .boolean (.int r) = .int r → (-1 ≤ Int32.toInt u.1 ∧ Int32.toInt u.1 ≤ 400 ∧ u.2.2.1 < 43 ∧ u.2.2.2.1 < 43 ∧ narrow .boolean (.int r) = .int r) → va_P (dC, dI) cls (WE h g len fp many tlen tat qlen md u.1 u.2.1 (.ref (k u.2.2.1)) (.ref (k u.2.2.2.1)) u.2.2.2.2.1 th u.2.2.2.2.2.1 u.2.2.2.2.2.2 bl te og sc kd sr wo sa qb du) H → va_D A (WE h g len fp many tlen tat qlen md u.1 u.2.1 (.ref (k u.2.2.1)) (.ref (k u.2.2.2.1)) u.2.2.2.2.1 th u.2.2.2.2.2.1 u.2.2.2.2.2.2 bl te og sc kd sr wo sa qb du) → va_S A s.heap H locs → W p l e ({ frames := 2, cells := 0, slots := 0, locals := 42 } : Room) s m args below meth c H locs 0 0 Q (F0 m pc ls [.int r])) : ∀ (gat : Int32) (kind : Int32) (wi : Nat) (ti : Nat) (gs : Int32) (st : Int32) (rq : Int32), -1 ≤ Int32.toInt gat → Int32.toInt gat ≤ 400 → wi < 43 → ti < 43 → ∀ (H : Heap) (locs : List Loc) (ls : Array Slot), va_P (dC, dI) cls (WE h g len fp many tlen tat qlen md gat kind (.ref (k wi)) (.ref (k ti)) gs th st rq bl te og sc kd sr wo sa qb du) H → va_D A (WE h g len fp many tlen tat qlen md gat kind (.ref (k wi)) (.ref (k ti)) gs th st rq bl te og sc kd sr wo sa qb du) → va_S A s.heap H locs → lv_has ls 3 [(0, .ref (h 9)), (1, .int wn)] → W p l e ({ frames := 2, cells := 0, slots := 0, locals := 42 } : Room) s m args below meth c H locs 0 0 Q (F0 m 0 ls []) := by
  intro gat kind wi ti gs st rq v_0 v_1 v_2 v_3 H locs ls hP hD hS hl
  refine lv_aload_n hx hb d_G_takeStrings_0 rfl (lv_at hl 0 rfl) ?_
  refine va_get (D := (dC, dI)) (ci := 3) (v := .int kind) (C := "SieveDesk$Grammar") (T := F_G) (N := 14) hx hb ht i_G hown hK hP 9 rfl rfl 4 (by decide) (ht _ k_164) (fun _ h9 => h9) rfl d_G_takeStrings_1 ?_
  refine lv_bipush (v := 91) hx hb d_G_takeStrings_4 (by decide) ?_
  refine lv_icmp_eq (tgt := 15) hx hb d_G_takeStrings_6 (by decide) (fun c_42 => ?_) (fun c_42 => ?_)
  · refine lv_aload_n hx hb d_G_takeStrings_15 rfl (lv_at hl 0 rfl) ?_
    have hFc := va_free (wc := (WE h g len fp many tlen tat qlen md gat kind (.ref (k wi)) (.ref (k ti)) gs th st rq bl te og sc kd sr wo sa qb du)) hD hS hA [0, 1, 2, 3, 4, 5, 6, 7, 8, 9, 10] rfl
    refine va_callv (va_runV (As := []) (rest := []) ⟨hx, hb, hml, hown, ht⟩ (c_G_advance l dC dI k h g len fp many tlen tat qlen md gat kind gs th st rq bl te og wi ti sc kd sr sa qb du wo  _ (by omega) (by omega) h_4 (by omega) (by omega) (by omega) (by omega)) (cwV 0 ht (g_V k_466 k_468 k_21 k_77 k_469) rfl rfl rfl (by decide +kernel) ⟨(Nat.le_of_ble_eq_true rfl), (Nat.le_of_ble_eq_true rfl)⟩) ⟨fb_X, va_recv hK hP (ci := 3) (q0 := 9) rfl rfl, pre_X hE hS hFc hP hK hD⟩ rfl rfl hl.1 rfl (lv_room (Nat.le_of_ble_eq_true rfl)) d_G_takeStrings_16 ⟨(Nat.le_of_ble_eq_true rfl), (Nat.le_of_ble_eq_true rfl)⟩) hS (fun q _ h9 => hFc q h9) hFc (fun u_48 t H locs het hvm hw hB hz1 hk1 hS => ?_)
    obtain ⟨gat_43, kind_44, wi_45, ti_46, gs_47⟩ := u_48
    try dsimp only at hw
    obtain ⟨p_50, p_51, p_52, p_53⟩ := hw
    obtain ⟨hP1, hK1, hD1⟩ := hB
    rw [het] at hP1
    have hP : va_P (dC, dI) cls (WE h g len fp many tlen tat qlen md gat_43 kind_44 (.ref (k wi_45)) (.ref (k ti_46)) gs_47 th st rq bl te og sc kd sr wo sa qb du) H := hP1
    have hD : va_D A (WE h g len fp many tlen tat qlen md gat_43 kind_44 (.ref (k wi_45)) (.ref (k ti_46)) gs_47 th st rq bl te og sc kd sr wo sa qb du) := hD1.weaken (fun _ _ _ h9 => hFc _ h9)
    refine lv_iconst (v := 0) hx hb d_G_takeStrings_19 (by decide) ?_
    refine lv_istore_n (lv' := [(2, .int 0), (0, .ref (h 9)), (1, .int wn)]) hx hb d_G_takeStrings_20 rfl hl (by decide) rfl (fun ls hl => ?_)
    have hc_0 : Int32.toInt 0 = 0 := by decide
    exact (lp_G_takeStrings_21 (wn := wn) hx hb hml hown ht hE hA hK h_0 h_1 h_2 h_3 h_4 fin _) 0 gat_43 kind_44 wi_45 ti_46 gs_47 st rq (by omega) (by omega) (by omega) (by omega) (by omega) (by omega) (Nat.lt_succ_self _) _ _ ls hP hD hS (lv_sub hl [0, 1, 2] rfl)
  · refine lv_aload_n hx hb d_G_takeStrings_9 rfl (lv_at hl 0 rfl) ?_
    refine lv_iload_n hx hb d_G_takeStrings_10 rfl (lv_at hl 1 rfl) ?_
    have hFc := va_free (wc := (WE h g len fp many tlen tat qlen md gat kind (.ref (k wi)) (.ref (k ti)) gs th st rq bl te og sc kd sr wo sa qb du)) hD hS hA [0, 1, 2, 3, 4, 5, 6, 7, 8, 9, 10] rfl
    refine va_calli (va_runV (As := [.int wn]) (rest := []) ⟨hx, hb, hml, hown, ht⟩ (c_G_takeString l dC dI k h g len fp many tlen tat qlen md gat kind gs th st rq bl te og wi ti sc kd sr sa qb du wo wn _ (by omega) (by omega) (by omega) (by omega) h_4 (by omega) (by omega) (by omega) (by omega)) (cwV 1 ht (g_V k_529 k_531 k_32 k_77 k_532) rfl rfl rfl (by decide +kernel) ⟨(Nat.le_of_ble_eq_true rfl), (Nat.le_of_ble_eq_true rfl)⟩) ⟨fb_X, va_recv hK hP (ci := 3) (q0 := 9) rfl rfl, pre_X hE hS hFc hP hK hD⟩ rfl rfl hl.1 rfl (lv_room (Nat.le_of_ble_eq_true rfl)) d_G_takeStrings_11 ⟨(Nat.le_of_ble_eq_true rfl), (Nat.le_of_ble_eq_true rfl)⟩) hS (fun q _ h9 => hFc q h9) hFc (fun r_62 u_61 t H locs het hvm hw hB hz1 hk1 hS => ?_)
    obtain ⟨gat_54, kind_55, wi_56, ti_57, gs_58, st_59, rq_60⟩ := u_61
    try dsimp only at hw
    obtain ⟨p_63, p_64, p_65, p_66, p_67⟩ := hw
    obtain ⟨hP1, hK1, hD1⟩ := hB
    rw [het] at hP1
    have hP : va_P (dC, dI) cls (WE h g len fp many tlen tat qlen md gat_54 kind_55 (.ref (k wi_56)) (.ref (k ti_57)) gs_58 th st_59 rq_60 bl te og sc kd sr wo sa qb du) H := hP1
    have hD : va_D A (WE h g len fp many tlen tat qlen md gat_54 kind_55 (.ref (k wi_56)) (.ref (k ti_57)) gs_58 th st_59 rq_60 bl te og sc kd sr wo sa qb du) := hD1.weaken (fun _ _ _ h9 => hFc _ h9)
    exact fin r_62 (gat_54, kind_55, wi_56, ti_57, gs_58, st_59, rq_60) _ _ _ ls d_G_takeStrings_14 p_67 ⟨(by (try dsimp only); omega), (by (try dsimp only); omega), (by (try dsimp only); omega), (by (try dsimp only); omega), p_67⟩ hP hD hS
set_option maxHeartbeats 4000000 in
set_option maxRecDepth 100000 in
theorem c_G_takeStrings (l : Launch) (dC : Nat → ClassId) (dI : Nat → Nat → Nat) (k : Nat → Nat) (h : Nat → Nat) (g : Nat → ClassId) (len : Int32) (fp : Int32) (many : Int32) (tlen : Int32) (tat : Int32) (qlen : Int32) (md : Int32) (gat : Int32) (kind : Int32) (gs : Int32) (th : Int32) (st : Int32) (rq : Int32) (bl : Int32) (te : Int32) (og : Int32) (wi : Nat) (ti : Nat) (sc : Nat → Int32) (kd : Nat → Int32) (sr : Nat → Int32) (sa : Nat → Int32) (qb : Nat → Int32) (du : Nat → Int32) (wo : Nat → Option Nat) (wn : Int32) (sz : Nat) (h_0 : 0 ≤ Int32.toInt many) (h_1 : Int32.toInt many ≤ 401) (h_2 : 0 ≤ Int32.toInt md) (h_3 : Int32.toInt md ≤ 200) (h_4 : WOk k wo) (v_0 : -1 ≤ Int32.toInt gat) (v_1 : Int32.toInt gat ≤ 400) (v_2 : wi < 43) (v_3 : ti < 43) : Met l y_G_takeStrings (.code y_G_takeStrings b_G_takeStrings 3 (some .boolean) :: TT) ({ frames := 2, cells := 0, slots := 0, locals := 42 }) (va_Pc [.ref (h 9), .int wn] (PX dC dI k (TE g) (WE h g len fp many tlen tat qlen md gat kind (.ref (k wi)) (.ref (k ti)) gs th st rq bl te og sc kd sr wo sa qb du) sz)) (va_Qi (fun (r : Int32) (u : Int32 × Int32 × Nat × Nat × Int32 × Int32 × Int32) => -1 ≤ Int32.toInt u.1 ∧ Int32.toInt u.1 ≤ 400 ∧ u.2.2.1 < 43 ∧ u.2.2.2.1 < 43 ∧ narrow .boolean (.int r) = .int r) (fun u t => BX dC dI (TE g) (va_A (WE h g len fp many tlen tat qlen md gat kind (.ref (k wi)) (.ref (k ti)) gs th st rq bl te og sc kd sr wo sa qb du) sz) (WE h g len fp many tlen tat qlen md u.1 u.2.1 (.ref (k u.2.2.1)) (.ref (k u.2.2.2.1)) u.2.2.2.2.1 th u.2.2.2.2.2.1 u.2.2.2.2.2.2 bl te og sc kd sr wo sa qb du) t) (va_A (WE h g len fp many tlen tat qlen md gat kind (.ref (k wi)) (.ref (k ti)) gs th st rq bl te og sc kd sr wo sa qb du) sz)) 0 0 (va_A (WE h g len fp many tlen tat qlen md gat kind (.ref (k wi)) (.ref (k ti)) gs th st rq bl te og sc kd sr wo sa qb du) sz) := by
  refine Met.ofW (cc := b_G_takeStrings) (maxL := 3) (ret := (some .boolean)) (by decide) rfl ?_
  intro p e s m args below meth c s₁ B hml hv
  obtain ⟨rfl, hsz, hE, hP, hK, hD0⟩ := hv
  have hx := B.exec
  have hb := B.bytes
  have hr := B.returns
  have ht : ∀ w ∈ TT, w.before _ s = true := fun w hw => atoms_spec (ws := .code y_G_takeStrings b_G_takeStrings 3 (some .boolean) :: TT) B.pre w (List.mem_cons_of_mem _ hw)
  have hown : s.vm.findClass "SieveDesk$Grammar" = some m.cls := findClass_of_methodNamed B.named
  have hlocks := B.notSynchronized
  subst hsz
  have hD := hD0.self (sz := s.heap.size)
  generalize hAe : va_A (WE h g len fp many tlen tat qlen md gat kind (.ref (k wi)) (.ref (k ti)) gs th st rq bl te og sc kd sr wo sa qb du) s.heap.size = A at hE hD ⊢
  have hA : ∀ q : Nat, s.heap.size ≤ q → A q := fun q h9 => by rw [← hAe]; exact Or.inr h9
  have hS : va_S A s.heap s.heap [] := va_S.rf
  have hl := lv_entry ([.ref (h 9), .int wn]) (n := 3) (Nat.le_of_ble_eq_true rfl)
  rw [lg_entry_eq]
  generalize (lg_sl ([.ref (h 9), .int wn]) ++ List.replicate (3 - (lg_sl ([.ref (h 9), .int wn])).length) Slot.unset).toArray = ls at hl ⊢
  have hl : lv_has ls 3 [(0, .ref (h 9)), (1, .int wn)] := hl
  exact bd_G_takeStrings_0 (wn := wn) hx hb hml hown ht hE hA hK h_0 h_1 h_2 h_3 h_4 (fun r u H locs pc ls hd hn hp hP hD hS => W.zret hx hb hr hn (fun t het hW => ⟨⟨r, u, rfl, hp, by rw [het]; exact hP, va_K.moved hW.alike hK, hD⟩, hS.F het⟩) hS.2.2 hd) gat kind wi ti gs st rq v_0 v_1 v_2 v_3 _ _ ls hP hD hS hl
set_option maxHeartbeats 4000000 in
set_option maxRecDepth 100000 in
theorem bd_G_takeSign_0 {p : Program} {l : Launch} {e : Env} {s : State} {m : MethodId} {args : Array Value} {below : List Frame} {meth : Method} {c : Code} {Q : State → Prop} {A : Nat → Prop} {dC : Nat → ClassId} {dI : Nat → Nat → Nat} {k h : Nat → Nat} {g : Nat → ClassId} {len : Int32} {fp : Int32} {many : Int32} {tlen : Int32} {tat : Int32} {qlen : Int32} {md : Int32} {th : Int32} {st : Int32} {rq : Int32} {te : Int32} {og : Int32} {sc : Nat → Int32} {kd : Nat → Int32} {sr : Nat → Int32} {sa : Nat → Int32} {qb : Nat → Int32} {du : Nat → Int32} {wo : Nat → Option Nat} (hx : p.tables.exec = Jvm.exec) (hb : c.code = b_G_takeSign) (hml : c.maxLocals = 2) (hown : s.vm.findClass "SieveDesk$Grammar" = some m.cls) (ht : ∀ w ∈ TT, w.before args s = true) (hE : KE k A s s.heap) (hA : ∀ q : Nat, s.heap.size ≤ q → A q) (hK : va_K (dC, dI) cls (TE g) s) {sg : Int32} (h_0 : 0 ≤ Int32.toInt many) (h_1 : Int32.toInt many ≤ 401) (h_2 : 0 ≤ Int32.toInt md) (h_3 : Int32.toInt md ≤ 200) (h_4 : WOk k wo) (fin : ∀ (r : Int32) (u : Int32 × Int32 × Nat × Nat × Int32 × Int32) (H : Heap) (locs : List Loc) (pc : Nat) (ls : Array Slot), decode b_G_takeSign pc = .ok (.ireturn, 1) → narrow .boolean (.int r) = .int r → (-1 ≤ Int32.toInt u.1 ∧ Int32.toInt u.1 ≤ 400 ∧ u.2.2.1 < 43 ∧ u.2.2.2.1 < 43 ∧ narrow .boolean (.int r) = .int r) → va_P (dC, dI) cls (WE h g len fp many tlen tat qlen md u.1 u.2.1 (.ref (k u.2.2.1)) (.ref (k u.2.2.2.1)) u.2.2.2.2.1 th st rq u.2.2.2.2.2 te og sc kd sr wo sa qb du) H → va_D A (WE h g len fp many tlen tat qlen md u.1 u.2.1 (.ref (k u.2.2.1)) (.ref (k u.2.2.2.1)) u.2.2.2.2.1 th st rq u.2.2.2.2.2 te og sc kd sr wo sa qb du) → va_S A s.heap H locs → W p l e ({ frames := 2, cells := 0, slots := 0, locals := 42 } : Room) s m args below meth c H locs 0 0 Q (F0 m pc ls [.int r])) : ∀ (gat : Int32) (kind : Int32) (wi : Nat) (ti : Nat) (gs : Int32) (bl : Int32), -1 ≤ Int32.toInt gat → Int32.toInt gat ≤ 400 → wi < 43 → ti < 43 → ∀ (H : Heap) (locs : List Loc) (ls : Array Slot), va_P (dC, dI) cls (WE h g len fp many tlen tat qlen md gat kind (.ref (k wi)) (.ref (k ti)) gs th st rq bl te og sc kd sr wo sa qb du) H → va_D A (WE h g len fp many tlen tat qlen md gat kind (.ref (k wi)) (.ref (k ti)) gs th st rq bl te og sc kd sr wo sa qb du) → va_S A s.heap H locs → lv_has ls 2 [(0, .ref (h 9)), (1, .int sg)] → W p l e ({ frames := 2, cells := 0, slots := 0, locals := 42 } : Room) s m args below meth c H locs 0 0 Q (F0 m 0 ls []) := by
  intro gat kind wi ti gs bl v_0 v_1 v_2 v_3 H locs ls hP hD hS hl
  refine lv_aload_n hx hb d_G_takeSign_0 rfl (lv_at hl 0 rfl) ?_
  refine lv_iload_n hx hb d_G_takeSign_1 rfl (lv_at hl 1 rfl) ?_
  have hFc := va_free (wc := (WE h g len fp many tlen tat qlen md gat kind (.ref (k wi)) (.ref (k ti)) gs th st rq bl te og sc kd sr wo sa qb du)) hD hS hA [0, 1, 2, 3, 4, 5, 6, 7, 8, 9, 10] rfl
  refine va_calli (va_runV (As := [.int sg]) (rest := []) ⟨hx, hb, hml, hown, ht⟩ (c_G_takeKind l dC dI k h g len fp many tlen tat qlen md gat kind gs th st rq bl te og wi ti sc kd sr sa qb du wo sg _ (by omega) (by omega) (by omega) (by omega) h_4 (by omega) (by omega) (by omega) (by omega)) (cwV 1 ht (g_V k_525 k_527 k_31 k_77 k_528) rfl rfl rfl (by decide +kernel) ⟨(Nat.le_of_ble_eq_true rfl), (Nat.le_of_ble_eq_true rfl)⟩) ⟨fb_X, va_recv hK hP (ci := 3) (q0 := 9) rfl rfl, pre_X hE hS hFc hP hK hD⟩ rfl rfl hl.1 rfl (lv_room (Nat.le_of_ble_eq_true rfl)) d_G_takeSign_2 ⟨(Nat.le_of_ble_eq_true rfl), (Nat.le_of_ble_eq_true rfl)⟩) hS (fun q _ h9 => hFc q h9) hFc (fun r_7 u_6 t H locs het hvm hw hB hz1 hk1 hS => ?_)
  obtain ⟨gat_1, kind_2, wi_3, ti_4, gs_5⟩ := u_6
  try dsimp only at hw
  obtain ⟨p_8, p_9, p_10, p_11, p_12⟩ := hw
  obtain ⟨hP1, hK1, hD1⟩ := hB
  rw [het] at hP1
  have hP : va_P (dC, dI) cls (WE h g len fp many tlen tat qlen md gat_1 kind_2 (.ref (k wi_3)) (.ref (k ti_4)) gs_5 th st rq bl te og sc kd sr wo sa qb du) H := hP1
  have hD : va_D A (WE h g len fp many tlen tat qlen md gat_1 kind_2 (.ref (k wi_3)) (.ref (k ti_4)) gs_5 th st rq bl te og sc kd sr wo sa qb du) := hD1.weaken (fun _ _ _ h9 => hFc _ h9)
  refine lv_if_ne (tgt := 10) hx hb d_G_takeSign_5 (by decide) (fun c_13 => ?_) (fun c_13 => ?_)
  · refine lv_iload_n hx hb d_G_takeSign_10 rfl (lv_at hl 1 rfl) ?_
    refine lv_bipush (v := 123) hx hb d_G_takeSign_11 (by decide) ?_
    refine lv_icmp_ne (tgt := 29) hx hb d_G_takeSign_13 (by decide) (fun c_14 => ?_) (fun c_14 => ?_)
    · refine lv_iload_n hx hb d_G_takeSign_29 rfl (lv_at hl 1 rfl) ?_
      refine lv_bipush (v := 125) hx hb d_G_takeSign_30 (by decide) ?_
      refine lv_icmp_ne (tgt := 45) hx hb d_G_takeSign_32 (by decide) (fun c_15 => ?_) (fun c_15 => ?_)
      · refine lv_iconst (v := 1) hx hb d_G_takeSign_45 (by decide) ?_
        have hc_1 : Int32.toInt 1 = 1 := by decide
        exact fin 1 (gat_1, kind_2, wi_3, ti_4, gs_5, bl) _ _ _ ls d_G_takeSign_46 rfl ⟨(by (try dsimp only); omega), (by (try dsimp only); omega), (by (try dsimp only); omega), (by (try dsimp only); omega), rfl⟩ hP hD hS
      · refine lv_aload_n hx hb d_G_takeSign_35 rfl (lv_at hl 0 rfl) ?_
        refine lv_dup hx hb d_G_takeSign_36 rfl ?_
        refine va_get (D := (dC, dI)) (ci := 3) (v := .int bl) (C := "SieveDesk$Grammar") (T := F_G) (N := 14) hx hb ht i_G hown hK hP 9 rfl rfl 11 (by decide) (ht _ k_174) (fun _ h9 => h9) rfl d_G_takeSign_37 ?_
        refine lv_iconst (v := 1) hx hb d_G_takeSign_40 (by decide) ?_
        refine lv_isub hx hb d_G_takeSign_41 ?_
        refine va_put (D := (dC, dI)) (ci := 3) (v := .int (bl - 1)) (ty := .int) (C := "SieveDesk$Grammar") (T := F_G) (N := 14) hx hb ht i_G ty_G ty_G_ok n_G hown hK hP hD hS 9 rfl rfl 11 (by decide) (ht _ k_174) (fun _ h9 => h9) rfl (ty_G_ok 11 (by decide)) rfl rfl (Nat.le_of_ble_eq_true rfl) d_G_takeSign_42 (fun H locs hP hD hS => ?_)
        have hP : va_P (dC, dI) cls (WE h g len fp many tlen tat qlen md gat_1 kind_2 (.ref (k wi_3)) (.ref (k ti_4)) gs_5 th st rq (bl - 1) te og sc kd sr wo sa qb du) H := hP
        have hD : va_D A (WE h g len fp many tlen tat qlen md gat_1 kind_2 (.ref (k wi_3)) (.ref (k ti_4)) gs_5 th st rq (bl - 1) te og sc kd sr wo sa qb du) := hD
        refine lv_iconst (v := 1) hx hb d_G_takeSign_45 (by decide) ?_
        have hc_1 : Int32.toInt 1 = 1 := by decide
        exact fin 1 (gat_1, kind_2, wi_3, ti_4, gs_5, (bl - 1)) _ _ _ ls d_G_takeSign_46 rfl ⟨(by (try dsimp only); omega), (by (try dsimp only); omega), (by (try dsimp only); omega), (by (try dsimp only); omega), rfl⟩ hP hD hS
    · refine lv_aload_n hx hb d_G_takeSign_16 rfl (lv_at hl 0 rfl) ?_
      refine lv_dup hx hb d_G_takeSign_17 rfl ?_
      refine va_get (D := (dC, dI)) (ci := 3) (v := .int bl) (C := "SieveDesk$Grammar") (T := F_G) (N := 14) hx hb ht i_G hown hK hP 9 rfl rfl 11 (by decide) (ht _ k_174) (fun _ h9 => h9) rfl d_G_takeSign_18 ?_
      refine lv_iconst (v := 1) hx hb d_G_takeSign_21 (by decide) ?_
      refine lv_iadd hx hb d_G_takeSign_22 ?_
      refine va_put (D := (dC, dI)) (ci := 3) (v := .int (bl + 1)) (ty := .int) (C := "SieveDesk$Grammar") (T := F_G) (N := 14) hx hb ht i_G ty_G ty_G_ok n_G hown hK hP hD hS 9 rfl rfl 11 (by decide) (ht _ k_174) (fun _ h9 => h9) rfl (ty_G_ok 11 (by decide)) rfl rfl (Nat.le_of_ble_eq_true rfl) d_G_takeSign_23 (fun H locs hP hD hS => ?_)
      have hP : va_P (dC, dI) cls (WE h g len fp many tlen tat qlen md gat_1 kind_2 (.ref (k wi_3)) (.ref (k ti_4)) gs_5 th st rq (bl + 1) te og sc kd sr wo sa qb du) H := hP
      have hD : va_D A (WE h g len fp many tlen tat qlen md gat_1 kind_2 (.ref (k wi_3)) (.ref (k ti_4)) gs_5 th st rq (bl + 1) te og sc kd sr wo sa qb du) := hD
      refine lv_goto (tgt := 45) hx hb d_G_takeSign_26 (by decide) ?_
      refine lv_iconst (v := 1) hx hb d_G_takeSign_45 (by decide) ?_
      have hc_1 : Int32.toInt 1 = 1 := by decide
      exact fin 1 (gat_1, kind_2, wi_3, ti_4, gs_5, (bl + 1)) _ _ _ ls d_G_takeSign_46 rfl ⟨(by (try dsimp only); omega), (by (try dsimp only); omega), (by (try dsimp only); omega), (by (try dsimp only); omega), rfl⟩ hP hD hS
  · refine lv_iconst (v := 0) hx hb d_G_takeSign_8 (by decide) ?_
    have hc_0 : Int32.toInt 0 = 0 := by decide
    exact fin 0 (gat_1, kind_2, wi_3, ti_4, gs_5, bl) _ _ _ ls d_G_takeSign_9 rfl ⟨(by (try dsimp only); omega), (by (try dsimp only); omega), (by (try dsimp only); omega), (by (try dsimp only); omega), rfl⟩ hP hD hS
set_option maxHeartbeats 4000000 in
set_option maxRecDepth 100000 in
theorem c_G_takeSign (l : Launch) (dC : Nat → ClassId) (dI : Nat → Nat → Nat) (k : Nat → Nat) (h : Nat → Nat) (g : Nat → ClassId) (len : Int32) (fp : Int32) (many : Int32) (tlen : Int32) (tat : Int32) (qlen : Int32) (md : Int32) (gat : Int32) (kind : Int32) (gs : Int32) (th : Int32) (st : Int32) (rq : Int32) (bl : Int32) (te : Int32) (og : Int32) (wi : Nat) (ti : Nat) (sc : Nat → Int32) (kd : Nat → Int32) (sr : Nat → Int32) (sa : Nat → Int32) (qb : Nat → Int32) (du : Nat → Int32) (wo : Nat → Option Nat) (sg : Int32) (sz : Nat) (h_0 : 0 ≤ Int32.toInt many) (h_1 : Int32.toInt many ≤ 401) (h_2 : 0 ≤ Int32.toInt md) (h_3 : Int32.toInt md ≤ 200) (h_4 : WOk k wo) (v_0 : -1 ≤ Int32.toInt gat) (v_1 : Int32.toInt gat ≤ 400) (v_2 : wi < 43) (v_3 : ti < 43) : Met l y_G_takeSign (.code y_G_takeSign b_G_takeSign 2 (some .boolean) :: TT) ({ frames := 2, cells := 0, slots := 0, locals := 42 }) (va_Pc [.ref (h 9), .int sg] (PX dC dI k (TE g) (WE h g len fp many tlen tat qlen md gat kind (.ref (k wi)) (.ref (k ti)) gs th st rq bl te og sc kd sr wo sa qb du) sz)) (va_Qi (fun (r : Int32) (u : Int32 × Int32 × Nat × Nat × Int32 × Int32) => -1 ≤ Int32.toInt u.1 ∧ Int32.toInt u.1 ≤ 400 ∧ u.2.2.1 < 43 ∧ u.2.2.2.1 < 43 ∧ narrow .boolean (.int r) = .int r) (fun u t => BX dC dI (TE g) (va_A (WE h g len fp many tlen tat qlen md gat kind (.ref (k wi)) (.ref (k ti)) gs th st rq bl te og sc kd sr wo sa qb du) sz) (WE h g len fp many tlen tat qlen md u.1 u.2.1 (.ref (k u.2.2.1)) (.ref (k u.2.2.2.1)) u.2.2.2.2.1 th st rq u.2.2.2.2.2 te og sc kd sr wo sa qb du) t) (va_A (WE h g len fp many tlen tat qlen md gat kind (.ref (k wi)) (.ref (k ti)) gs th st rq bl te og sc kd sr wo sa qb du) sz)) 0 0 (va_A (WE h g len fp many tlen tat qlen md gat kind (.ref (k wi)) (.ref (k ti)) gs th st rq bl te og sc kd sr wo sa qb du) sz) := by
  refine Met.ofW (cc := b_G_takeSign) (maxL := 2) (ret := (some .boolean)) (by decide) rfl ?_
  intro p e s m args below meth c s₁ B hml hv
  obtain ⟨rfl, hsz, hE, hP, hK, hD0⟩ := hv
  have hx := B.exec
  have hb := B.bytes
  have hr := B.returns
  have ht : ∀ w ∈ TT, w.before _ s = true := fun w hw => atoms_spec (ws := .code y_G_takeSign b_G_takeSign 2 (some .boolean) :: TT) B.pre w (List.mem_cons_of_mem _ hw)
  have hown : s.vm.findClass "SieveDesk$Grammar" = some m.cls := findClass_of_methodNamed B.named
  have hlocks := B.notSynchronized
  subst hsz
  have hD := hD0.self (sz := s.heap.size)
  generalize hAe : va_A (WE h g len fp many tlen tat qlen md gat kind (.ref (k wi)) (.ref (k ti)) gs th st rq bl te og sc kd sr wo sa qb du) s.heap.size = A at hE hD ⊢
  have hA : ∀ q : Nat, s.heap.size ≤ q → A q := fun q h9 => by rw [← hAe]; exact Or.inr h9
  have hS : va_S A s.heap s.heap [] := va_S.rf
  have hl := lv_entry ([.ref (h 9), .int sg]) (n := 2) (Nat.le_of_ble_eq_true rfl)
  rw [lg_entry_eq]
  generalize (lg_sl ([.ref (h 9), .int sg]) ++ List.replicate (2 - (lg_sl ([.ref (h 9), .int sg])).length) Slot.unset).toArray = ls at hl ⊢
  have hl : lv_has ls 2 [(0, .ref (h 9)), (1, .int sg)] := hl
  exact bd_G_takeSign_0 (sg := sg) hx hb hml hown ht hE hA hK h_0 h_1 h_2 h_3 h_4 (fun r u H locs pc ls hd hn hp hP hD hS => W.zret hx hb hr hn (fun t het hW => ⟨⟨r, u, rfl, hp, by rw [het]; exact hP, va_K.moved hW.alike hK, hD⟩, hS.F het⟩) hS.2.2 hd) gat kind wi ti gs bl v_0 v_1 v_2 v_3 _ _ ls hP hD hS hl

set_option maxHeartbeats 4000000 in
set_option maxRecDepth 100000 in
theorem bd_G_standsAt_0 {p : Program} {l : Launch} {e : Env} {s : State} {m : MethodId} {args : Array Value} {below : List Frame} {meth : Method} {c : Code} {Q : State → Prop} {A : Nat → Prop} {dC : Nat → ClassId} {dI : Nat → Nat → Nat} {k h : Nat → Nat} {g : Nat → ClassId} {len : Int32} {fp : Int32} {many : Int32} {tlen : Int32} {tat : Int32} {qlen : Int32} {md : Int32} {gat : Int32} {kind : Int32} {gs : Int32} {th : Int32} {st : Int32} {rq : Int32} {bl : Int32} {te : Int32} {og : Int32} {wi : Nat} {ti : Nat} {sc : Nat → Int32} {kd : Nat → Int32} {sr : Nat → Int32} {sa : Nat → Int32} {qb : Nat → Int32} {du : Nat → Int32} {wo : Nat → Option Nat} (hx : p.tables.exec = Jvm.exec) (hb : c.code = b_G_standsAt) (hml : c.maxLocals = 1) (hown : s.vm.findClass "SieveDesk$Grammar" = some m.cls) (ht : ∀ w ∈ TT, w.before args s = true) (hE : KE k A s s.heap) (hA : ∀ q : Nat, s.heap.size ≤ q → A q) (hK : va_K (dC, dI) cls (TE g) s)  (h_0 : -1 ≤ Int32.toInt gat) (h_1 : Int32.toInt gat ≤ 400) (fin : ∀ (r : Int32) (u : Unit) (H : Heap) (locs : List Loc) (pc : Nat) (ls : Array Slot), decode b_G_standsAt pc = .ok (.ireturn, 1) → (True) → va_P (dC, dI) cls (WE h g len fp many tlen tat qlen md gat kind (.ref (k wi)) (.ref (k ti)) gs th st rq bl te og sc kd sr wo sa qb du) H → va_D A (WE h g len fp many tlen tat qlen md gat kind (.ref (k wi)) (.ref (k ti)) gs th st rq bl te og sc kd sr wo sa qb du) → va_S A s.heap H locs → W p l e ({ frames := 0, cells := 0, slots := 0, locals := 0 } : Room) s m args below meth c H locs 0 0 Q (F0 m pc ls [.int r])) : ∀ (H : Heap) (locs : List Loc) (ls : Array Slot), va_P (dC, dI) cls (WE h g len fp many tlen tat qlen md gat kind (.ref (k wi)) (.ref (k ti)) gs th st rq bl te og sc kd sr wo sa qb du) H → va_D A (WE h g len fp many tlen tat qlen md gat kind (.ref (k wi)) (.ref (k ti)) gs th st rq bl te og sc kd sr wo sa qb du) → va_S A s.heap H locs → lv_has ls 1 [(0, .ref (h 9))] → W p l e ({ frames := 0, cells := 0, slots := 0, locals := 0 } : Room) s m args below meth c H locs 0 0 Q (F0 m 0 ls []) := by
  intro H locs ls hP hD hS hl
  refine lv_aload_n hx hb d_G_standsAt_0 rfl (lv_at hl 0 rfl) ?_
  refine va_get (D := (dC, dI)) (ci := 3) (v := .int gat) (C := "SieveDesk$Grammar") (T := F_G) (N := 14) hx hb ht i_G hown hK hP 9 rfl rfl 3 (by decide) (ht _ k_163) (fun _ h9 => h9) rfl d_G_standsAt_1 ?_
  refine lv_if_lt (tgt := 32) hx hb d_G_standsAt_4 (by decide) (fun c_1 => ?_) (fun c_1 => ?_)
  · have dc_1 := i_lt c_1 rfl (show Int32.toInt 0 = 0 by decide)
    refine lv_iconst (v := 0) hx hb d_G_standsAt_32 (by decide) ?_
    have hc_0 : Int32.toInt 0 = 0 := by decide
    exact fin 0 () _ _ _ ls d_G_standsAt_33 trivial hP hD hS
  · have dc_1 := i_nlt c_1 rfl (show Int32.toInt 0 = 0 by decide)
    refine lv_aload_n hx hb d_G_standsAt_7 rfl (lv_at hl 0 rfl) ?_
    refine va_get (D := (dC, dI)) (ci := 3) (v := .int gat) (C := "SieveDesk$Grammar") (T := F_G) (N := 14) hx hb ht i_G hown hK hP 9 rfl rfl 3 (by decide) (ht _ k_163) (fun _ h9 => h9) rfl d_G_standsAt_8 ?_
    refine lv_sipush (v := 401) hx hb d_G_standsAt_11 (by decide) ?_
    refine lv_icmp_ge (tgt := 32) hx hb d_G_standsAt_14 (by decide) (fun c_2 => ?_) (fun c_2 => ?_)
    · have dc_2 := i_le c_2 (show Int32.toInt 401 = 401 by decide) rfl
      refine lv_iconst (v := 0) hx hb d_G_standsAt_32 (by decide) ?_
      have hc_0 : Int32.toInt 0 = 0 := by decide
      exact fin 0 () _ _ _ ls d_G_standsAt_33 trivial hP hD hS
    · have dc_2 := i_nle c_2 (show Int32.toInt 401 = 401 by decide) rfl
      refine lv_aload_n hx hb d_G_standsAt_17 rfl (lv_at hl 0 rfl) ?_
      refine va_get (D := (dC, dI)) (ci := 3) (v := .ref (h 2)) (C := "SieveDesk$Grammar") (T := F_G) (N := 14) hx hb ht i_G hown hK hP 9 rfl rfl 0 (by decide) (ht _ k_160) (fun _ h9 => h9) rfl d_G_standsAt_18 ?_
      refine va_getN (D := (dC, dI)) (ci := 1) (v := .ref (h 4)) (C := "SieveDesk$Tokens") (T := F_T) (N := 9) hx hb ht i_T hown hK hP 2 rfl rfl 2 (by decide) (nw_use n_123 (hE.1 _ n_123)) (fun _ h9 => h9) rfl d_G_standsAt_21 ?_
      refine lv_aload_n hx hb d_G_standsAt_24 rfl (lv_at hl 0 rfl) ?_
      refine va_get (D := (dC, dI)) (ci := 3) (v := .int gat) (C := "SieveDesk$Grammar") (T := F_G) (N := 14) hx hb ht i_G hown hK hP 9 rfl rfl 3 (by decide) (ht _ k_163) (fun _ h9 => h9) rfl d_G_standsAt_25 ?_
      refine va_iald hx hb hK hP 4 2 rfl rfl (i_in rfl (by omega) (by omega)) d_G_standsAt_28 ?_
      refine lv_goto (tgt := 33) hx hb d_G_standsAt_29 (by decide) ?_
      exact fin (sr (Int32.toNatClampNeg gat)) () _ _ _ ls d_G_standsAt_33 trivial hP hD hS
set_option maxHeartbeats 4000000 in
set_option maxRecDepth 100000 in
theorem c_G_standsAt (l : Launch) (dC : Nat → ClassId) (dI : Nat → Nat → Nat) (k : Nat → Nat) (h : Nat → Nat) (g : Nat → ClassId) (len : Int32) (fp : Int32) (many : Int32) (tlen : Int32) (tat : Int32) (qlen : Int32) (md : Int32) (gat : Int32) (kind : Int32) (gs : Int32) (th : Int32) (st : Int32) (rq : Int32) (bl : Int32) (te : Int32) (og : Int32) (wi : Nat) (ti : Nat) (sc : Nat → Int32) (kd : Nat → Int32) (sr : Nat → Int32) (sa : Nat → Int32) (qb : Nat → Int32) (du : Nat → Int32) (wo : Nat → Option Nat)  (sz : Nat) (h_0 : -1 ≤ Int32.toInt gat) (h_1 : Int32.toInt gat ≤ 400)  : Met l y_G_standsAt (.code y_G_standsAt b_G_standsAt 1 (some .int) :: TT) ({ frames := 0, cells := 0, slots := 0, locals := 0 }) (va_Pc [.ref (h 9)] (PX dC dI k (TE g) (WE h g len fp many tlen tat qlen md gat kind (.ref (k wi)) (.ref (k ti)) gs th st rq bl te og sc kd sr wo sa qb du) sz)) (va_Qi (fun (r : Int32) (u : Unit) => True) (fun u t => BX dC dI (TE g) (va_A (WE h g len fp many tlen tat qlen md gat kind (.ref (k wi)) (.ref (k ti)) gs th st rq bl te og sc kd sr wo sa qb du) sz) (WE h g len fp many tlen tat qlen md gat kind (.ref (k wi)) (.ref (k ti)) gs th st rq bl te og sc kd sr wo sa qb du) t) (va_A (WE h g len fp many tlen tat qlen md gat kind (.ref (k wi)) (.ref (k ti)) gs th st rq bl te og sc kd sr wo sa qb du) sz)) 0 0 (va_A (WE h g len fp many tlen tat qlen md gat kind (.ref (k wi)) (.ref (k ti)) gs th st rq bl te og sc kd sr wo sa qb du) sz) := by
  refine Met.ofW (cc := b_G_standsAt) (maxL := 1) (ret := (some .int)) (by decide) rfl ?_
  intro p e s m args below meth c s₁ B hml hv
  obtain ⟨rfl, hsz, hE, hP, hK, hD0⟩ := hv
  have hx := B.exec
  have hb := B.bytes
  have hr := B.returns
  have ht : ∀ w ∈ TT, w.before _ s = true := fun w hw => atoms_spec (ws := .code y_G_standsAt b_G_standsAt 1 (some .int) :: TT) B.pre w (List.mem_cons_of_mem _ hw)
  have hown : s.vm.findClass "SieveDesk$Grammar" = some m.cls := findClass_of_methodNamed B.named
  have hlocks := B.notSynchronized
  subst hsz
  have hD := hD0.self (sz := s.heap.size)
  generalize hAe : va_A (WE h g len fp many tlen tat qlen md gat kind (.ref (k wi)) (.ref (k ti)) gs th st rq bl te og sc kd sr wo sa qb du) s.heap.size = A at hE hD ⊢
  have hA : ∀ q : Nat, s.heap.size ≤ q → A q := fun q h9 => by rw [← hAe]; exact Or.inr h9
  have hS : va_S A s.heap s.heap [] := va_S.rf
  have hl := lv_entry ([.ref (h 9)]) (n := 1) (Nat.le_of_ble_eq_true rfl)
  rw [lg_entry_eq]
  generalize (lg_sl ([.ref (h 9)]) ++ List.replicate (1 - (lg_sl ([.ref (h 9)])).length) Slot.unset).toArray = ls at hl ⊢
  have hl : lv_has ls 1 [(0, .ref (h 9))] := hl
  exact bd_G_standsAt_0  hx hb hml hown ht hE hA hK h_0 h_1 (fun r u H locs pc ls hd hp hP hD hS => W.iret hx hb hr (fun t het hW => ⟨⟨r, u, rfl, hp, by rw [het]; exact hP, va_K.moved hW.alike hK, hD⟩, hS.F het⟩) hS.2.2 hd)   _ _ ls hP hD hS hl
set_option maxHeartbeats 4000000 in
set_option maxRecDepth 100000 in
theorem bd_G_advance_0 {p : Program} {l : Launch} {e : Env} {s : State} {m : MethodId} {args : Array Value} {below : List Frame} {meth : Method} {c : Code} {Q : State → Prop} {A : Nat → Prop} {dC : Nat → ClassId} {dI : Nat → Nat → Nat} {k h : Nat → Nat} {g : Nat → ClassId} {len : Int32} {fp : Int32} {many : Int32} {tlen : Int32} {tat : Int32} {qlen : Int32} {md : Int32} {th : Int32} {st : Int32} {rq : Int32} {bl : Int32} {te : Int32} {og : Int32} {sc : Nat → Int32} {kd : Nat → Int32} {sr : Nat → Int32} {sa : Nat → Int32} {qb : Nat → Int32} {du : Nat → Int32} {wo : Nat → Option Nat} (hx : p.tables.exec = Jvm.exec) (hb : c.code = b_G_advance) (hml : c.maxLocals = 2) (hown : s.vm.findClass "SieveDesk$Grammar" = some m.cls) (ht : ∀ w ∈ TT, w.before args s = true) (hE : KE k A s s.heap) (hA : ∀ q : Nat, s.heap.size ≤ q → A q) (hK : va_K (dC, dI) cls (TE g) s)  (h_0 : 0 ≤ Int32.toInt many) (h_1 : Int32.toInt many ≤ 401) (h_2 : WOk k wo) (fin : ∀ (u : Int32 × Int32 × Nat × Nat × Int32) (H : Heap) (locs : List Loc) (pc : Nat) (ls : Array Slot), decode b_G_advance pc = .ok (.return_, 1) → (-1 ≤ Int32.toInt u.1 ∧ Int32.toInt u.1 ≤ 400 ∧ u.2.2.1 < 43 ∧ u.2.2.2.1 < 43) → va_P (dC, dI) cls (WE h g len fp many tlen tat qlen md u.1 u.2.1 (.ref (k u.2.2.1)) (.ref (k u.2.2.2.1)) u.2.2.2.2 th st rq bl te og sc kd sr wo sa qb du) H → va_D A (WE h g len fp many tlen tat qlen md u.1 u.2.1 (.ref (k u.2.2.1)) (.ref (k u.2.2.2.1)) u.2.2.2.2 th st rq bl te og sc kd sr wo sa qb du) → va_S A s.heap H locs → W p l e ({ frames := 0, cells := 0, slots := 0, locals := 0 } : Room) s m args below meth c H locs 0 0 Q (F0 m pc ls [])) : ∀ (gat : Int32) (kind : Int32) (wi : Nat) (ti : Nat) (gs : Int32), -1 ≤ Int32.toInt gat → Int32.toInt gat ≤ 400 → wi < 43 → ti < 43 → ∀ (H : Heap) (locs : List Loc) (ls : Array Slot), va_P (dC, dI) cls (WE h g len fp many tlen tat qlen md gat kind (.ref (k wi)) (.ref (k ti)) gs th st rq bl te og sc kd sr wo sa qb du) H → va_D A (WE h g len fp many tlen tat qlen md gat kind (.ref (k wi)) (.ref (k ti)) gs th st rq bl te og sc kd sr wo sa qb du) → va_S A s.heap H locs → lv_has ls 2 [(0, .ref (h 9))] → W p l e ({ frames := 0, cells := 0, slots := 0, locals := 0 } : Room) s m args below meth c H locs 0 0 Q (F0 m 0 ls []) := by
  intro gat kind wi ti gs v_0 v_1 v_2 v_3 H locs ls hP hD hS hl
  refine lv_aload_n hx hb d_G_advance_0 rfl (lv_at hl 0 rfl) ?_
  refine va_get (D := (dC, dI)) (ci := 3) (v := .int gat) (C := "SieveDesk$Grammar") (T := F_G) (N := 14) hx hb ht i_G hown hK hP 9 rfl rfl 3 (by decide) (ht _ k_163) (fun _ h9 => h9) rfl d_G_advance_1 ?_
  refine lv_iconst (v := 1) hx hb d_G_advance_4 (by decide) ?_
  refine lv_iadd hx hb d_G_advance_5 ?_
  have e_1 : Int32.toInt (gat + 1) = (Int32.toInt gat) + 1 := i_add rfl (show Int32.toInt 1 = 1 by decide) (by omega) (by omega)
  refine lv_aload_n hx hb d_G_advance_6 rfl (lv_at hl 0 rfl) ?_
  refine va_get (D := (dC, dI)) (ci := 3) (v := .ref (h 2)) (C := "SieveDesk$Grammar") (T := F_G) (N := 14) hx hb ht i_G hown hK hP 9 rfl rfl 0 (by decide) (ht _ k_160) (fun _ h9 => h9) rfl d_G_advance_7 ?_
  refine va_getN (D := (dC, dI)) (ci := 1) (v := .int many) (C := "SieveDesk$Tokens") (T := F_T) (N := 9) hx hb ht i_T hown hK hP 2 rfl rfl 6 (by decide) (nw_use n_130 (hE.1 _ n_130)) (fun _ h9 => h9) rfl d_G_advance_10 ?_
  refine lv_icmp_ge (tgt := 28) hx hb d_G_advance_13 (by decide) (fun c_2 => ?_) (fun c_2 => ?_)
  · have dc_2 := i_le c_2 rfl e_1
    exact fin  (gat, kind, wi, ti, gs) _ _ _ ls d_G_advance_28 ⟨(by (try dsimp only); omega), (by (try dsimp only); omega), (by (try dsimp only); omega), (by (try dsimp only); omega)⟩ hP hD hS
  · have dc_2 := i_nle c_2 rfl e_1
    refine lv_aload_n hx hb d_G_advance_16 rfl (lv_at hl 0 rfl) ?_
    refine va_get (D := (dC, dI)) (ci := 3) (v := .int gat) (C := "SieveDesk$Grammar") (T := F_G) (N := 14) hx hb ht i_G hown hK hP 9 rfl rfl 3 (by decide) (ht _ k_163) (fun _ h9 => h9) rfl d_G_advance_17 ?_
    refine lv_iconst (v := 1) hx hb d_G_advance_20 (by decide) ?_
    refine lv_iadd hx hb d_G_advance_21 ?_
    have e_3 : Int32.toInt (gat + 1) = (Int32.toInt gat) + 1 := i_add rfl (show Int32.toInt 1 = 1 by decide) (by omega) (by omega)
    refine lv_sipush (v := 401) hx hb d_G_advance_22 (by decide) ?_
    refine lv_icmp_lt (tgt := 29) hx hb d_G_advance_25 (by decide) (fun c_4 => ?_) (fun c_4 => ?_)
    · have dc_4 := i_lt c_4 e_3 (show Int32.toInt 401 = 401 by decide)
      refine lv_aload_n hx hb d_G_advance_29 rfl (lv_at hl 0 rfl) ?_
      refine lv_dup hx hb d_G_advance_30 rfl ?_
      refine va_get (D := (dC, dI)) (ci := 3) (v := .int gat) (C := "SieveDesk$Grammar") (T := F_G) (N := 14) hx hb ht i_G hown hK hP 9 rfl rfl 3 (by decide) (ht _ k_163) (fun _ h9 => h9) rfl d_G_advance_31 ?_
      refine lv_iconst (v := 1) hx hb d_G_advance_34 (by decide) ?_
      refine lv_iadd hx hb d_G_advance_35 ?_
      have e_5 : Int32.toInt (gat + 1) = (Int32.toInt gat) + 1 := i_add rfl (show Int32.toInt 1 = 1 by decide) (by omega) (by omega)
      refine va_put (D := (dC, dI)) (ci := 3) (v := .int (gat + 1)) (ty := .int) (C := "SieveDesk$Grammar") (T := F_G) (N := 14) hx hb ht i_G ty_G ty_G_ok n_G hown hK hP hD hS 9 rfl rfl 3 (by decide) (ht _ k_163) (fun _ h9 => h9) rfl (ty_G_ok 3 (by decide)) rfl rfl (Nat.le_of_ble_eq_true rfl) d_G_advance_36 (fun H locs hP hD hS => ?_)
      have hP : va_P (dC, dI) cls (WE h g len fp many tlen tat qlen md (gat + 1) kind (.ref (k wi)) (.ref (k ti)) gs th st rq bl te og sc kd sr wo sa qb du) H := hP
      have hD : va_D A (WE h g len fp many tlen tat qlen md (gat + 1) kind (.ref (k wi)) (.ref (k ti)) gs th st rq bl te og sc kd sr wo sa qb du) := hD
      refine lv_aload_n hx hb d_G_advance_39 rfl (lv_at hl 0 rfl) ?_
      refine lv_aload_n hx hb d_G_advance_40 rfl (lv_at hl 0 rfl) ?_
      refine va_get (D := (dC, dI)) (ci := 3) (v := .ref (h 2)) (C := "SieveDesk$Grammar") (T := F_G) (N := 14) hx hb ht i_G hown hK hP 9 rfl rfl 0 (by decide) (ht _ k_160) (fun _ h9 => h9) rfl d_G_advance_41 ?_
      refine va_getN (D := (dC, dI)) (ci := 1) (v := .ref (h 3)) (C := "SieveDesk$Tokens") (T := F_T) (N := 9) hx hb ht i_T hown hK hP 2 rfl rfl 1 (by decide) (nw_use n_121 (hE.1 _ n_121)) (fun _ h9 => h9) rfl d_G_advance_44 ?_
      refine lv_aload_n hx hb d_G_advance_47 rfl (lv_at hl 0 rfl) ?_
      refine va_get (D := (dC, dI)) (ci := 3) (v := .int (gat + 1)) (C := "SieveDesk$Grammar") (T := F_G) (N := 14) hx hb ht i_G hown hK hP 9 rfl rfl 3 (by decide) (ht _ k_163) (fun _ h9 => h9) rfl d_G_advance_48 ?_
      refine va_iald hx hb hK hP 3 1 rfl rfl (i_in e_5 (by omega) (by omega)) d_G_advance_51 ?_
      refine va_put (D := (dC, dI)) (ci := 3) (v := .int (kd (Int32.toNatClampNeg (gat + 1)))) (ty := .int) (C := "SieveDesk$Grammar") (T := F_G) (N := 14) hx hb ht i_G ty_G ty_G_ok n_G hown hK hP hD hS 9 rfl rfl 4 (by decide) (ht _ k_164) (fun _ h9 => h9) rfl (ty_G_ok 4 (by decide)) rfl rfl (Nat.le_of_ble_eq_true rfl) d_G_advance_52 (fun H locs hP hD hS => ?_)
      have hP : va_P (dC, dI) cls (WE h g len fp many tlen tat qlen md (gat + 1) (kd (Int32.toNatClampNeg (gat + 1))) (.ref (k wi)) (.ref (k ti)) gs th st rq bl te og sc kd sr wo sa qb du) H := hP
      have hD : va_D A (WE h g len fp many tlen tat qlen md (gat + 1) (kd (Int32.toNatClampNeg (gat + 1))) (.ref (k wi)) (.ref (k ti)) gs th st rq bl te og sc kd sr wo sa qb du) := hD
      refine lv_aload_n hx hb d_G_advance_55 rfl (lv_at hl 0 rfl) ?_
      refine va_get (D := (dC, dI)) (ci := 3) (v := .ref (h 2)) (C := "SieveDesk$Grammar") (T := F_G) (N := 14) hx hb ht i_G hown hK hP 9 rfl rfl 0 (by decide) (ht _ k_160) (fun _ h9 => h9) rfl d_G_advance_56 ?_
      refine va_getN (D := (dC, dI)) (ci := 1) (v := .ref (h 5)) (C := "SieveDesk$Tokens") (T := F_T) (N := 9) hx hb ht i_T hown hK hP 2 rfl rfl 3 (by decide) (nw_use n_125 (hE.1 _ n_125)) (fun _ h9 => h9) rfl d_G_advance_59 ?_
      refine lv_aload_n hx hb d_G_advance_62 rfl (lv_at hl 0 rfl) ?_
      refine va_get (D := (dC, dI)) (ci := 3) (v := .int (gat + 1)) (C := "SieveDesk$Grammar") (T := F_G) (N := 14) hx hb ht i_G hown hK hP 9 rfl rfl 3 (by decide) (ht _ k_163) (fun _ h9 => h9) rfl d_G_advance_63 ?_
      refine va_aldq hx hb hK hP 5 3 rfl rfl (i_in e_5 (by omega) (by omega)) d_G_advance_66 ?_
      rcases h_2 (Int32.toNatClampNeg (gat + 1)) with hn_z_6 | ⟨z_6, hl_z_6, hs_z_6⟩
      · refine lv_evv (b := .null) (by rw [hn_z_6]; rfl) ?_
        refine lv_astore_nN (lv' := [(1, .null), (0, .ref (h 9))]) hx hb d_G_advance_67 rfl hl (by decide) rfl (fun ls hl => ?_)
        refine lv_aload_n hx hb d_G_advance_68 rfl (lv_at hl 1 rfl) ?_
        refine lv_aload_n hx hb d_G_advance_69 rfl (lv_at hl 1 rfl) ?_
        refine va_get (D := (dC, dI)) (ci := 3) (v := .int (kd (Int32.toNatClampNeg (gat + 1)))) (C := "SieveDesk$Grammar") (T := F_G) (N := 14) hx hb ht i_G hown hK hP 9 rfl rfl 4 (by decide) (ht _ k_164) (fun _ h9 => h9) rfl d_G_advance_70 ?_
        refine lv_iconst (v := 1) hx hb d_G_advance_73 (by decide) ?_
        refine lv_icmp_ne (tgt := 85) hx hb d_G_advance_74 (by decide) (fun c_7 => ?_) (fun c_7 => ?_)
        · refine va_gets hx hb (ke_W_NONE hE) hS hown (ht _ k_158) (fun _ h9 => h9) d_G_advance_85 ?_
          refine va_put (D := (dC, dI)) (ci := 3) (v := .ref (k 0)) (ty := .object "SieveDesk$Word") (C := "SieveDesk$Grammar") (T := F_G) (N := 14) hx hb ht i_G ty_G ty_G_ok n_G hown hK hP hD hS 9 rfl rfl 5 (by decide) (ht _ k_165) (fun _ h9 => h9) rfl (ty_G_ok 5 (by decide)) rfl rfl (Nat.le_of_ble_eq_true rfl) d_G_advance_88 (fun H locs hP hD hS => ?_)
          have hP : va_P (dC, dI) cls (WE h g len fp many tlen tat qlen md (gat + 1) (kd (Int32.toNatClampNeg (gat + 1))) (.ref (k 0)) (.ref (k ti)) gs th st rq bl te og sc kd sr wo sa qb du) H := hP
          have hD : va_D A (WE h g len fp many tlen tat qlen md (gat + 1) (kd (Int32.toNatClampNeg (gat + 1))) (.ref (k 0)) (.ref (k ti)) gs th st rq bl te og sc kd sr wo sa qb du) := hD
          refine lv_aload_n hx hb d_G_advance_91 rfl (lv_at hl 1 rfl) ?_
          refine lv_aload_n hx hb d_G_advance_92 rfl (lv_at hl 1 rfl) ?_
          refine va_get (D := (dC, dI)) (ci := 3) (v := .int (kd (Int32.toNatClampNeg (gat + 1)))) (C := "SieveDesk$Grammar") (T := F_G) (N := 14) hx hb ht i_G hown hK hP 9 rfl rfl 4 (by decide) (ht _ k_164) (fun _ h9 => h9) rfl d_G_advance_93 ?_
          refine lv_iconst (v := 2) hx hb d_G_advance_96 (by decide) ?_
          refine lv_icmp_ne (tgt := 108) hx hb d_G_advance_97 (by decide) (fun c_8 => ?_) (fun c_8 => ?_)
          · refine va_gets hx hb (ke_W_NONE hE) hS hown (ht _ k_158) (fun _ h9 => h9) d_G_advance_108 ?_
            refine va_put (D := (dC, dI)) (ci := 3) (v := .ref (k 0)) (ty := .object "SieveDesk$Word") (C := "SieveDesk$Grammar") (T := F_G) (N := 14) hx hb ht i_G ty_G ty_G_ok n_G hown hK hP hD hS 9 rfl rfl 6 (by decide) (ht _ k_166) (fun _ h9 => h9) rfl (ty_G_ok 6 (by decide)) rfl rfl (Nat.le_of_ble_eq_true rfl) d_G_advance_111 (fun H locs hP hD hS => ?_)
            have hP : va_P (dC, dI) cls (WE h g len fp many tlen tat qlen md (gat + 1) (kd (Int32.toNatClampNeg (gat + 1))) (.ref (k 0)) (.ref (k 0)) gs th st rq bl te og sc kd sr wo sa qb du) H := hP
            have hD : va_D A (WE h g len fp many tlen tat qlen md (gat + 1) (kd (Int32.toNatClampNeg (gat + 1))) (.ref (k 0)) (.ref (k 0)) gs th st rq bl te og sc kd sr wo sa qb du) := hD
            refine lv_aload_n hx hb d_G_advance_114 rfl (lv_at hl 1 rfl) ?_
            refine lv_aload_n hx hb d_G_advance_115 rfl (lv_at hl 1 rfl) ?_
            refine va_get (D := (dC, dI)) (ci := 3) (v := .ref (h 2)) (C := "SieveDesk$Grammar") (T := F_G) (N := 14) hx hb ht i_G hown hK hP 9 rfl rfl 0 (by decide) (ht _ k_160) (fun _ h9 => h9) rfl d_G_advance_116 ?_
            refine va_getN (D := (dC, dI)) (ci := 1) (v := .ref (h 6)) (C := "SieveDesk$Tokens") (T := F_T) (N := 9) hx hb ht i_T hown hK hP 2 rfl rfl 4 (by decide) (nw_use n_127 (hE.1 _ n_127)) (fun _ h9 => h9) rfl d_G_advance_119 ?_
            refine lv_aload_n hx hb d_G_advance_122 rfl (lv_at hl 1 rfl) ?_
            refine va_get (D := (dC, dI)) (ci := 3) (v := .int (gat + 1)) (C := "SieveDesk$Grammar") (T := F_G) (N := 14) hx hb ht i_G hown hK hP 9 rfl rfl 3 (by decide) (ht _ k_163) (fun _ h9 => h9) rfl d_G_advance_123 ?_
            refine va_iald hx hb hK hP 6 4 rfl rfl (i_in e_5 (by omega) (by omega)) d_G_advance_126 ?_
            refine va_put (D := (dC, dI)) (ci := 3) (v := .int (sa (Int32.toNatClampNeg (gat + 1)))) (ty := .int) (C := "SieveDesk$Grammar") (T := F_G) (N := 14) hx hb ht i_G ty_G ty_G_ok n_G hown hK hP hD hS 9 rfl rfl 7 (by decide) (ht _ k_167) (fun _ h9 => h9) rfl (ty_G_ok 7 (by decide)) rfl rfl (Nat.le_of_ble_eq_true rfl) d_G_advance_127 (fun H locs hP hD hS => ?_)
            have hP : va_P (dC, dI) cls (WE h g len fp many tlen tat qlen md (gat + 1) (kd (Int32.toNatClampNeg (gat + 1))) (.ref (k 0)) (.ref (k 0)) (sa (Int32.toNatClampNeg (gat + 1))) th st rq bl te og sc kd sr wo sa qb du) H := hP
            have hD : va_D A (WE h g len fp many tlen tat qlen md (gat + 1) (kd (Int32.toNatClampNeg (gat + 1))) (.ref (k 0)) (.ref (k 0)) (sa (Int32.toNatClampNeg (gat + 1))) th st rq bl te og sc kd sr wo sa qb du) := hD
            exact fin  ((gat + 1), (kd (Int32.toNatClampNeg (gat + 1))), 0, 0, (sa (Int32.toNatClampNeg (gat + 1)))) _ _ _ ls d_G_advance_130 ⟨(by (try dsimp only); omega), (by (try dsimp only); omega), (by (try dsimp only); omega), (by (try dsimp only); omega)⟩ hP hD hS
          · refine lv_aload_nN hx hb d_G_advance_100 rfl (lv_at hl 0 rfl) ?_
            refine lv_ifnullN (tgt := 108) hx hb d_G_advance_101 (by decide) ?_
            refine va_gets hx hb (ke_W_NONE hE) hS hown (ht _ k_158) (fun _ h9 => h9) d_G_advance_108 ?_
            refine va_put (D := (dC, dI)) (ci := 3) (v := .ref (k 0)) (ty := .object "SieveDesk$Word") (C := "SieveDesk$Grammar") (T := F_G) (N := 14) hx hb ht i_G ty_G ty_G_ok n_G hown hK hP hD hS 9 rfl rfl 6 (by decide) (ht _ k_166) (fun _ h9 => h9) rfl (ty_G_ok 6 (by decide)) rfl rfl (Nat.le_of_ble_eq_true rfl) d_G_advance_111 (fun H locs hP hD hS => ?_)
            have hP : va_P (dC, dI) cls (WE h g len fp many tlen tat qlen md (gat + 1) (kd (Int32.toNatClampNeg (gat + 1))) (.ref (k 0)) (.ref (k 0)) gs th st rq bl te og sc kd sr wo sa qb du) H := hP
            have hD : va_D A (WE h g len fp many tlen tat qlen md (gat + 1) (kd (Int32.toNatClampNeg (gat + 1))) (.ref (k 0)) (.ref (k 0)) gs th st rq bl te og sc kd sr wo sa qb du) := hD
            refine lv_aload_n hx hb d_G_advance_114 rfl (lv_at hl 1 rfl) ?_
            refine lv_aload_n hx hb d_G_advance_115 rfl (lv_at hl 1 rfl) ?_
            refine va_get (D := (dC, dI)) (ci := 3) (v := .ref (h 2)) (C := "SieveDesk$Grammar") (T := F_G) (N := 14) hx hb ht i_G hown hK hP 9 rfl rfl 0 (by decide) (ht _ k_160) (fun _ h9 => h9) rfl d_G_advance_116 ?_
            refine va_getN (D := (dC, dI)) (ci := 1) (v := .ref (h 6)) (C := "SieveDesk$Tokens") (T := F_T) (N := 9) hx hb ht i_T hown hK hP 2 rfl rfl 4 (by decide) (nw_use n_127 (hE.1 _ n_127)) (fun _ h9 => h9) rfl d_G_advance_119 ?_
            refine lv_aload_n hx hb d_G_advance_122 rfl (lv_at hl 1 rfl) ?_
            refine va_get (D := (dC, dI)) (ci := 3) (v := .int (gat + 1)) (C := "SieveDesk$Grammar") (T := F_G) (N := 14) hx hb ht i_G hown hK hP 9 rfl rfl 3 (by decide) (ht _ k_163) (fun _ h9 => h9) rfl d_G_advance_123 ?_
            refine va_iald hx hb hK hP 6 4 rfl rfl (i_in e_5 (by omega) (by omega)) d_G_advance_126 ?_
            refine va_put (D := (dC, dI)) (ci := 3) (v := .int (sa (Int32.toNatClampNeg (gat + 1)))) (ty := .int) (C := "SieveDesk$Grammar") (T := F_G) (N := 14) hx hb ht i_G ty_G ty_G_ok n_G hown hK hP hD hS 9 rfl rfl 7 (by decide) (ht _ k_167) (fun _ h9 => h9) rfl (ty_G_ok 7 (by decide)) rfl rfl (Nat.le_of_ble_eq_true rfl) d_G_advance_127 (fun H locs hP hD hS => ?_)
            have hP : va_P (dC, dI) cls (WE h g len fp many tlen tat qlen md (gat + 1) (kd (Int32.toNatClampNeg (gat + 1))) (.ref (k 0)) (.ref (k 0)) (sa (Int32.toNatClampNeg (gat + 1))) th st rq bl te og sc kd sr wo sa qb du) H := hP
            have hD : va_D A (WE h g len fp many tlen tat qlen md (gat + 1) (kd (Int32.toNatClampNeg (gat + 1))) (.ref (k 0)) (.ref (k 0)) (sa (Int32.toNatClampNeg (gat + 1))) th st rq bl te og sc kd sr wo sa qb du) := hD
            exact fin  ((gat + 1), (kd (Int32.toNatClampNeg (gat + 1))), 0, 0, (sa (Int32.toNatClampNeg (gat + 1)))) _ _ _ ls d_G_advance_130 ⟨(by (try dsimp only); omega), (by (try dsimp only); omega), (by (try dsimp only); omega), (by (try dsimp only); omega)⟩ hP hD hS
        · refine lv_aload_nN hx hb d_G_advance_77 rfl (lv_at hl 0 rfl) ?_
          refine lv_ifnullN (tgt := 85) hx hb d_G_advance_78 (by decide) ?_
          refine va_gets hx hb (ke_W_NONE hE) hS hown (ht _ k_158) (fun _ h9 => h9) d_G_advance_85 ?_
          refine va_put (D := (dC, dI)) (ci := 3) (v := .ref (k 0)) (ty := .object "SieveDesk$Word") (C := "SieveDesk$Grammar") (T := F_G) (N := 14) hx hb ht i_G ty_G ty_G_ok n_G hown hK hP hD hS 9 rfl rfl 5 (by decide) (ht _ k_165) (fun _ h9 => h9) rfl (ty_G_ok 5 (by decide)) rfl rfl (Nat.le_of_ble_eq_true rfl) d_G_advance_88 (fun H locs hP hD hS => ?_)
          have hP : va_P (dC, dI) cls (WE h g len fp many tlen tat qlen md (gat + 1) (kd (Int32.toNatClampNeg (gat + 1))) (.ref (k 0)) (.ref (k ti)) gs th st rq bl te og sc kd sr wo sa qb du) H := hP
          have hD : va_D A (WE h g len fp many tlen tat qlen md (gat + 1) (kd (Int32.toNatClampNeg (gat + 1))) (.ref (k 0)) (.ref (k ti)) gs th st rq bl te og sc kd sr wo sa qb du) := hD
          refine lv_aload_n hx hb d_G_advance_91 rfl (lv_at hl 1 rfl) ?_
          refine lv_aload_n hx hb d_G_advance_92 rfl (lv_at hl 1 rfl) ?_
          refine va_get (D := (dC, dI)) (ci := 3) (v := .int (kd (Int32.toNatClampNeg (gat + 1)))) (C := "SieveDesk$Grammar") (T := F_G) (N := 14) hx hb ht i_G hown hK hP 9 rfl rfl 4 (by decide) (ht _ k_164) (fun _ h9 => h9) rfl d_G_advance_93 ?_
          refine lv_iconst (v := 2) hx hb d_G_advance_96 (by decide) ?_
          refine lv_icmp_ne (tgt := 108) hx hb d_G_advance_97 (by decide) (fun c_9 => ?_) (fun c_9 => ?_)
          · refine va_gets hx hb (ke_W_NONE hE) hS hown (ht _ k_158) (fun _ h9 => h9) d_G_advance_108 ?_
            refine va_put (D := (dC, dI)) (ci := 3) (v := .ref (k 0)) (ty := .object "SieveDesk$Word") (C := "SieveDesk$Grammar") (T := F_G) (N := 14) hx hb ht i_G ty_G ty_G_ok n_G hown hK hP hD hS 9 rfl rfl 6 (by decide) (ht _ k_166) (fun _ h9 => h9) rfl (ty_G_ok 6 (by decide)) rfl rfl (Nat.le_of_ble_eq_true rfl) d_G_advance_111 (fun H locs hP hD hS => ?_)
            have hP : va_P (dC, dI) cls (WE h g len fp many tlen tat qlen md (gat + 1) (kd (Int32.toNatClampNeg (gat + 1))) (.ref (k 0)) (.ref (k 0)) gs th st rq bl te og sc kd sr wo sa qb du) H := hP
            have hD : va_D A (WE h g len fp many tlen tat qlen md (gat + 1) (kd (Int32.toNatClampNeg (gat + 1))) (.ref (k 0)) (.ref (k 0)) gs th st rq bl te og sc kd sr wo sa qb du) := hD
            refine lv_aload_n hx hb d_G_advance_114 rfl (lv_at hl 1 rfl) ?_
            refine lv_aload_n hx hb d_G_advance_115 rfl (lv_at hl 1 rfl) ?_
            refine va_get (D := (dC, dI)) (ci := 3) (v := .ref (h 2)) (C := "SieveDesk$Grammar") (T := F_G) (N := 14) hx hb ht i_G hown hK hP 9 rfl rfl 0 (by decide) (ht _ k_160) (fun _ h9 => h9) rfl d_G_advance_116 ?_
            refine va_getN (D := (dC, dI)) (ci := 1) (v := .ref (h 6)) (C := "SieveDesk$Tokens") (T := F_T) (N := 9) hx hb ht i_T hown hK hP 2 rfl rfl 4 (by decide) (nw_use n_127 (hE.1 _ n_127)) (fun _ h9 => h9) rfl d_G_advance_119 ?_
            refine lv_aload_n hx hb d_G_advance_122 rfl (lv_at hl 1 rfl) ?_
            refine va_get (D := (dC, dI)) (ci := 3) (v := .int (gat + 1)) (C := "SieveDesk$Grammar") (T := F_G) (N := 14) hx hb ht i_G hown hK hP 9 rfl rfl 3 (by decide) (ht _ k_163) (fun _ h9 => h9) rfl d_G_advance_123 ?_
            refine va_iald hx hb hK hP 6 4 rfl rfl (i_in e_5 (by omega) (by omega)) d_G_advance_126 ?_
            refine va_put (D := (dC, dI)) (ci := 3) (v := .int (sa (Int32.toNatClampNeg (gat + 1)))) (ty := .int) (C := "SieveDesk$Grammar") (T := F_G) (N := 14) hx hb ht i_G ty_G ty_G_ok n_G hown hK hP hD hS 9 rfl rfl 7 (by decide) (ht _ k_167) (fun _ h9 => h9) rfl (ty_G_ok 7 (by decide)) rfl rfl (Nat.le_of_ble_eq_true rfl) d_G_advance_127 (fun H locs hP hD hS => ?_)
            have hP : va_P (dC, dI) cls (WE h g len fp many tlen tat qlen md (gat + 1) (kd (Int32.toNatClampNeg (gat + 1))) (.ref (k 0)) (.ref (k 0)) (sa (Int32.toNatClampNeg (gat + 1))) th st rq bl te og sc kd sr wo sa qb du) H := hP
            have hD : va_D A (WE h g len fp many tlen tat qlen md (gat + 1) (kd (Int32.toNatClampNeg (gat + 1))) (.ref (k 0)) (.ref (k 0)) (sa (Int32.toNatClampNeg (gat + 1))) th st rq bl te og sc kd sr wo sa qb du) := hD
            exact fin  ((gat + 1), (kd (Int32.toNatClampNeg (gat + 1))), 0, 0, (sa (Int32.toNatClampNeg (gat + 1)))) _ _ _ ls d_G_advance_130 ⟨(by (try dsimp only); omega), (by (try dsimp only); omega), (by (try dsimp only); omega), (by (try dsimp only); omega)⟩ hP hD hS
          · refine lv_aload_nN hx hb d_G_advance_100 rfl (lv_at hl 0 rfl) ?_
            refine lv_ifnullN (tgt := 108) hx hb d_G_advance_101 (by decide) ?_
            refine va_gets hx hb (ke_W_NONE hE) hS hown (ht _ k_158) (fun _ h9 => h9) d_G_advance_108 ?_
            refine va_put (D := (dC, dI)) (ci := 3) (v := .ref (k 0)) (ty := .object "SieveDesk$Word") (C := "SieveDesk$Grammar") (T := F_G) (N := 14) hx hb ht i_G ty_G ty_G_ok n_G hown hK hP hD hS 9 rfl rfl 6 (by decide) (ht _ k_166) (fun _ h9 => h9) rfl (ty_G_ok 6 (by decide)) rfl rfl (Nat.le_of_ble_eq_true rfl) d_G_advance_111 (fun H locs hP hD hS => ?_)
            have hP : va_P (dC, dI) cls (WE h g len fp many tlen tat qlen md (gat + 1) (kd (Int32.toNatClampNeg (gat + 1))) (.ref (k 0)) (.ref (k 0)) gs th st rq bl te og sc kd sr wo sa qb du) H := hP
            have hD : va_D A (WE h g len fp many tlen tat qlen md (gat + 1) (kd (Int32.toNatClampNeg (gat + 1))) (.ref (k 0)) (.ref (k 0)) gs th st rq bl te og sc kd sr wo sa qb du) := hD
            refine lv_aload_n hx hb d_G_advance_114 rfl (lv_at hl 1 rfl) ?_
            refine lv_aload_n hx hb d_G_advance_115 rfl (lv_at hl 1 rfl) ?_
            refine va_get (D := (dC, dI)) (ci := 3) (v := .ref (h 2)) (C := "SieveDesk$Grammar") (T := F_G) (N := 14) hx hb ht i_G hown hK hP 9 rfl rfl 0 (by decide) (ht _ k_160) (fun _ h9 => h9) rfl d_G_advance_116 ?_
            refine va_getN (D := (dC, dI)) (ci := 1) (v := .ref (h 6)) (C := "SieveDesk$Tokens") (T := F_T) (N := 9) hx hb ht i_T hown hK hP 2 rfl rfl 4 (by decide) (nw_use n_127 (hE.1 _ n_127)) (fun _ h9 => h9) rfl d_G_advance_119 ?_
            refine lv_aload_n hx hb d_G_advance_122 rfl (lv_at hl 1 rfl) ?_
            refine va_get (D := (dC, dI)) (ci := 3) (v := .int (gat + 1)) (C := "SieveDesk$Grammar") (T := F_G) (N := 14) hx hb ht i_G hown hK hP 9 rfl rfl 3 (by decide) (ht _ k_163) (fun _ h9 => h9) rfl d_G_advance_123 ?_
            refine va_iald hx hb hK hP 6 4 rfl rfl (i_in e_5 (by omega) (by omega)) d_G_advance_126 ?_
            refine va_put (D := (dC, dI)) (ci := 3) (v := .int (sa (Int32.toNatClampNeg (gat + 1)))) (ty := .int) (C := "SieveDesk$Grammar") (T := F_G) (N := 14) hx hb ht i_G ty_G ty_G_ok n_G hown hK hP hD hS 9 rfl rfl 7 (by decide) (ht _ k_167) (fun _ h9 => h9) rfl (ty_G_ok 7 (by decide)) rfl rfl (Nat.le_of_ble_eq_true rfl) d_G_advance_127 (fun H locs hP hD hS => ?_)
            have hP : va_P (dC, dI) cls (WE h g len fp many tlen tat qlen md (gat + 1) (kd (Int32.toNatClampNeg (gat + 1))) (.ref (k 0)) (.ref (k 0)) (sa (Int32.toNatClampNeg (gat + 1))) th st rq bl te og sc kd sr wo sa qb du) H := hP
            have hD : va_D A (WE h g len fp many tlen tat qlen md (gat + 1) (kd (Int32.toNatClampNeg (gat + 1))) (.ref (k 0)) (.ref (k 0)) (sa (Int32.toNatClampNeg (gat + 1))) th st rq bl te og sc kd sr wo sa qb du) := hD
            exact fin  ((gat + 1), (kd (Int32.toNatClampNeg (gat + 1))), 0, 0, (sa (Int32.toNatClampNeg (gat + 1)))) _ _ _ ls d_G_advance_130 ⟨(by (try dsimp only); omega), (by (try dsimp only); omega), (by (try dsimp only); omega), (by (try dsimp only); omega)⟩ hP hD hS
      · refine lv_evv (b := .ref (k z_6)) (by rw [hs_z_6]; rfl) ?_
        refine lv_astore_n (lv' := [(1, .ref (k z_6)), (0, .ref (h 9))]) hx hb d_G_advance_67 rfl hl (by decide) rfl (fun ls hl => ?_)
        refine lv_aload_n hx hb d_G_advance_68 rfl (lv_at hl 1 rfl) ?_
        refine lv_aload_n hx hb d_G_advance_69 rfl (lv_at hl 1 rfl) ?_
        refine va_get (D := (dC, dI)) (ci := 3) (v := .int (kd (Int32.toNatClampNeg (gat + 1)))) (C := "SieveDesk$Grammar") (T := F_G) (N := 14) hx hb ht i_G hown hK hP 9 rfl rfl 4 (by decide) (ht _ k_164) (fun _ h9 => h9) rfl d_G_advance_70 ?_
        refine lv_iconst (v := 1) hx hb d_G_advance_73 (by decide) ?_
        refine lv_icmp_ne (tgt := 85) hx hb d_G_advance_74 (by decide) (fun c_10 => ?_) (fun c_10 => ?_)
        · refine va_gets hx hb (ke_W_NONE hE) hS hown (ht _ k_158) (fun _ h9 => h9) d_G_advance_85 ?_
          refine va_put (D := (dC, dI)) (ci := 3) (v := .ref (k 0)) (ty := .object "SieveDesk$Word") (C := "SieveDesk$Grammar") (T := F_G) (N := 14) hx hb ht i_G ty_G ty_G_ok n_G hown hK hP hD hS 9 rfl rfl 5 (by decide) (ht _ k_165) (fun _ h9 => h9) rfl (ty_G_ok 5 (by decide)) rfl rfl (Nat.le_of_ble_eq_true rfl) d_G_advance_88 (fun H locs hP hD hS => ?_)
          have hP : va_P (dC, dI) cls (WE h g len fp many tlen tat qlen md (gat + 1) (kd (Int32.toNatClampNeg (gat + 1))) (.ref (k 0)) (.ref (k ti)) gs th st rq bl te og sc kd sr wo sa qb du) H := hP
          have hD : va_D A (WE h g len fp many tlen tat qlen md (gat + 1) (kd (Int32.toNatClampNeg (gat + 1))) (.ref (k 0)) (.ref (k ti)) gs th st rq bl te og sc kd sr wo sa qb du) := hD
          refine lv_aload_n hx hb d_G_advance_91 rfl (lv_at hl 1 rfl) ?_
          refine lv_aload_n hx hb d_G_advance_92 rfl (lv_at hl 1 rfl) ?_
          refine va_get (D := (dC, dI)) (ci := 3) (v := .int (kd (Int32.toNatClampNeg (gat + 1)))) (C := "SieveDesk$Grammar") (T := F_G) (N := 14) hx hb ht i_G hown hK hP 9 rfl rfl 4 (by decide) (ht _ k_164) (fun _ h9 => h9) rfl d_G_advance_93 ?_
          refine lv_iconst (v := 2) hx hb d_G_advance_96 (by decide) ?_
          refine lv_icmp_ne (tgt := 108) hx hb d_G_advance_97 (by decide) (fun c_11 => ?_) (fun c_11 => ?_)
          · refine va_gets hx hb (ke_W_NONE hE) hS hown (ht _ k_158) (fun _ h9 => h9) d_G_advance_108 ?_
            refine va_put (D := (dC, dI)) (ci := 3) (v := .ref (k 0)) (ty := .object "SieveDesk$Word") (C := "SieveDesk$Grammar") (T := F_G) (N := 14) hx hb ht i_G ty_G ty_G_ok n_G hown hK hP hD hS 9 rfl rfl 6 (by decide) (ht _ k_166) (fun _ h9 => h9) rfl (ty_G_ok 6 (by decide)) rfl rfl (Nat.le_of_ble_eq_true rfl) d_G_advance_111 (fun H locs hP hD hS => ?_)
            have hP : va_P (dC, dI) cls (WE h g len fp many tlen tat qlen md (gat + 1) (kd (Int32.toNatClampNeg (gat + 1))) (.ref (k 0)) (.ref (k 0)) gs th st rq bl te og sc kd sr wo sa qb du) H := hP
            have hD : va_D A (WE h g len fp many tlen tat qlen md (gat + 1) (kd (Int32.toNatClampNeg (gat + 1))) (.ref (k 0)) (.ref (k 0)) gs th st rq bl te og sc kd sr wo sa qb du) := hD
            refine lv_aload_n hx hb d_G_advance_114 rfl (lv_at hl 1 rfl) ?_
            refine lv_aload_n hx hb d_G_advance_115 rfl (lv_at hl 1 rfl) ?_
            refine va_get (D := (dC, dI)) (ci := 3) (v := .ref (h 2)) (C := "SieveDesk$Grammar") (T := F_G) (N := 14) hx hb ht i_G hown hK hP 9 rfl rfl 0 (by decide) (ht _ k_160) (fun _ h9 => h9) rfl d_G_advance_116 ?_
            refine va_getN (D := (dC, dI)) (ci := 1) (v := .ref (h 6)) (C := "SieveDesk$Tokens") (T := F_T) (N := 9) hx hb ht i_T hown hK hP 2 rfl rfl 4 (by decide) (nw_use n_127 (hE.1 _ n_127)) (fun _ h9 => h9) rfl d_G_advance_119 ?_
            refine lv_aload_n hx hb d_G_advance_122 rfl (lv_at hl 1 rfl) ?_
            refine va_get (D := (dC, dI)) (ci := 3) (v := .int (gat + 1)) (C := "SieveDesk$Grammar") (T := F_G) (N := 14) hx hb ht i_G hown hK hP 9 rfl rfl 3 (by decide) (ht _ k_163) (fun _ h9 => h9) rfl d_G_advance_123 ?_
            refine va_iald hx hb hK hP 6 4 rfl rfl (i_in e_5 (by omega) (by omega)) d_G_advance_126 ?_
            refine va_put (D := (dC, dI)) (ci := 3) (v := .int (sa (Int32.toNatClampNeg (gat + 1)))) (ty := .int) (C := "SieveDesk$Grammar") (T := F_G) (N := 14) hx hb ht i_G ty_G ty_G_ok n_G hown hK hP hD hS 9 rfl rfl 7 (by decide) (ht _ k_167) (fun _ h9 => h9) rfl (ty_G_ok 7 (by decide)) rfl rfl (Nat.le_of_ble_eq_true rfl) d_G_advance_127 (fun H locs hP hD hS => ?_)
            have hP : va_P (dC, dI) cls (WE h g len fp many tlen tat qlen md (gat + 1) (kd (Int32.toNatClampNeg (gat + 1))) (.ref (k 0)) (.ref (k 0)) (sa (Int32.toNatClampNeg (gat + 1))) th st rq bl te og sc kd sr wo sa qb du) H := hP
            have hD : va_D A (WE h g len fp many tlen tat qlen md (gat + 1) (kd (Int32.toNatClampNeg (gat + 1))) (.ref (k 0)) (.ref (k 0)) (sa (Int32.toNatClampNeg (gat + 1))) th st rq bl te og sc kd sr wo sa qb du) := hD
            exact fin  ((gat + 1), (kd (Int32.toNatClampNeg (gat + 1))), 0, 0, (sa (Int32.toNatClampNeg (gat + 1)))) _ _ _ ls d_G_advance_130 ⟨(by (try dsimp only); omega), (by (try dsimp only); omega), (by (try dsimp only); omega), (by (try dsimp only); omega)⟩ hP hD hS
          · refine lv_aload_n hx hb d_G_advance_100 rfl (lv_at hl 0 rfl) ?_
            refine lv_ifnull hx hb d_G_advance_101 ?_
            refine lv_aload_n hx hb d_G_advance_104 rfl (lv_at hl 0 rfl) ?_
            refine lv_goto (tgt := 111) hx hb d_G_advance_105 (by decide) ?_
            refine va_put (D := (dC, dI)) (ci := 3) (v := .ref (k z_6)) (ty := .object "SieveDesk$Word") (C := "SieveDesk$Grammar") (T := F_G) (N := 14) hx hb ht i_G ty_G ty_G_ok n_G hown hK hP hD hS 9 rfl rfl 6 (by decide) (ht _ k_166) (fun _ h9 => h9) rfl (ty_G_ok 6 (by decide)) rfl rfl (Nat.le_of_ble_eq_true rfl) d_G_advance_111 (fun H locs hP hD hS => ?_)
            have hP : va_P (dC, dI) cls (WE h g len fp many tlen tat qlen md (gat + 1) (kd (Int32.toNatClampNeg (gat + 1))) (.ref (k 0)) (.ref (k z_6)) gs th st rq bl te og sc kd sr wo sa qb du) H := hP
            have hD : va_D A (WE h g len fp many tlen tat qlen md (gat + 1) (kd (Int32.toNatClampNeg (gat + 1))) (.ref (k 0)) (.ref (k z_6)) gs th st rq bl te og sc kd sr wo sa qb du) := hD
            refine lv_aload_n hx hb d_G_advance_114 rfl (lv_at hl 1 rfl) ?_
            refine lv_aload_n hx hb d_G_advance_115 rfl (lv_at hl 1 rfl) ?_
            refine va_get (D := (dC, dI)) (ci := 3) (v := .ref (h 2)) (C := "SieveDesk$Grammar") (T := F_G) (N := 14) hx hb ht i_G hown hK hP 9 rfl rfl 0 (by decide) (ht _ k_160) (fun _ h9 => h9) rfl d_G_advance_116 ?_
            refine va_getN (D := (dC, dI)) (ci := 1) (v := .ref (h 6)) (C := "SieveDesk$Tokens") (T := F_T) (N := 9) hx hb ht i_T hown hK hP 2 rfl rfl 4 (by decide) (nw_use n_127 (hE.1 _ n_127)) (fun _ h9 => h9) rfl d_G_advance_119 ?_
            refine lv_aload_n hx hb d_G_advance_122 rfl (lv_at hl 1 rfl) ?_
            refine va_get (D := (dC, dI)) (ci := 3) (v := .int (gat + 1)) (C := "SieveDesk$Grammar") (T := F_G) (N := 14) hx hb ht i_G hown hK hP 9 rfl rfl 3 (by decide) (ht _ k_163) (fun _ h9 => h9) rfl d_G_advance_123 ?_
            refine va_iald hx hb hK hP 6 4 rfl rfl (i_in e_5 (by omega) (by omega)) d_G_advance_126 ?_
            refine va_put (D := (dC, dI)) (ci := 3) (v := .int (sa (Int32.toNatClampNeg (gat + 1)))) (ty := .int) (C := "SieveDesk$Grammar") (T := F_G) (N := 14) hx hb ht i_G ty_G ty_G_ok n_G hown hK hP hD hS 9 rfl rfl 7 (by decide) (ht _ k_167) (fun _ h9 => h9) rfl (ty_G_ok 7 (by decide)) rfl rfl (Nat.le_of_ble_eq_true rfl) d_G_advance_127 (fun H locs hP hD hS => ?_)
            have hP : va_P (dC, dI) cls (WE h g len fp many tlen tat qlen md (gat + 1) (kd (Int32.toNatClampNeg (gat + 1))) (.ref (k 0)) (.ref (k z_6)) (sa (Int32.toNatClampNeg (gat + 1))) th st rq bl te og sc kd sr wo sa qb du) H := hP
            have hD : va_D A (WE h g len fp many tlen tat qlen md (gat + 1) (kd (Int32.toNatClampNeg (gat + 1))) (.ref (k 0)) (.ref (k z_6)) (sa (Int32.toNatClampNeg (gat + 1))) th st rq bl te og sc kd sr wo sa qb du) := hD
            exact fin  ((gat + 1), (kd (Int32.toNatClampNeg (gat + 1))), 0, z_6, (sa (Int32.toNatClampNeg (gat + 1)))) _ _ _ ls d_G_advance_130 ⟨(by (try dsimp only); omega), (by (try dsimp only); omega), (by (try dsimp only); omega), (by (try dsimp only); omega)⟩ hP hD hS
        · refine lv_aload_n hx hb d_G_advance_77 rfl (lv_at hl 0 rfl) ?_
          refine lv_ifnull hx hb d_G_advance_78 ?_
          refine lv_aload_n hx hb d_G_advance_81 rfl (lv_at hl 0 rfl) ?_
          refine lv_goto (tgt := 88) hx hb d_G_advance_82 (by decide) ?_
          refine va_put (D := (dC, dI)) (ci := 3) (v := .ref (k z_6)) (ty := .object "SieveDesk$Word") (C := "SieveDesk$Grammar") (T := F_G) (N := 14) hx hb ht i_G ty_G ty_G_ok n_G hown hK hP hD hS 9 rfl rfl 5 (by decide) (ht _ k_165) (fun _ h9 => h9) rfl (ty_G_ok 5 (by decide)) rfl rfl (Nat.le_of_ble_eq_true rfl) d_G_advance_88 (fun H locs hP hD hS => ?_)
          have hP : va_P (dC, dI) cls (WE h g len fp many tlen tat qlen md (gat + 1) (kd (Int32.toNatClampNeg (gat + 1))) (.ref (k z_6)) (.ref (k ti)) gs th st rq bl te og sc kd sr wo sa qb du) H := hP
          have hD : va_D A (WE h g len fp many tlen tat qlen md (gat + 1) (kd (Int32.toNatClampNeg (gat + 1))) (.ref (k z_6)) (.ref (k ti)) gs th st rq bl te og sc kd sr wo sa qb du) := hD
          refine lv_aload_n hx hb d_G_advance_91 rfl (lv_at hl 1 rfl) ?_
          refine lv_aload_n hx hb d_G_advance_92 rfl (lv_at hl 1 rfl) ?_
          refine va_get (D := (dC, dI)) (ci := 3) (v := .int (kd (Int32.toNatClampNeg (gat + 1)))) (C := "SieveDesk$Grammar") (T := F_G) (N := 14) hx hb ht i_G hown hK hP 9 rfl rfl 4 (by decide) (ht _ k_164) (fun _ h9 => h9) rfl d_G_advance_93 ?_
          refine lv_iconst (v := 2) hx hb d_G_advance_96 (by decide) ?_
          refine lv_icmp_ne (tgt := 108) hx hb d_G_advance_97 (by decide) (fun c_12 => ?_) (fun c_12 => ?_)
          · refine va_gets hx hb (ke_W_NONE hE) hS hown (ht _ k_158) (fun _ h9 => h9) d_G_advance_108 ?_
            refine va_put (D := (dC, dI)) (ci := 3) (v := .ref (k 0)) (ty := .object "SieveDesk$Word") (C := "SieveDesk$Grammar") (T := F_G) (N := 14) hx hb ht i_G ty_G ty_G_ok n_G hown hK hP hD hS 9 rfl rfl 6 (by decide) (ht _ k_166) (fun _ h9 => h9) rfl (ty_G_ok 6 (by decide)) rfl rfl (Nat.le_of_ble_eq_true rfl) d_G_advance_111 (fun H locs hP hD hS => ?_)
            have hP : va_P (dC, dI) cls (WE h g len fp many tlen tat qlen md (gat + 1) (kd (Int32.toNatClampNeg (gat + 1))) (.ref (k z_6)) (.ref (k 0)) gs th st rq bl te og sc kd sr wo sa qb du) H := hP
            have hD : va_D A (WE h g len fp many tlen tat qlen md (gat + 1) (kd (Int32.toNatClampNeg (gat + 1))) (.ref (k z_6)) (.ref (k 0)) gs th st rq bl te og sc kd sr wo sa qb du) := hD
            refine lv_aload_n hx hb d_G_advance_114 rfl (lv_at hl 1 rfl) ?_
            refine lv_aload_n hx hb d_G_advance_115 rfl (lv_at hl 1 rfl) ?_
            refine va_get (D := (dC, dI)) (ci := 3) (v := .ref (h 2)) (C := "SieveDesk$Grammar") (T := F_G) (N := 14) hx hb ht i_G hown hK hP 9 rfl rfl 0 (by decide) (ht _ k_160) (fun _ h9 => h9) rfl d_G_advance_116 ?_
            refine va_getN (D := (dC, dI)) (ci := 1) (v := .ref (h 6)) (C := "SieveDesk$Tokens") (T := F_T) (N := 9) hx hb ht i_T hown hK hP 2 rfl rfl 4 (by decide) (nw_use n_127 (hE.1 _ n_127)) (fun _ h9 => h9) rfl d_G_advance_119 ?_
            refine lv_aload_n hx hb d_G_advance_122 rfl (lv_at hl 1 rfl) ?_
            refine va_get (D := (dC, dI)) (ci := 3) (v := .int (gat + 1)) (C := "SieveDesk$Grammar") (T := F_G) (N := 14) hx hb ht i_G hown hK hP 9 rfl rfl 3 (by decide) (ht _ k_163) (fun _ h9 => h9) rfl d_G_advance_123 ?_
            refine va_iald hx hb hK hP 6 4 rfl rfl (i_in e_5 (by omega) (by omega)) d_G_advance_126 ?_
            refine va_put (D := (dC, dI)) (ci := 3) (v := .int (sa (Int32.toNatClampNeg (gat + 1)))) (ty := .int) (C := "SieveDesk$Grammar") (T := F_G) (N := 14) hx hb ht i_G ty_G ty_G_ok n_G hown hK hP hD hS 9 rfl rfl 7 (by decide) (ht _ k_167) (fun _ h9 => h9) rfl (ty_G_ok 7 (by decide)) rfl rfl (Nat.le_of_ble_eq_true rfl) d_G_advance_127 (fun H locs hP hD hS => ?_)
            have hP : va_P (dC, dI) cls (WE h g len fp many tlen tat qlen md (gat + 1) (kd (Int32.toNatClampNeg (gat + 1))) (.ref (k z_6)) (.ref (k 0)) (sa (Int32.toNatClampNeg (gat + 1))) th st rq bl te og sc kd sr wo sa qb du) H := hP
            have hD : va_D A (WE h g len fp many tlen tat qlen md (gat + 1) (kd (Int32.toNatClampNeg (gat + 1))) (.ref (k z_6)) (.ref (k 0)) (sa (Int32.toNatClampNeg (gat + 1))) th st rq bl te og sc kd sr wo sa qb du) := hD
            exact fin  ((gat + 1), (kd (Int32.toNatClampNeg (gat + 1))), z_6, 0, (sa (Int32.toNatClampNeg (gat + 1)))) _ _ _ ls d_G_advance_130 ⟨(by (try dsimp only); omega), (by (try dsimp only); omega), (by (try dsimp only); omega), (by (try dsimp only); omega)⟩ hP hD hS
          · refine lv_aload_n hx hb d_G_advance_100 rfl (lv_at hl 0 rfl) ?_
            refine lv_ifnull hx hb d_G_advance_101 ?_
            refine lv_aload_n hx hb d_G_advance_104 rfl (lv_at hl 0 rfl) ?_
            refine lv_goto (tgt := 111) hx hb d_G_advance_105 (by decide) ?_
            refine va_put (D := (dC, dI)) (ci := 3) (v := .ref (k z_6)) (ty := .object "SieveDesk$Word") (C := "SieveDesk$Grammar") (T := F_G) (N := 14) hx hb ht i_G ty_G ty_G_ok n_G hown hK hP hD hS 9 rfl rfl 6 (by decide) (ht _ k_166) (fun _ h9 => h9) rfl (ty_G_ok 6 (by decide)) rfl rfl (Nat.le_of_ble_eq_true rfl) d_G_advance_111 (fun H locs hP hD hS => ?_)
            have hP : va_P (dC, dI) cls (WE h g len fp many tlen tat qlen md (gat + 1) (kd (Int32.toNatClampNeg (gat + 1))) (.ref (k z_6)) (.ref (k z_6)) gs th st rq bl te og sc kd sr wo sa qb du) H := hP
            have hD : va_D A (WE h g len fp many tlen tat qlen md (gat + 1) (kd (Int32.toNatClampNeg (gat + 1))) (.ref (k z_6)) (.ref (k z_6)) gs th st rq bl te og sc kd sr wo sa qb du) := hD
            refine lv_aload_n hx hb d_G_advance_114 rfl (lv_at hl 1 rfl) ?_
            refine lv_aload_n hx hb d_G_advance_115 rfl (lv_at hl 1 rfl) ?_
            refine va_get (D := (dC, dI)) (ci := 3) (v := .ref (h 2)) (C := "SieveDesk$Grammar") (T := F_G) (N := 14) hx hb ht i_G hown hK hP 9 rfl rfl 0 (by decide) (ht _ k_160) (fun _ h9 => h9) rfl d_G_advance_116 ?_
            refine va_getN (D := (dC, dI)) (ci := 1) (v := .ref (h 6)) (C := "SieveDesk$Tokens") (T := F_T) (N := 9) hx hb ht i_T hown hK hP 2 rfl rfl 4 (by decide) (nw_use n_127 (hE.1 _ n_127)) (fun _ h9 => h9) rfl d_G_advance_119 ?_
            refine lv_aload_n hx hb d_G_advance_122 rfl (lv_at hl 1 rfl) ?_
            refine va_get (D := (dC, dI)) (ci := 3) (v := .int (gat + 1)) (C := "SieveDesk$Grammar") (T := F_G) (N := 14) hx hb ht i_G hown hK hP 9 rfl rfl 3 (by decide) (ht _ k_163) (fun _ h9 => h9) rfl d_G_advance_123 ?_
            refine va_iald hx hb hK hP 6 4 rfl rfl (i_in e_5 (by omega) (by omega)) d_G_advance_126 ?_
            refine va_put (D := (dC, dI)) (ci := 3) (v := .int (sa (Int32.toNatClampNeg (gat + 1)))) (ty := .int) (C := "SieveDesk$Grammar") (T := F_G) (N := 14) hx hb ht i_G ty_G ty_G_ok n_G hown hK hP hD hS 9 rfl rfl 7 (by decide) (ht _ k_167) (fun _ h9 => h9) rfl (ty_G_ok 7 (by decide)) rfl rfl (Nat.le_of_ble_eq_true rfl) d_G_advance_127 (fun H locs hP hD hS => ?_)
            have hP : va_P (dC, dI) cls (WE h g len fp many tlen tat qlen md (gat + 1) (kd (Int32.toNatClampNeg (gat + 1))) (.ref (k z_6)) (.ref (k z_6)) (sa (Int32.toNatClampNeg (gat + 1))) th st rq bl te og sc kd sr wo sa qb du) H := hP
            have hD : va_D A (WE h g len fp many tlen tat qlen md (gat + 1) (kd (Int32.toNatClampNeg (gat + 1))) (.ref (k z_6)) (.ref (k z_6)) (sa (Int32.toNatClampNeg (gat + 1))) th st rq bl te og sc kd sr wo sa qb du) := hD
            exact fin  ((gat + 1), (kd (Int32.toNatClampNeg (gat + 1))), z_6, z_6, (sa (Int32.toNatClampNeg (gat + 1)))) _ _ _ ls d_G_advance_130 ⟨(by (try dsimp only); omega), (by (try dsimp only); omega), (by (try dsimp only); omega), (by (try dsimp only); omega)⟩ hP hD hS
    · have dc_4 := i_nlt c_4 e_3 (show Int32.toInt 401 = 401 by decide)
      exact fin  (gat, kind, wi, ti, gs) _ _ _ ls d_G_advance_28 ⟨(by (try dsimp only); omega), (by (try dsimp only); omega), (by (try dsimp only); omega), (by (try dsimp only); omega)⟩ hP hD hS
set_option maxHeartbeats 4000000 in
set_option maxRecDepth 100000 in
theorem c_G_advance (l : Launch) (dC : Nat → ClassId) (dI : Nat → Nat → Nat) (k : Nat → Nat) (h : Nat → Nat) (g : Nat → ClassId) (len : Int32) (fp : Int32) (many : Int32) (tlen : Int32) (tat : Int32) (qlen : Int32) (md : Int32) (gat : Int32) (kind : Int32) (gs : Int32) (th : Int32) (st : Int32) (rq : Int32) (bl : Int32) (te : Int32) (og : Int32) (wi : Nat) (ti : Nat) (sc : Nat → Int32) (kd : Nat → Int32) (sr : Nat → Int32) (sa : Nat → Int32) (qb : Nat → Int32) (du : Nat → Int32) (wo : Nat → Option Nat)  (sz : Nat) (h_0 : 0 ≤ Int32.toInt many) (h_1 : Int32.toInt many ≤ 401) (h_2 : WOk k wo) (v_0 : -1 ≤ Int32.toInt gat) (v_1 : Int32.toInt gat ≤ 400) (v_2 : wi < 43) (v_3 : ti < 43) : Met l y_G_advance (.code y_G_advance b_G_advance 2 none :: TT) ({ frames := 0, cells := 0, slots := 0, locals := 0 }) (va_Pc [.ref (h 9)] (PX dC dI k (TE g) (WE h g len fp many tlen tat qlen md gat kind (.ref (k wi)) (.ref (k ti)) gs th st rq bl te og sc kd sr wo sa qb du) sz)) (va_Qv (fun u : Int32 × Int32 × Nat × Nat × Int32 => -1 ≤ Int32.toInt u.1 ∧ Int32.toInt u.1 ≤ 400 ∧ u.2.2.1 < 43 ∧ u.2.2.2.1 < 43) (fun u t => BX dC dI (TE g) (va_A (WE h g len fp many tlen tat qlen md gat kind (.ref (k wi)) (.ref (k ti)) gs th st rq bl te og sc kd sr wo sa qb du) sz) (WE h g len fp many tlen tat qlen md u.1 u.2.1 (.ref (k u.2.2.1)) (.ref (k u.2.2.2.1)) u.2.2.2.2 th st rq bl te og sc kd sr wo sa qb du) t) (va_A (WE h g len fp many tlen tat qlen md gat kind (.ref (k wi)) (.ref (k ti)) gs th st rq bl te og sc kd sr wo sa qb du) sz)) 0 0 (va_A (WE h g len fp many tlen tat qlen md gat kind (.ref (k wi)) (.ref (k ti)) gs th st rq bl te og sc kd sr wo sa qb du) sz) := by
  refine Met.ofW (cc := b_G_advance) (maxL := 2) (ret := none) (by decide) rfl ?_
  intro p e s m args below meth c s₁ B hml hv
  obtain ⟨rfl, hsz, hE, hP, hK, hD0⟩ := hv
  have hx := B.exec
  have hb := B.bytes
  have hr := B.returns
  have ht : ∀ w ∈ TT, w.before _ s = true := fun w hw => atoms_spec (ws := .code y_G_advance b_G_advance 2 none :: TT) B.pre w (List.mem_cons_of_mem _ hw)
  have hown : s.vm.findClass "SieveDesk$Grammar" = some m.cls := findClass_of_methodNamed B.named
  have hlocks := B.notSynchronized
  subst hsz
  have hD := hD0.self (sz := s.heap.size)
  generalize hAe : va_A (WE h g len fp many tlen tat qlen md gat kind (.ref (k wi)) (.ref (k ti)) gs th st rq bl te og sc kd sr wo sa qb du) s.heap.size = A at hE hD ⊢
  have hA : ∀ q : Nat, s.heap.size ≤ q → A q := fun q h9 => by rw [← hAe]; exact Or.inr h9
  have hS : va_S A s.heap s.heap [] := va_S.rf
  have hl := lv_entry ([.ref (h 9)]) (n := 2) (Nat.le_of_ble_eq_true rfl)
  rw [lg_entry_eq]
  generalize (lg_sl ([.ref (h 9)]) ++ List.replicate (2 - (lg_sl ([.ref (h 9)])).length) Slot.unset).toArray = ls at hl ⊢
  have hl : lv_has ls 2 [(0, .ref (h 9))] := hl
  exact bd_G_advance_0  hx hb hml hown ht hE hA hK h_0 h_1 h_2 (fun u H locs pc ls hd hp hP hD hS => W.vret hx hb hr (fun t het hW => ⟨⟨u, rfl, hp, by rw [het]; exact hP, va_K.moved hW.alike hK, hD⟩, hS.F het⟩) hS.2.2 hd) gat kind wi ti gs v_0 v_1 v_2 v_3 _ _ ls hP hD hS hl
set_option maxHeartbeats 4000000 in
set_option maxRecDepth 100000 in
theorem lp_G_expect_7 {p : Program} {l : Launch} {e : Env} {s : State} {m : MethodId} {args : Array Value} {below : List Frame} {meth : Method} {c : Code} {Q : State → Prop} {A : Nat → Prop} {dC : Nat → ClassId} {dI : Nat → Nat → Nat} {k h : Nat → Nat} {g : Nat → ClassId} {len : Int32} {fp : Int32} {many : Int32} {tlen : Int32} {tat : Int32} {qlen : Int32} {gat : Int32} {kind : Int32} {gs : Int32} {th : Int32} {st : Int32} {rq : Int32} {bl : Int32} {te : Int32} {og : Int32} {wi : Nat} {ti : Nat} {sc : Nat → Int32} {kd : Nat → Int32} {sr : Nat → Int32} {sa : Nat → Int32} {qb : Nat → Int32} {wo : Nat → Option Nat} (hx : p.tables.exec = Jvm.exec) (hb : c.code = b_G_expect) (hml : c.maxLocals = 3) (hown : s.vm.findClass "SieveDesk$Grammar" = some m.cls) (ht : ∀ w ∈ TT, w.before args s = true) (hE : KE k A s s.heap) (hA : ∀ q : Nat, s.heap.size ≤ q → A q) (hK : va_K (dC, dI) cls (TE g) s) {si : Nat} (h_0 : si < 116) (fin : ∀ (u : Int32 × (Nat → Int32)) (H : Heap) (locs : List Loc) (pc : Nat) (ls : Array Slot), decode b_G_expect pc = .ok (.return_, 1) → (0 ≤ Int32.toInt u.1 ∧ Int32.toInt u.1 ≤ 200) → va_P (dC, dI) cls (WE h g len fp many tlen tat qlen u.1 gat kind (.ref (k wi)) (.ref (k ti)) gs th st rq bl te og sc kd sr wo sa qb u.2) H → va_D A (WE h g len fp many tlen tat qlen u.1 gat kind (.ref (k wi)) (.ref (k ti)) gs th st rq bl te og sc kd sr wo sa qb u.2) → va_S A s.heap H locs → W p l e ({ frames := 4, cells := 0, slots := 0, locals := 85 } : Room) s m args below meth c H locs 0 0 Q (F0 m pc ls [])) : ∀ (nn : Nat), ∀ (i : Int32) (md : Int32) (du : Nat → Int32), -1 ≤ Int32.toInt i → Int32.toInt i < ((k (500 + si) : Nat) : Int) → ((k (500 + si) : Nat) : Int) ≤ 100 → 0 ≤ Int32.toInt md → Int32.toInt md ≤ 200 → (Int32.toInt i + 1).toNat < nn → ∀ (H : Heap) (locs : List Loc) (ls : Array Slot), va_P (dC, dI) cls (WE h g len fp many tlen tat qlen md gat kind (.ref (k wi)) (.ref (k ti)) gs th st rq bl te og sc kd sr wo sa qb du) H → va_D A (WE h g len fp many tlen tat qlen md gat kind (.ref (k wi)) (.ref (k ti)) gs th st rq bl te og sc kd sr wo sa qb du) → va_S A s.heap H locs → lv_has ls 3 [(2, .int i), (0, .ref (h 9)), (1, .ref (k (100 + si)))] → W p l e ({ frames := 4, cells := 0, slots := 0, locals := 85 } : Room) s m args below meth c H locs 0 0 Q (F0 m 7 ls []) := by
  intro nn
  induction nn with
  | zero =>
    intro _ _ _ _ _ _ _ _ hm
    exact absurd hm (Nat.not_lt_zero _)
  | succ nn ih =>
    intro i md du v_0 v_1 v_2 v_3 v_4 hm H locs ls hP hD hS hl
    refine lv_iload_n hx hb d_G_expect_7 rfl (lv_at hl 0 rfl) ?_
    refine lv_if_lt (tgt := 53) hx hb d_G_expect_8 (by decide) (fun c_1 => ?_) (fun c_1 => ?_)
    · have dc_1 := i_lt c_1 rfl (show Int32.toInt 0 = 0 by decide)
      exact fin  (md, du) _ _ _ ls d_G_expect_53 ⟨(by (try dsimp only); omega), (by (try dsimp only); omega)⟩ hP hD hS
    · have dc_1 := i_nlt c_1 rfl (show Int32.toInt 0 = 0 by decide)
      refine lv_aload_n hx hb d_G_expect_11 rfl (lv_at hl 1 rfl) ?_
      refine va_get (D := (dC, dI)) (ci := 3) (v := .int md) (C := "SieveDesk$Grammar") (T := F_G) (N := 14) hx hb ht i_G hown hK hP 9 rfl rfl 2 (by decide) (ht _ k_162) (fun _ h9 => h9) rfl d_G_expect_12 ?_
      refine lv_aload_n hx hb d_G_expect_15 rfl (lv_at hl 1 rfl) ?_
      refine va_get (D := (dC, dI)) (ci := 3) (v := .ref (h 10)) (C := "SieveDesk$Grammar") (T := F_G) (N := 14) hx hb ht i_G hown hK hP 9 rfl rfl 1 (by decide) (ht _ k_161) (fun _ h9 => h9) rfl d_G_expect_16 ?_
      refine va_alen (v := 200) hx hb hK hP 10 6 rfl rfl rfl d_G_expect_19 ?_
      refine lv_icmp_ge (tgt := 47) hx hb d_G_expect_20 (by decide) (fun c_2 => ?_) (fun c_2 => ?_)
      · have dc_2 := i_le c_2 (show Int32.toInt 200 = 200 by decide) rfl
        refine lv_iinc (v := (i + (-1))) (lv' := [(2, .int (i + (-1))), (0, .ref (h 9)), (1, .ref (k (100 + si)))]) hx hb d_G_expect_47 hl (k := 0) rfl rfl (by decide) rfl (fun ls hl => ?_)
        have e_3 : Int32.toInt (i + (-1)) = (Int32.toInt i) + (-1) := i_add rfl (show Int32.toInt (-1) = (-1) by decide) (by omega) (by omega)
        refine lv_goto (tgt := 7) hx hb d_G_expect_50 (by decide) ?_
        exact ih (i + (-1)) md du (by omega) (by omega) (by omega) (by omega) (by omega) (by omega) _ _ ls hP hD hS (lv_sub hl [0, 1, 2] rfl)
      · have dc_2 := i_nle c_2 (show Int32.toInt 200 = 200 by decide) rfl
        refine lv_aload_n hx hb d_G_expect_23 rfl (lv_at hl 1 rfl) ?_
        refine va_get (D := (dC, dI)) (ci := 3) (v := .ref (h 10)) (C := "SieveDesk$Grammar") (T := F_G) (N := 14) hx hb ht i_G hown hK hP 9 rfl rfl 1 (by decide) (ht _ k_161) (fun _ h9 => h9) rfl d_G_expect_24 ?_
        refine lv_aload_n hx hb d_G_expect_27 rfl (lv_at hl 1 rfl) ?_
        refine va_get (D := (dC, dI)) (ci := 3) (v := .int md) (C := "SieveDesk$Grammar") (T := F_G) (N := 14) hx hb ht i_G hown hK hP 9 rfl rfl 2 (by decide) (ht _ k_162) (fun _ h9 => h9) rfl d_G_expect_28 ?_
        refine lv_aload_n hx hb d_G_expect_31 rfl (lv_at hl 2 rfl) ?_
        refine lv_iload_n hx hb d_G_expect_32 rfl (lv_at hl 0 rfl) ?_
        refine vp_callSi (W.runV (As := [.int i]) (rest := [.int md, .ref (h 10)]) ⟨hx, hb, hml, hown, ht⟩ (c_JS_charAt l k si i (by omega) (by omega) (by omega)) (cwV 1 ht (g_V k_476 k_295 k_296 k_81 k_297) rfl rfl rfl (by decide +kernel) ⟨(Nat.le_of_ble_eq_true rfl), (Nat.le_of_ble_eq_true rfl)⟩) ⟨fb_J, oo_recv (ke_s hE (i := si) (by omega)).1 hS, pre_J hE hS⟩ rfl rfl hl.1 rfl (lv_room (Nat.le_of_ble_eq_true rfl)) d_G_expect_33 ⟨(Nat.le_of_ble_eq_true rfl), (Nat.le_of_ble_eq_true rfl)⟩) (fun r_4 hw => ?_)
        have p_5 := hw
        refine va_cast hx hb hK hP hD hS 10 6 rfl rfl (i_in rfl (by omega) (by omega)) d_G_expect_36 (fun H locs hP hD hS => ?_)
        have hP : va_P (dC, dI) cls (WE h g len fp many tlen tat qlen md gat kind (.ref (k wi)) (.ref (k ti)) gs th st rq bl te og sc kd sr wo sa qb (upd du (Int32.toNatClampNeg md) (vp_nar .char r_4))) H := hP
        have hD : va_D A (WE h g len fp many tlen tat qlen md gat kind (.ref (k wi)) (.ref (k ti)) gs th st rq bl te og sc kd sr wo sa qb (upd du (Int32.toNatClampNeg md) (vp_nar .char r_4))) := hD
        refine lv_aload_n hx hb d_G_expect_37 rfl (lv_at hl 1 rfl) ?_
        refine lv_dup hx hb d_G_expect_38 rfl ?_
        refine va_get (D := (dC, dI)) (ci := 3) (v := .int md) (C := "SieveDesk$Grammar") (T := F_G) (N := 14) hx hb ht i_G hown hK hP 9 rfl rfl 2 (by decide) (ht _ k_162) (fun _ h9 => h9) rfl d_G_expect_39 ?_
        refine lv_iconst (v := 1) hx hb d_G_expect_42 (by decide) ?_
        refine lv_iadd hx hb d_G_expect_43 ?_
        have e_6 : Int32.toInt (md + 1) = (Int32.toInt md) + 1 := i_add rfl (show Int32.toInt 1 = 1 by decide) (by omega) (by omega)
        refine va_put (D := (dC, dI)) (ci := 3) (v := .int (md + 1)) (ty := .int) (C := "SieveDesk$Grammar") (T := F_G) (N := 14) hx hb ht i_G ty_G ty_G_ok n_G hown hK hP hD hS 9 rfl rfl 2 (by decide) (ht _ k_162) (fun _ h9 => h9) rfl (ty_G_ok 2 (by decide)) rfl rfl (Nat.le_of_ble_eq_true rfl) d_G_expect_44 (fun H locs hP hD hS => ?_)
        have hP : va_P (dC, dI) cls (WE h g len fp many tlen tat qlen (md + 1) gat kind (.ref (k wi)) (.ref (k ti)) gs th st rq bl te og sc kd sr wo sa qb (upd du (Int32.toNatClampNeg md) (vp_nar .char r_4))) H := hP
        have hD : va_D A (WE h g len fp many tlen tat qlen (md + 1) gat kind (.ref (k wi)) (.ref (k ti)) gs th st rq bl te og sc kd sr wo sa qb (upd du (Int32.toNatClampNeg md) (vp_nar .char r_4))) := hD
        refine lv_iinc (v := (i + (-1))) (lv' := [(2, .int (i + (-1))), (0, .ref (h 9)), (1, .ref (k (100 + si)))]) hx hb d_G_expect_47 hl (k := 0) rfl rfl (by decide) rfl (fun ls hl => ?_)
        have e_7 : Int32.toInt (i + (-1)) = (Int32.toInt i) + (-1) := i_add rfl (show Int32.toInt (-1) = (-1) by decide) (by omega) (by omega)
        refine lv_goto (tgt := 7) hx hb d_G_expect_50 (by decide) ?_
        exact ih (i + (-1)) (md + 1) (upd du (Int32.toNatClampNeg md) (vp_nar .char r_4)) (by omega) (by omega) (by omega) (by omega) (by omega) (by omega) _ _ ls hP hD hS (lv_sub hl [0, 1, 2] rfl)
set_option maxHeartbeats 4000000 in
set_option maxRecDepth 100000 in
theorem bd_G_expect_0 {p : Program} {l : Launch} {e : Env} {s : State} {m : MethodId} {args : Array Value} {below : List Frame} {meth : Method} {c : Code} {Q : State → Prop} {A : Nat → Prop} {dC : Nat → ClassId} {dI : Nat → Nat → Nat} {k h : Nat → Nat} {g : Nat → ClassId} {len : Int32} {fp : Int32} {many : Int32} {tlen : Int32} {tat : Int32} {qlen : Int32} {gat : Int32} {kind : Int32} {gs : Int32} {th : Int32} {st : Int32} {rq : Int32} {bl : Int32} {te : Int32} {og : Int32} {wi : Nat} {ti : Nat} {sc : Nat → Int32} {kd : Nat → Int32} {sr : Nat → Int32} {sa : Nat → Int32} {qb : Nat → Int32} {wo : Nat → Option Nat} (hx : p.tables.exec = Jvm.exec) (hb : c.code = b_G_expect) (hml : c.maxLocals = 3) (hown : s.vm.findClass "SieveDesk$Grammar" = some m.cls) (ht : ∀ w ∈ TT, w.before args s = true) (hE : KE k A s s.heap) (hA : ∀ q : Nat, s.heap.size ≤ q → A q) (hK : va_K (dC, dI) cls (TE g) s) {si : Nat} (h_0 : si < 116) (fin : ∀ (u : Int32 × (Nat → Int32)) (H : Heap) (locs : List Loc) (pc : Nat) (ls : Array Slot), decode b_G_expect pc = .ok (.return_, 1) → (0 ≤ Int32.toInt u.1 ∧ Int32.toInt u.1 ≤ 200) → va_P (dC, dI) cls (WE h g len fp many tlen tat qlen u.1 gat kind (.ref (k wi)) (.ref (k ti)) gs th st rq bl te og sc kd sr wo sa qb u.2) H → va_D A (WE h g len fp many tlen tat qlen u.1 gat kind (.ref (k wi)) (.ref (k ti)) gs th st rq bl te og sc kd sr wo sa qb u.2) → va_S A s.heap H locs → W p l e ({ frames := 4, cells := 0, slots := 0, locals := 85 } : Room) s m args below meth c H locs 0 0 Q (F0 m pc ls [])) : ∀ (md : Int32) (du : Nat → Int32), 0 ≤ Int32.toInt md → Int32.toInt md ≤ 200 → ∀ (H : Heap) (locs : List Loc) (ls : Array Slot), va_P (dC, dI) cls (WE h g len fp many tlen tat qlen md gat kind (.ref (k wi)) (.ref (k ti)) gs th st rq bl te og sc kd sr wo sa qb du) H → va_D A (WE h g len fp many tlen tat qlen md gat kind (.ref (k wi)) (.ref (k ti)) gs th st rq bl te og sc kd sr wo sa qb du) → va_S A s.heap H locs → lv_has ls 3 [(0, .ref (h 9)), (1, .ref (k (100 + si)))] → W p l e ({ frames := 4, cells := 0, slots := 0, locals := 85 } : Room) s m args below meth c H locs 0 0 Q (F0 m 0 ls []) := by
  intro md du v_0 v_1 H locs ls hP hD hS hl
  refine lv_aload_n hx hb d_G_expect_0 rfl (lv_at hl 1 rfl) ?_
  refine vp_callSi (W.runV (As := []) (rest := []) ⟨hx, hb, hml, hown, ht⟩ (c_JS_length l k si (by omega)) (cwV 0 ht (g_V k_475 k_285 k_286 k_81 k_287) rfl rfl rfl (by decide +kernel) ⟨(Nat.le_of_ble_eq_true rfl), (Nat.le_of_ble_eq_true rfl)⟩) ⟨fb_J, oo_recv (ke_s hE (i := si) (by omega)).1 hS, pre_J hE hS⟩ rfl rfl hl.1 rfl (lv_room (Nat.le_of_ble_eq_true rfl)) d_G_expect_1 ⟨(Nat.le_of_ble_eq_true rfl), (Nat.le_of_ble_eq_true rfl)⟩) (fun r_8 hw => ?_)
  obtain ⟨p_9, p_10, p_11⟩ := hw
  refine lv_iconst (v := 1) hx hb d_G_expect_4 (by decide) ?_
  refine lv_isub hx hb d_G_expect_5 ?_
  have e_12 : Int32.toInt (r_8 - 1) = (Int32.toInt r_8) - 1 := i_sub rfl (show Int32.toInt 1 = 1 by decide) (by omega) (by omega)
  refine lv_istore_n (lv' := [(2, .int (r_8 - 1)), (0, .ref (h 9)), (1, .ref (k (100 + si)))]) hx hb d_G_expect_6 rfl hl (by decide) rfl (fun ls hl => ?_)
  exact (lp_G_expect_7 (si := si) hx hb hml hown ht hE hA hK h_0 fin _) (r_8 - 1) md du (by omega) (by omega) (by omega) (by omega) (by omega) (Nat.lt_succ_self _) _ _ ls hP hD hS (lv_sub hl [0, 1, 2] rfl)
set_option maxHeartbeats 4000000 in
set_option maxRecDepth 100000 in
theorem c_G_expect (l : Launch) (dC : Nat → ClassId) (dI : Nat → Nat → Nat) (k : Nat → Nat) (h : Nat → Nat) (g : Nat → ClassId) (len : Int32) (fp : Int32) (many : Int32) (tlen : Int32) (tat : Int32) (qlen : Int32) (md : Int32) (gat : Int32) (kind : Int32) (gs : Int32) (th : Int32) (st : Int32) (rq : Int32) (bl : Int32) (te : Int32) (og : Int32) (wi : Nat) (ti : Nat) (sc : Nat → Int32) (kd : Nat → Int32) (sr : Nat → Int32) (sa : Nat → Int32) (qb : Nat → Int32) (du : Nat → Int32) (wo : Nat → Option Nat) (si : Nat) (sz : Nat) (h_0 : si < 116) (v_0 : 0 ≤ Int32.toInt md) (v_1 : Int32.toInt md ≤ 200) : Met l y_G_expect (.code y_G_expect b_G_expect 3 none :: TT) ({ frames := 4, cells := 0, slots := 0, locals := 85 }) (va_Pc [.ref (h 9), .ref (k (100 + si))] (PX dC dI k (TE g) (WE h g len fp many tlen tat qlen md gat kind (.ref (k wi)) (.ref (k ti)) gs th st rq bl te og sc kd sr wo sa qb du) sz)) (va_Qv (fun u : Int32 × (Nat → Int32) => 0 ≤ Int32.toInt u.1 ∧ Int32.toInt u.1 ≤ 200) (fun u t => BX dC dI (TE g) (va_A (WE h g len fp many tlen tat qlen md gat kind (.ref (k wi)) (.ref (k ti)) gs th st rq bl te og sc kd sr wo sa qb du) sz) (WE h g len fp many tlen tat qlen u.1 gat kind (.ref (k wi)) (.ref (k ti)) gs th st rq bl te og sc kd sr wo sa qb u.2) t) (va_A (WE h g len fp many tlen tat qlen md gat kind (.ref (k wi)) (.ref (k ti)) gs th st rq bl te og sc kd sr wo sa qb du) sz)) 0 0 (va_A (WE h g len fp many tlen tat qlen md gat kind (.ref (k wi)) (.ref (k ti)) gs th st rq bl te og sc kd sr wo sa qb du) sz) := by
  refine Met.ofW (cc := b_G_expect) (maxL := 3) (ret := none) (by decide) rfl ?_
  intro p e s m args below meth c s₁ B hml hv
  obtain ⟨rfl, hsz, hE, hP, hK, hD0⟩ := hv
  have hx := B.exec
  have hb := B.bytes
  have hr := B.returns
  have ht : ∀ w ∈ TT, w.before _ s = true := fun w hw => atoms_spec (ws := .code y_G_expect b_G_expect 3 none :: TT) B.pre w (List.mem_cons_of_mem _ hw)
  have hown : s.vm.findClass "SieveDesk$Grammar" = some m.cls := findClass_of_methodNamed B.named
  have hlocks := B.notSynchronized
  subst hsz
  have hD := hD0.self (sz := s.heap.size)
  generalize hAe : va_A (WE h g len fp many tlen tat qlen md gat kind (.ref (k wi)) (.ref (k ti)) gs th st rq bl te og sc kd sr wo sa qb du) s.heap.size = A at hE hD ⊢
  have hA : ∀ q : Nat, s.heap.size ≤ q → A q := fun q h9 => by rw [← hAe]; exact Or.inr h9
  have hS : va_S A s.heap s.heap [] := va_S.rf
  have hl := lv_entry ([.ref (h 9), .ref (k (100 + si))]) (n := 3) (Nat.le_of_ble_eq_true rfl)
  rw [lg_entry_eq]
  generalize (lg_sl ([.ref (h 9), .ref (k (100 + si))]) ++ List.replicate (3 - (lg_sl ([.ref (h 9), .ref (k (100 + si))])).length) Slot.unset).toArray = ls at hl ⊢
  have hl : lv_has ls 3 [(0, .ref (h 9)), (1, .ref (k (100 + si)))] := hl
  exact bd_G_expect_0 (si := si) hx hb hml hown ht hE hA hK h_0 (fun u H locs pc ls hd hp hP hD hS => W.vret hx hb hr (fun t het hW => ⟨⟨u, rfl, hp, by rw [het]; exact hP, va_K.moved hW.alike hK, hD⟩, hS.F het⟩) hS.2.2 hd) md du v_0 v_1 _ _ ls hP hD hS hl
set_option maxHeartbeats 4000000 in
set_option maxRecDepth 100000 in
theorem bd_G_lacks_0 {p : Program} {l : Launch} {e : Env} {s : State} {m : MethodId} {args : Array Value} {below : List Frame} {meth : Method} {c : Code} {Q : State → Prop} {A : Nat → Prop} {dC : Nat → ClassId} {dI : Nat → Nat → Nat} {k h : Nat → Nat} {g : Nat → ClassId} {len : Int32} {fp : Int32} {many : Int32} {tlen : Int32} {tat : Int32} {qlen : Int32} {md : Int32} {gat : Int32} {kind : Int32} {gs : Int32} {th : Int32} {st : Int32} {rq : Int32} {bl : Int32} {te : Int32} {og : Int32} {wi : Nat} {ti : Nat} {sc : Nat → Int32} {kd : Nat → Int32} {sr : Nat → Int32} {sa : Nat → Int32} {qb : Nat → Int32} {du : Nat → Int32} {wo : Nat → Option Nat} (hx : p.tables.exec = Jvm.exec) (hb : c.code = b_G_lacks) (hml : c.maxLocals = 2) (hown : s.vm.findClass "SieveDesk$Grammar" = some m.cls) (ht : ∀ w ∈ TT, w.before args s = true) (hE : KE k A s s.heap) (hA : ∀ q : Nat, s.heap.size ≤ q → A q) (hK : va_K (dC, dI) cls (TE g) s) {nd : Int32}  (fin : ∀ (r : Int32) (u : Unit) (H : Heap) (locs : List Loc) (pc : Nat) (ls : Array Slot), decode b_G_lacks pc = .ok (.ireturn, 1) → narrow .boolean (.int r) = .int r → (narrow .boolean (.int r) = .int r) → va_P (dC, dI) cls (WE h g len fp many tlen tat qlen md gat kind (.ref (k wi)) (.ref (k ti)) gs th st rq bl te og sc kd sr wo sa qb du) H → va_D A (WE h g len fp many tlen tat qlen md gat kind (.ref (k wi)) (.ref (k ti)) gs th st rq bl te og sc kd sr wo sa qb du) → va_S A s.heap H locs → W p l e ({ frames := 0, cells := 0, slots := 0, locals := 0 } : Room) s m args below meth c H locs 0 0 Q (F0 m pc ls [.int r])) : ∀ (H : Heap) (locs : List Loc) (ls : Array Slot), va_P (dC, dI) cls (WE h g len fp many tlen tat qlen md gat kind (.ref (k wi)) (.ref (k ti)) gs th st rq bl te og sc kd sr wo sa qb du) H → va_D A (WE h g len fp many tlen tat qlen md gat kind (.ref (k wi)) (.ref (k ti)) gs th st rq bl te og sc kd sr wo sa qb du) → va_S A s.heap H locs → lv_has ls 2 [(0, .ref (h 9)), (1, .int nd)] → W p l e ({ frames := 0, cells := 0, slots := 0, locals := 0 } : Room) s m args below meth c H locs 0 0 Q (F0 m 0 ls []) := by
  intro H locs ls hP hD hS hl
  refine lv_aload_n hx hb d_G_lacks_0 rfl (lv_at hl 0 rfl) ?_
  refine va_get (D := (dC, dI)) (ci := 3) (v := .int rq) (C := "SieveDesk$Grammar") (T := F_G) (N := 14) hx hb ht i_G hown hK hP 9 rfl rfl 10 (by decide) (ht _ k_172) (fun _ h9 => h9) rfl d_G_lacks_1 ?_
  refine lv_iload_n hx hb d_G_lacks_4 rfl (lv_at hl 1 rfl) ?_
  refine lv_iand hx hb d_G_lacks_5 ?_
  refine lv_iload_n hx hb d_G_lacks_6 rfl (lv_at hl 1 rfl) ?_
  refine lv_icmp_eq (tgt := 14) hx hb d_G_lacks_7 (by decide) (fun c_1 => ?_) (fun c_1 => ?_)
  · refine lv_iconst (v := 0) hx hb d_G_lacks_14 (by decide) ?_
    have hc_0 : Int32.toInt 0 = 0 := by decide
    exact fin 0 () _ _ _ ls d_G_lacks_15 rfl rfl hP hD hS
  · refine lv_iconst (v := 1) hx hb d_G_lacks_10 (by decide) ?_
    refine lv_goto (tgt := 15) hx hb d_G_lacks_11 (by decide) ?_
    have hc_1 : Int32.toInt 1 = 1 := by decide
    exact fin 1 () _ _ _ ls d_G_lacks_15 rfl rfl hP hD hS
set_option maxHeartbeats 4000000 in
set_option maxRecDepth 100000 in
theorem c_G_lacks (l : Launch) (dC : Nat → ClassId) (dI : Nat → Nat → Nat) (k : Nat → Nat) (h : Nat → Nat) (g : Nat → ClassId) (len : Int32) (fp : Int32) (many : Int32) (tlen : Int32) (tat : Int32) (qlen : Int32) (md : Int32) (gat : Int32) (kind : Int32) (gs : Int32) (th : Int32) (st : Int32) (rq : Int32) (bl : Int32) (te : Int32) (og : Int32) (wi : Nat) (ti : Nat) (sc : Nat → Int32) (kd : Nat → Int32) (sr : Nat → Int32) (sa : Nat → Int32) (qb : Nat → Int32) (du : Nat → Int32) (wo : Nat → Option Nat) (nd : Int32) (sz : Nat)   : Met l y_G_lacks (.code y_G_lacks b_G_lacks 2 (some .boolean) :: TT) ({ frames := 0, cells := 0, slots := 0, locals := 0 }) (va_Pc [.ref (h 9), .int nd] (PX dC dI k (TE g) (WE h g len fp many tlen tat qlen md gat kind (.ref (k wi)) (.ref (k ti)) gs th st rq bl te og sc kd sr wo sa qb du) sz)) (va_Qi (fun (r : Int32) (u : Unit) => narrow .boolean (.int r) = .int r) (fun u t => BX dC dI (TE g) (va_A (WE h g len fp many tlen tat qlen md gat kind (.ref (k wi)) (.ref (k ti)) gs th st rq bl te og sc kd sr wo sa qb du) sz) (WE h g len fp many tlen tat qlen md gat kind (.ref (k wi)) (.ref (k ti)) gs th st rq bl te og sc kd sr wo sa qb du) t) (va_A (WE h g len fp many tlen tat qlen md gat kind (.ref (k wi)) (.ref (k ti)) gs th st rq bl te og sc kd sr wo sa qb du) sz)) 0 0 (va_A (WE h g len fp many tlen tat qlen md gat kind (.ref (k wi)) (.ref (k ti)) gs th st rq bl te og sc kd sr wo sa qb du) sz) := by
  refine Met.ofW (cc := b_G_lacks) (maxL := 2) (ret := (some .boolean)) (by decide) rfl ?_
  intro p e s m args below meth c s₁ B hml hv
  obtain ⟨rfl, hsz, hE, hP, hK, hD0⟩ := hv
  have hx := B.exec
  have hb := B.bytes
  have hr := B.returns
  have ht : ∀ w ∈ TT, w.before _ s = true := fun w hw => atoms_spec (ws := .code y_G_lacks b_G_lacks 2 (some .boolean) :: TT) B.pre w (List.mem_cons_of_mem _ hw)
  have hown : s.vm.findClass "SieveDesk$Grammar" = some m.cls := findClass_of_methodNamed B.named
  have hlocks := B.notSynchronized
  subst hsz
  have hD := hD0.self (sz := s.heap.size)
  generalize hAe : va_A (WE h g len fp many tlen tat qlen md gat kind (.ref (k wi)) (.ref (k ti)) gs th st rq bl te og sc kd sr wo sa qb du) s.heap.size = A at hE hD ⊢
  have hA : ∀ q : Nat, s.heap.size ≤ q → A q := fun q h9 => by rw [← hAe]; exact Or.inr h9
  have hS : va_S A s.heap s.heap [] := va_S.rf
  have hl := lv_entry ([.ref (h 9), .int nd]) (n := 2) (Nat.le_of_ble_eq_true rfl)
  rw [lg_entry_eq]
  generalize (lg_sl ([.ref (h 9), .int nd]) ++ List.replicate (2 - (lg_sl ([.ref (h 9), .int nd])).length) Slot.unset).toArray = ls at hl ⊢
  have hl : lv_has ls 2 [(0, .ref (h 9)), (1, .int nd)] := hl
  exact bd_G_lacks_0 (nd := nd) hx hb hml hown ht hE hA hK  (fun r u H locs pc ls hd hn hp hP hD hS => W.zret hx hb hr hn (fun t het hW => ⟨⟨r, u, rfl, hp, by rw [het]; exact hP, va_K.moved hW.alike hK, hD⟩, hS.F het⟩) hS.2.2 hd)   _ _ ls hP hD hS hl
set_option maxHeartbeats 4000000 in
set_option maxRecDepth 100000 in
theorem bd_G_follow_0 {p : Program} {l : Launch} {e : Env} {s : State} {m : MethodId} {args : Array Value} {below : List Frame} {meth : Method} {c : Code} {Q : State → Prop} {A : Nat → Prop} {dC : Nat → ClassId} {dI : Nat → Nat → Nat} {k h : Nat → Nat} {g : Nat → ClassId} {len : Int32} {fp : Int32} {many : Int32} {tlen : Int32} {tat : Int32} {qlen : Int32} {th : Int32} {st : Int32} {rq : Int32} {bl : Int32} {te : Int32} {og : Int32} {sc : Nat → Int32} {kd : Nat → Int32} {sr : Nat → Int32} {sa : Nat → Int32} {qb : Nat → Int32} {wo : Nat → Option Nat} (hx : p.tables.exec = Jvm.exec) (hb : c.code = b_G_follow) (hml : c.maxLocals = 2) (hown : s.vm.findClass "SieveDesk$Grammar" = some m.cls) (ht : ∀ w ∈ TT, w.before args s = true) (hE : KE k A s s.heap) (hA : ∀ q : Nat, s.heap.size ≤ q → A q) (hK : va_K (dC, dI) cls (TE g) s) {wq : Nat} (h_0 : 0 ≤ Int32.toInt many) (h_1 : Int32.toInt many ≤ 401) (h_2 : WOk k wo) (h_3 : wq < 43) (fin : ∀ (r : Int32) (u : Int32 × (Nat → Int32) × Int32 × Int32 × Nat × Nat × Int32) (H : Heap) (locs : List Loc) (pc : Nat) (ls : Array Slot), decode b_G_follow pc = .ok (.ireturn, 1) → narrow .boolean (.int r) = .int r → (0 ≤ Int32.toInt u.1 ∧ Int32.toInt u.1 ≤ 200 ∧ -1 ≤ Int32.toInt u.2.2.1 ∧ Int32.toInt u.2.2.1 ≤ 400 ∧ u.2.2.2.2.1 < 43 ∧ u.2.2.2.2.2.1 < 43 ∧ narrow .boolean (.int r) = .int r) → va_P (dC, dI) cls (WE h g len fp many tlen tat qlen u.1 u.2.2.1 u.2.2.2.1 (.ref (k u.2.2.2.2.1)) (.ref (k u.2.2.2.2.2.1)) u.2.2.2.2.2.2 th st rq bl te og sc kd sr wo sa qb u.2.1) H → va_D A (WE h g len fp many tlen tat qlen u.1 u.2.2.1 u.2.2.2.1 (.ref (k u.2.2.2.2.1)) (.ref (k u.2.2.2.2.2.1)) u.2.2.2.2.2.2 th st rq bl te og sc kd sr wo sa qb u.2.1) → va_S A s.heap H locs → W p l e ({ frames := 5, cells := 0, slots := 0, locals := 107 } : Room) s m args below meth c H locs 0 0 Q (F0 m pc ls [.int r])) : ∀ (md : Int32) (du : Nat → Int32) (gat : Int32) (kind : Int32) (wi : Nat) (ti : Nat) (gs : Int32), 0 ≤ Int32.toInt md → Int32.toInt md ≤ 200 → -1 ≤ Int32.toInt gat → Int32.toInt gat ≤ 400 → wi < 43 → ti < 43 → ∀ (H : Heap) (locs : List Loc) (ls : Array Slot), va_P (dC, dI) cls (WE h g len fp many tlen tat qlen md gat kind (.ref (k wi)) (.ref (k ti)) gs th st rq bl te og sc kd sr wo sa qb du) H → va_D A (WE h g len fp many tlen tat qlen md gat kind (.ref (k wi)) (.ref (k ti)) gs th st rq bl te og sc kd sr wo sa qb du) → va_S A s.heap H locs → lv_has ls 2 [(0, .ref (h 9)), (1, .ref (k wq))] → W p l e ({ frames := 5, cells := 0, slots := 0, locals := 107 } : Room) s m args below meth c H locs 0 0 Q (F0 m 0 ls []) := by
  intro md du gat kind wi ti gs v_0 v_1 v_2 v_3 v_4 v_5 H locs ls hP hD hS hl
  refine lv_aload_n hx hb d_G_follow_0 rfl (lv_at hl 0 rfl) ?_
  refine lv_aload_n hx hb d_G_follow_1 rfl (lv_at hl 1 rfl) ?_
  refine vk_getfN hx hb (ke_w hE (i := wq) (by omega)).2.2.2.2.2 hS hown (nw_use n_872 (hE.1 _ n_872)) (fun _ h9 => h9) d_G_follow_2 ?_
  have hFc := va_free (wc := (WE h g len fp many tlen tat qlen md gat kind (.ref (k wi)) (.ref (k ti)) gs th st rq bl te og sc kd sr wo sa qb du)) hD hS hA [0, 1, 2, 3, 4, 5, 6, 7, 8, 9, 10] rfl
  refine va_callv (va_runV (As := [.ref (k (100 + (2 * wq + 1)))]) (rest := []) ⟨hx, hb, hml, hown, ht⟩ (c_G_expect l dC dI k h g len fp many tlen tat qlen md gat kind gs th st rq bl te og wi ti sc kd sr sa qb du wo (2 * wq + 1) _ (by omega) (by omega) (by omega)) (cwV 1 ht (g_V k_471 k_473 k_22 k_77 k_474) rfl rfl rfl (by decide +kernel) ⟨(Nat.le_of_ble_eq_true rfl), (Nat.le_of_ble_eq_true rfl)⟩) ⟨fb_X, va_recv hK hP (ci := 3) (q0 := 9) rfl rfl, pre_X hE hS hFc hP hK hD⟩ rfl rfl hl.1 rfl (lv_room (Nat.le_of_ble_eq_true rfl)) d_G_follow_5 ⟨(Nat.le_of_ble_eq_true rfl), (Nat.le_of_ble_eq_true rfl)⟩) hS (fun q _ h9 => hFc q h9) hFc (fun u_3 t H locs het hvm hw hB hz1 hk1 hS => ?_)
  obtain ⟨md_1, du_2⟩ := u_3
  try dsimp only at hw
  obtain ⟨p_5, p_6⟩ := hw
  obtain ⟨hP1, hK1, hD1⟩ := hB
  rw [het] at hP1
  have hP : va_P (dC, dI) cls (WE h g len fp many tlen tat qlen md_1 gat kind (.ref (k wi)) (.ref (k ti)) gs th st rq bl te og sc kd sr wo sa qb du_2) H := hP1
  have hD : va_D A (WE h g len fp many tlen tat qlen md_1 gat kind (.ref (k wi)) (.ref (k ti)) gs th st rq bl te og sc kd sr wo sa qb du_2) := hD1.weaken (fun _ _ _ h9 => hFc _ h9)
  refine lv_aload_n hx hb d_G_follow_8 rfl (lv_at hl 0 rfl) ?_
  have hFc := va_free (wc := (WE h g len fp many tlen tat qlen md_1 gat kind (.ref (k wi)) (.ref (k ti)) gs th st rq bl te og sc kd sr wo sa qb du_2)) hD hS hA [0, 1, 2, 3, 4, 5, 6, 7, 8, 9, 10] rfl
  refine va_callv (va_runV (As := []) (rest := []) ⟨hx, hb, hml, hown, ht⟩ (c_G_advance l dC dI k h g len fp many tlen tat qlen md_1 gat kind gs th st rq bl te og wi ti sc kd sr sa qb du_2 wo  _ (by omega) (by omega) h_2 (by omega) (by omega) (by omega) (by omega)) (cwV 0 ht (g_V k_466 k_468 k_21 k_77 k_469) rfl rfl rfl (by decide +kernel) ⟨(Nat.le_of_ble_eq_true rfl), (Nat.le_of_ble_eq_true rfl)⟩) ⟨fb_X, va_recv hK hP (ci := 3) (q0 := 9) rfl rfl, pre_X hE hS hFc hP hK hD⟩ rfl rfl hl.1 rfl (lv_room (Nat.le_of_ble_eq_true rfl)) d_G_follow_9 ⟨(Nat.le_of_ble_eq_true rfl), (Nat.le_of_ble_eq_true rfl)⟩) hS (fun q _ h9 => hFc q h9) hFc (fun u_12 t H locs het hvm hw hB hz1 hk1 hS => ?_)
  obtain ⟨gat_7, kind_8, wi_9, ti_10, gs_11⟩ := u_12
  try dsimp only at hw
  obtain ⟨p_14, p_15, p_16, p_17⟩ := hw
  obtain ⟨hP1, hK1, hD1⟩ := hB
  rw [het] at hP1
  have hP : va_P (dC, dI) cls (WE h g len fp many tlen tat qlen md_1 gat_7 kind_8 (.ref (k wi_9)) (.ref (k ti_10)) gs_11 th st rq bl te og sc kd sr wo sa qb du_2) H := hP1
  have hD : va_D A (WE h g len fp many tlen tat qlen md_1 gat_7 kind_8 (.ref (k wi_9)) (.ref (k ti_10)) gs_11 th st rq bl te og sc kd sr wo sa qb du_2) := hD1.weaken (fun _ _ _ h9 => hFc _ h9)
  refine lv_iconst (v := 1) hx hb d_G_follow_12 (by decide) ?_
  have hc_1 : Int32.toInt 1 = 1 := by decide
  exact fin 1 (md_1, du_2, gat_7, kind_8, wi_9, ti_10, gs_11) _ _ _ ls d_G_follow_13 rfl ⟨(by (try dsimp only); omega), (by (try dsimp only); omega), (by (try dsimp only); omega), (by (try dsimp only); omega), (by (try dsimp only); omega), (by (try dsimp only); omega), rfl⟩ hP hD hS
set_option maxHeartbeats 4000000 in
set_option maxRecDepth 100000 in
theorem c_G_follow (l : Launch) (dC : Nat → ClassId) (dI : Nat → Nat → Nat) (k : Nat → Nat) (h : Nat → Nat) (g : Nat → ClassId) (len : Int32) (fp : Int32) (many : Int32) (tlen : Int32) (tat : Int32) (qlen : Int32) (md : Int32) (gat : Int32) (kind : Int32) (gs : Int32) (th : Int32) (st : Int32) (rq : Int32) (bl : Int32) (te : Int32) (og : Int32) (wi : Nat) (ti : Nat) (sc : Nat → Int32) (kd : Nat → Int32) (sr : Nat → Int32) (sa : Nat → Int32) (qb : Nat → Int32) (du : Nat → Int32) (wo : Nat → Option Nat) (wq : Nat) (sz : Nat) (h_0 : 0 ≤ Int32.toInt many) (h_1 : Int32.toInt many ≤ 401) (h_2 : WOk k wo) (h_3 : wq < 43) (v_0 : 0 ≤ Int32.toInt md) (v_1 : Int32.toInt md ≤ 200) (v_2 : -1 ≤ Int32.toInt gat) (v_3 : Int32.toInt gat ≤ 400) (v_4 : wi < 43) (v_5 : ti < 43) : Met l y_G_follow (.code y_G_follow b_G_follow 2 (some .boolean) :: TT) ({ frames := 5, cells := 0, slots := 0, locals := 107 }) (va_Pc [.ref (h 9), .ref (k wq)] (PX dC dI k (TE g) (WE h g len fp many tlen tat qlen md gat kind (.ref (k wi)) (.ref (k ti)) gs th st rq bl te og sc kd sr wo sa qb du) sz)) (va_Qi (fun (r : Int32) (u : Int32 × (Nat → Int32) × Int32 × Int32 × Nat × Nat × Int32) => 0 ≤ Int32.toInt u.1 ∧ Int32.toInt u.1 ≤ 200 ∧ -1 ≤ Int32.toInt u.2.2.1 ∧ Int32.toInt u.2.2.1 ≤ 400 ∧ u.2.2.2.2.1 < 43 ∧ u.2.2.2.2.2.1 < 43 ∧ narrow .boolean (.int r) = .int r) (fun u t => BX dC dI (TE g) (va_A (WE h g len fp many tlen tat qlen md gat kind (.ref (k wi)) (.ref (k ti)) gs th st rq bl te og sc kd sr wo sa qb du) sz) (WE h g len fp many tlen tat qlen u.1 u.2.2.1 u.2.2.2.1 (.ref (k u.2.2.2.2.1)) (.ref (k u.2.2.2.2.2.1)) u.2.2.2.2.2.2 th st rq bl te og sc kd sr wo sa qb u.2.1) t) (va_A (WE h g len fp many tlen tat qlen md gat kind (.ref (k wi)) (.ref (k ti)) gs th st rq bl te og sc kd sr wo sa qb du) sz)) 0 0 (va_A (WE h g len fp many tlen tat qlen md gat kind (.ref (k wi)) (.ref (k ti)) gs th st rq bl te og sc kd sr wo sa qb du) sz) := by
  refine Met.ofW (cc := b_G_follow) (maxL := 2) (ret := (some .boolean)) (by decide) rfl ?_
  intro p e s m args below meth c s₁ B hml hv
  obtain ⟨rfl, hsz, hE, hP, hK, hD0⟩ := hv
  have hx := B.exec
  have hb := B.bytes
  have hr := B.returns
  have ht : ∀ w ∈ TT, w.before _ s = true := fun w hw => atoms_spec (ws := .code y_G_follow b_G_follow 2 (some .boolean) :: TT) B.pre w (List.mem_cons_of_mem _ hw)
  have hown : s.vm.findClass "SieveDesk$Grammar" = some m.cls := findClass_of_methodNamed B.named
  have hlocks := B.notSynchronized
  subst hsz
  have hD := hD0.self (sz := s.heap.size)
  generalize hAe : va_A (WE h g len fp many tlen tat qlen md gat kind (.ref (k wi)) (.ref (k ti)) gs th st rq bl te og sc kd sr wo sa qb du) s.heap.size = A at hE hD ⊢
  have hA : ∀ q : Nat, s.heap.size ≤ q → A q := fun q h9 => by rw [← hAe]; exact Or.inr h9
  have hS : va_S A s.heap s.heap [] := va_S.rf
  have hl := lv_entry ([.ref (h 9), .ref (k wq)]) (n := 2) (Nat.le_of_ble_eq_true rfl)
  rw [lg_entry_eq]
  generalize (lg_sl ([.ref (h 9), .ref (k wq)]) ++ List.replicate (2 - (lg_sl ([.ref (h 9), .ref (k wq)])).length) Slot.unset).toArray = ls at hl ⊢
  have hl : lv_has ls 2 [(0, .ref (h 9)), (1, .ref (k wq))] := hl
  exact bd_G_follow_0 (wq := wq) hx hb hml hown ht hE hA hK h_0 h_1 h_2 h_3 (fun r u H locs pc ls hd hn hp hP hD hS => W.zret hx hb hr hn (fun t het hW => ⟨⟨r, u, rfl, hp, by rw [het]; exact hP, va_K.moved hW.alike hK, hD⟩, hS.F het⟩) hS.2.2 hd) md du gat kind wi ti gs v_0 v_1 v_2 v_3 v_4 v_5 _ _ ls hP hD hS hl

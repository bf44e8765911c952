set_option maxHeartbeats 4000000 in
set_option maxRecDepth 100000 in
theorem bd_Q_empty_0 {p : Program} {l : Launch} {e : Env} {s : State} {m : MethodId} {args : Array Value} {below : List Frame} {meth : Method} {c : Code} {Q : State → Prop} {A : Nat → Prop} {dC : Nat → ClassId} {dI : Nat → Nat → Nat} {k h : Nat → Nat} {g : Nat → ClassId} {len : Int32} {fp : Int32} {many : Int32} {tlen : Int32} {tat : Int32} {md : Int32} {gat : Int32} {kind : Int32} {gs : Int32} {th : Int32} {st : Int32} {rq : Int32} {bl : Int32} {te : Int32} {og : Int32} {wi : Nat} {ti : Nat} {sc : Nat → Int32} {kd : Nat → Int32} {sr : Nat → Int32} {sa : Nat → Int32} {qb : Nat → Int32} {du : Nat → Int32} {wo : Nat → Option Nat} (hx : p.tables.exec = Jvm.exec) (hb : c.code = b_Q_empty) (hml : c.maxLocals = 1) (hown : s.vm.findClass "SieveDesk$Quoted" = some m.cls) (ht : ∀ w ∈ TT, w.before args s = true) (hE : KE k A s s.heap) (hA : ∀ q : Nat, s.heap.size ≤ q → A q) (hK : va_K (dC, dI) cls (TE g) s)   (fin : ∀ (u : Int32) (H : Heap) (locs : List Loc) (pc : Nat) (ls : Array Slot), decode b_Q_empty pc = .ok (.return_, 1) → (0 ≤ Int32.toInt u ∧ Int32.toInt u ≤ 200 ∧ Int32.toInt u = 0) → va_P (dC, dI) cls (WE h g len fp many tlen tat u md gat kind (.ref (k wi)) (.ref (k ti)) gs th st rq bl te og sc kd sr wo sa qb du) H → va_D A (WE h g len fp many tlen tat u md gat kind (.ref (k wi)) (.ref (k ti)) gs th st rq bl te og sc kd sr wo sa qb du) → va_S A s.heap H locs → W p l e ({ frames := 0, cells := 0, slots := 0, locals := 0 } : Room) s m args below meth c H locs 0 0 Q (F0 m pc ls [])) : ∀ (qlen : Int32), ∀ (H : Heap) (locs : List Loc) (ls : Array Slot), va_P (dC, dI) cls (WE h g len fp many tlen tat qlen md gat kind (.ref (k wi)) (.ref (k ti)) gs th st rq bl te og sc kd sr wo sa qb du) H → va_D A (WE h g len fp many tlen tat qlen md gat kind (.ref (k wi)) (.ref (k ti)) gs th st rq bl te og sc kd sr wo sa qb du) → va_S A s.heap H locs → lv_has ls 1 [(0, .ref (h 7))] → W p l e ({ frames := 0, cells := 0, slots := 0, locals := 0 } : Room) s m args below meth c H locs 0 0 Q (F0 m 0 ls []) := by
  intro qlen H locs ls hP hD hS hl
  refine lv_aload_n hx hb d_Q_empty_0 rfl (lv_at hl 0 rfl) ?_
  refine lv_iconst (v := 0) hx hb d_Q_empty_1 (by decide) ?_
  refine va_put (D := (dC, dI)) (ci := 2) (v := .int 0) (ty := .int) (C := "SieveDesk$Quoted") (T := F_Q) (N := 2) hx hb ht i_Q ty_Q ty_Q_ok n_Q hown hK hP hD hS 7 rfl rfl 1 (by decide) (ht _ k_111) (fun _ h9 => h9) rfl (ty_Q_ok 1 (by decide)) rfl rfl (Nat.le_of_ble_eq_true rfl) d_Q_empty_2 (fun H locs hP hD hS => ?_)
  have hP : va_P (dC, dI) cls (WE h g len fp many tlen tat 0 md gat kind (.ref (k wi)) (.ref (k ti)) gs th st rq bl te og sc kd sr wo sa qb du) H := hP
  have hD : va_D A (WE h g len fp many tlen tat 0 md gat kind (.ref (k wi)) (.ref (k ti)) gs th st rq bl te og sc kd sr wo sa qb du) := hD
  have hc_0 : Int32.toInt 0 = 0 := by decide
  exact fin  0 _ _ _ ls d_Q_empty_5 ⟨(by (try dsimp only); omega), (by (try dsimp only); omega), (by (try dsimp only); omega)⟩ hP hD hS
set_option maxHeartbeats 4000000 in
set_option maxRecDepth 100000 in
theorem c_Q_empty (l : Launch) (dC : Nat → ClassId) (dI : Nat → Nat → Nat) (k : Nat → Nat) (h : Nat → Nat) (g : Nat → ClassId) (len : Int32) (fp : Int32) (many : Int32) (tlen : Int32) (tat : Int32) (qlen : Int32) (md : Int32) (gat : Int32) (kind : Int32) (gs : Int32) (th : Int32) (st : Int32) (rq : Int32) (bl : Int32) (te : Int32) (og : Int32) (wi : Nat) (ti : Nat) (sc : Nat → Int32) (kd : Nat → Int32) (sr : Nat → Int32) (sa : Nat → Int32) (qb : Nat → Int32) (du : Nat → Int32) (wo : Nat → Option Nat)  (sz : Nat)   : Met l y_Q_empty (.code y_Q_empty b_Q_empty 1 none :: TT) ({ frames := 0, cells := 0, slots := 0, locals := 0 }) (va_Pc [.ref (h 7)] (PX dC dI k (TE g) (WE h g len fp many tlen tat qlen md gat kind (.ref (k wi)) (.ref (k ti)) gs th st rq bl te og sc kd sr wo sa qb du) sz)) (va_Qv (fun u : Int32 => 0 ≤ Int32.toInt u ∧ Int32.toInt u ≤ 200 ∧ Int32.toInt u = 0) (fun u t => BX dC dI (TE g) (va_A (WE h g len fp many tlen tat qlen md gat kind (.ref (k wi)) (.ref (k ti)) gs th st rq bl te og sc kd sr wo sa qb du) sz) (WE h g len fp many tlen tat u md gat kind (.ref (k wi)) (.ref (k ti)) gs th st rq bl te og sc kd sr wo sa qb du) t) (va_A (WE h g len fp many tlen tat qlen md gat kind (.ref (k wi)) (.ref (k ti)) gs th st rq bl te og sc kd sr wo sa qb du) sz)) 0 0 (va_A (WE h g len fp many tlen tat qlen md gat kind (.ref (k wi)) (.ref (k ti)) gs th st rq bl te og sc kd sr wo sa qb du) sz) := by
  refine Met.ofW (cc := b_Q_empty) (maxL := 1) (ret := none) (by decide) rfl ?_
  intro p e s m args below meth c s₁ B hml hv
  obtain ⟨rfl, hsz, hE, hP, hK, hD0⟩ := hv
  have hx := B.exec
  have hb := B.bytes
  have hr := B.returns
  have ht : ∀ w ∈ TT, w.before _ s = true := fun w hw => atoms_spec (ws := .code y_Q_empty b_Q_empty 1 none :: TT) B.pre w (List.mem_cons_of_mem _ hw)
  have hown : s.vm.findClass "SieveDesk$Quoted" = some m.cls := findClass_of_methodNamed B.named
  have hlocks := B.notSynchronized
  subst hsz
  have hD := hD0.self (sz := s.heap.size)
  generalize hAe : va_A (WE h g len fp many tlen tat qlen md gat kind (.ref (k wi)) (.ref (k ti)) gs th st rq bl te og sc kd sr wo sa qb du) s.heap.size = A at hE hD ⊢
  have hA : ∀ q : Nat, s.heap.size ≤ q → A q := fun q h9 => by rw [← hAe]; exact Or.inr h9
  have hS : va_S A s.heap s.heap [] := va_S.rf
  have hl := lv_entry ([.ref (h 7)]) (n := 1) (Nat.le_of_ble_eq_true rfl)
  rw [lg_entry_eq]
  generalize (lg_sl ([.ref (h 7)]) ++ List.replicate (1 - (lg_sl ([.ref (h 7)])).length) Slot.unset).toArray = ls at hl ⊢
  have hl : lv_has ls 1 [(0, .ref (h 7))] := hl
  exact bd_Q_empty_0  hx hb hml hown ht hE hA hK  (fun u H locs pc ls hd hp hP hD hS => W.vret hx hb hr (fun t het hW => ⟨⟨u, rfl, hp, by rw [het]; exact hP, va_K.moved hW.alike hK, hD⟩, hS.F het⟩) hS.2.2 hd) qlen  _ _ ls hP hD hS hl
set_option maxHeartbeats 4000000 in
set_option maxRecDepth 100000 in
theorem bd_Q_add_0 {p : Program} {l : Launch} {e : Env} {s : State} {m : MethodId} {args : Array Value} {below : List Frame} {meth : Method} {c : Code} {Q : State → Prop} {A : Nat → Prop} {dC : Nat → ClassId} {dI : Nat → Nat → Nat} {k h : Nat → Nat} {g : Nat → ClassId} {len : Int32} {fp : Int32} {many : Int32} {tlen : Int32} {tat : Int32} {md : Int32} {gat : Int32} {kind : Int32} {gs : Int32} {th : Int32} {st : Int32} {rq : Int32} {bl : Int32} {te : Int32} {og : Int32} {wi : Nat} {ti : Nat} {sc : Nat → Int32} {kd : Nat → Int32} {sr : Nat → Int32} {sa : Nat → Int32} {du : Nat → Int32} {wo : Nat → Option Nat} (hx : p.tables.exec = Jvm.exec) (hb : c.code = b_Q_add) (hml : c.maxLocals = 2) (hown : s.vm.findClass "SieveDesk$Quoted" = some m.cls) (ht : ∀ w ∈ TT, w.before args s = true) (hE : KE k A s s.heap) (hA : ∀ q : Nat, s.heap.size ≤ q → A q) (hK : va_K (dC, dI) cls (TE g) s) {b : Int32}  (fin : ∀ (r : Int32) (u : Int32 × (Nat → Int32)) (H : Heap) (locs : List Loc) (pc : Nat) (ls : Array Slot), decode b_Q_add pc = .ok (.ireturn, 1) → narrow .boolean (.int r) = .int r → (0 ≤ Int32.toInt u.1 ∧ Int32.toInt u.1 ≤ 200 ∧ narrow .boolean (.int r) = .int r) → va_P (dC, dI) cls (WE h g len fp many tlen tat u.1 md gat kind (.ref (k wi)) (.ref (k ti)) gs th st rq bl te og sc kd sr wo sa u.2 du) H → va_D A (WE h g len fp many tlen tat u.1 md gat kind (.ref (k wi)) (.ref (k ti)) gs th st rq bl te og sc kd sr wo sa u.2 du) → va_S A s.heap H locs → W p l e ({ frames := 0, cells := 0, slots := 0, locals := 0 } : Room) s m args below meth c H locs 0 0 Q (F0 m pc ls [.int r])) : ∀ (qlen : Int32) (qb : Nat → Int32), 0 ≤ Int32.toInt qlen → Int32.toInt qlen ≤ 200 → ∀ (H : Heap) (locs : List Loc) (ls : Array Slot), va_P (dC, dI) cls (WE h g len fp many tlen tat qlen md gat kind (.ref (k wi)) (.ref (k ti)) gs th st rq bl te og sc kd sr wo sa qb du) H → va_D A (WE h g len fp many tlen tat qlen md gat kind (.ref (k wi)) (.ref (k ti)) gs th st rq bl te og sc kd sr wo sa qb du) → va_S A s.heap H locs → lv_has ls 2 [(0, .ref (h 7)), (1, .int b)] → W p l e ({ frames := 0, cells := 0, slots := 0, locals := 0 } : Room) s m args below meth c H locs 0 0 Q (F0 m 0 ls []) := by
  intro qlen qb v_0 v_1 H locs ls hP hD hS hl
  refine lv_aload_n hx hb d_Q_add_0 rfl (lv_at hl 0 rfl) ?_
  refine va_get (D := (dC, dI)) (ci := 2) (v := .int qlen) (C := "SieveDesk$Quoted") (T := F_Q) (N := 2) hx hb ht i_Q hown hK hP 7 rfl rfl 1 (by decide) (ht _ k_111) (fun _ h9 => h9) rfl d_Q_add_1 ?_
  refine lv_aload_n hx hb d_Q_add_4 rfl (lv_at hl 0 rfl) ?_
  refine va_get (D := (dC, dI)) (ci := 2) (v := .ref (h 8)) (C := "SieveDesk$Quoted") (T := F_Q) (N := 2) hx hb ht i_Q hown hK hP 7 rfl rfl 0 (by decide) (ht _ k_110) (fun _ h9 => h9) rfl d_Q_add_5 ?_
  refine va_alen (v := 200) hx hb hK hP 8 5 rfl rfl rfl d_Q_add_8 ?_
  refine lv_icmp_lt (tgt := 14) hx hb d_Q_add_9 (by decide) (fun c_1 => ?_) (fun c_1 => ?_)
  · have dc_1 := i_lt c_1 rfl (show Int32.toInt 200 = 200 by decide)
    refine lv_aload_n hx hb d_Q_add_14 rfl (lv_at hl 0 rfl) ?_
    refine va_get (D := (dC, dI)) (ci := 2) (v := .ref (h 8)) (C := "SieveDesk$Quoted") (T := F_Q) (N := 2) hx hb ht i_Q hown hK hP 7 rfl rfl 0 (by decide) (ht _ k_110) (fun _ h9 => h9) rfl d_Q_add_15 ?_
    refine lv_aload_n hx hb d_Q_add_18 rfl (lv_at hl 0 rfl) ?_
    refine va_get (D := (dC, dI)) (ci := 2) (v := .int qlen) (C := "SieveDesk$Quoted") (T := F_Q) (N := 2) hx hb ht i_Q hown hK hP 7 rfl rfl 1 (by decide) (ht _ k_111) (fun _ h9 => h9) rfl d_Q_add_19 ?_
    refine lv_iload_n hx hb d_Q_add_22 rfl (lv_at hl 1 rfl) ?_
    refine lv_i2b (v := (Int8.toInt32 (Int32.toInt8 b))) hx hb d_Q_add_23 rfl ?_
    refine va_bast hx hb hK hP hD hS 8 5 rfl rfl (i_in rfl (by omega) (by omega)) d_Q_add_24 (fun H locs hP hD hS => ?_)
    have hP : va_P (dC, dI) cls (WE h g len fp many tlen tat qlen md gat kind (.ref (k wi)) (.ref (k ti)) gs th st rq bl te og sc kd sr wo sa (upd qb (Int32.toNatClampNeg qlen) (vp_nar .byte (Int8.toInt32 (Int32.toInt8 b)))) du) H := hP
    have hD : va_D A (WE h g len fp many tlen tat qlen md gat kind (.ref (k wi)) (.ref (k ti)) gs th st rq bl te og sc kd sr wo sa (upd qb (Int32.toNatClampNeg qlen) (vp_nar .byte (Int8.toInt32 (Int32.toInt8 b)))) du) := hD
    refine lv_aload_n hx hb d_Q_add_25 rfl (lv_at hl 0 rfl) ?_
    refine lv_dup hx hb d_Q_add_26 rfl ?_
    refine va_get (D := (dC, dI)) (ci := 2) (v := .int qlen) (C := "SieveDesk$Quoted") (T := F_Q) (N := 2) hx hb ht i_Q hown hK hP 7 rfl rfl 1 (by decide) (ht _ k_111) (fun _ h9 => h9) rfl d_Q_add_27 ?_
    refine lv_iconst (v := 1) hx hb d_Q_add_30 (by decide) ?_
    refine lv_iadd hx hb d_Q_add_31 ?_
    have e_2 : Int32.toInt (qlen + 1) = (Int32.toInt qlen) + 1 := i_add rfl (show Int32.toInt 1 = 1 by decide) (by omega) (by omega)
    refine va_put (D := (dC, dI)) (ci := 2) (v := .int (qlen + 1)) (ty := .int) (C := "SieveDesk$Quoted") (T := F_Q) (N := 2) hx hb ht i_Q ty_Q ty_Q_ok n_Q hown hK hP hD hS 7 rfl rfl 1 (by decide) (ht _ k_111) (fun _ h9 => h9) rfl (ty_Q_ok 1 (by decide)) rfl rfl (Nat.le_of_ble_eq_true rfl) d_Q_add_32 (fun H locs hP hD hS => ?_)
    have hP : va_P (dC, dI) cls (WE h g len fp many tlen tat (qlen + 1) md gat kind (.ref (k wi)) (.ref (k ti)) gs th st rq bl te og sc kd sr wo sa (upd qb (Int32.toNatClampNeg qlen) (vp_nar .byte (Int8.toInt32 (Int32.toInt8 b)))) du) H := hP
    have hD : va_D A (WE h g len fp many tlen tat (qlen + 1) md gat kind (.ref (k wi)) (.ref (k ti)) gs th st rq bl te og sc kd sr wo sa (upd qb (Int32.toNatClampNeg qlen) (vp_nar .byte (Int8.toInt32 (Int32.toInt8 b)))) du) := hD
    refine lv_iconst (v := 1) hx hb d_Q_add_35 (by decide) ?_
    have hc_1 : Int32.toInt 1 = 1 := by decide
    exact fin 1 ((qlen + 1), (upd qb (Int32.toNatClampNeg qlen) (vp_nar .byte (Int8.toInt32 (Int32.toInt8 b))))) _ _ _ ls d_Q_add_36 rfl ⟨(by (try dsimp only); omega), (by (try dsimp only); omega), rfl⟩ hP hD hS
  · have dc_1 := i_nlt c_1 rfl (show Int32.toInt 200 = 200 by decide)
    refine lv_iconst (v := 0) hx hb d_Q_add_12 (by decide) ?_
    have hc_0 : Int32.toInt 0 = 0 := by decide
    exact fin 0 (qlen, qb) _ _ _ ls d_Q_add_13 rfl ⟨(by (try dsimp only); omega), (by (try dsimp only); omega), rfl⟩ hP hD hS
set_option maxHeartbeats 4000000 in
set_option maxRecDepth 100000 in
theorem c_Q_add (l : Launch) (dC : Nat → ClassId) (dI : Nat → Nat → Nat) (k : Nat → Nat) (h : Nat → Nat) (g : Nat → ClassId) (len : Int32) (fp : Int32) (many : Int32) (tlen : Int32) (tat : Int32) (qlen : Int32) (md : Int32) (gat : Int32) (kind : Int32) (gs : Int32) (th : Int32) (st : Int32) (rq : Int32) (bl : Int32) (te : Int32) (og : Int32) (wi : Nat) (ti : Nat) (sc : Nat → Int32) (kd : Nat → Int32) (sr : Nat → Int32) (sa : Nat → Int32) (qb : Nat → Int32) (du : Nat → Int32) (wo : Nat → Option Nat) (b : Int32) (sz : Nat)  (v_0 : 0 ≤ Int32.toInt qlen) (v_1 : Int32.toInt qlen ≤ 200) : Met l y_Q_add (.code y_Q_add b_Q_add 2 (some .boolean) :: TT) ({ frames := 0, cells := 0, slots := 0, locals := 0 }) (va_Pc [.ref (h 7), .int b] (PX dC dI k (TE g) (WE h g len fp many tlen tat qlen md gat kind (.ref (k wi)) (.ref (k ti)) gs th st rq bl te og sc kd sr wo sa qb du) sz)) (va_Qi (fun (r : Int32) (u : Int32 × (Nat → Int32)) => 0 ≤ Int32.toInt u.1 ∧ Int32.toInt u.1 ≤ 200 ∧ narrow .boolean (.int r) = .int r) (fun u t => BX dC dI (TE g) (va_A (WE h g len fp many tlen tat qlen md gat kind (.ref (k wi)) (.ref (k ti)) gs th st rq bl te og sc kd sr wo sa qb du) sz) (WE h g len fp many tlen tat u.1 md gat kind (.ref (k wi)) (.ref (k ti)) gs th st rq bl te og sc kd sr wo sa u.2 du) t) (va_A (WE h g len fp many tlen tat qlen md gat kind (.ref (k wi)) (.ref (k ti)) gs th st rq bl te og sc kd sr wo sa qb du) sz)) 0 0 (va_A (WE h g len fp many tlen tat qlen md gat kind (.ref (k wi)) (.ref (k ti)) gs th st rq bl te og sc kd sr wo sa qb du) sz) := by
  refine Met.ofW (cc := b_Q_add) (maxL := 2) (ret := (some .boolean)) (by decide) rfl ?_
  intro p e s m args below meth c s₁ B hml hv
  obtain ⟨rfl, hsz, hE, hP, hK, hD0⟩ := hv
  have hx := B.exec
  have hb := B.bytes
  have hr := B.returns
  have ht : ∀ w ∈ TT, w.before _ s = true := fun w hw => atoms_spec (ws := .code y_Q_add b_Q_add 2 (some .boolean) :: TT) B.pre w (List.mem_cons_of_mem _ hw)
  have hown : s.vm.findClass "SieveDesk$Quoted" = some m.cls := findClass_of_methodNamed B.named
  have hlocks := B.notSynchronized
  subst hsz
  have hD := hD0.self (sz := s.heap.size)
  generalize hAe : va_A (WE h g len fp many tlen tat qlen md gat kind (.ref (k wi)) (.ref (k ti)) gs th st rq bl te og sc kd sr wo sa qb du) s.heap.size = A at hE hD ⊢
  have hA : ∀ q : Nat, s.heap.size ≤ q → A q := fun q h9 => by rw [← hAe]; exact Or.inr h9
  have hS : va_S A s.heap s.heap [] := va_S.rf
  have hl := lv_entry ([.ref (h 7), .int b]) (n := 2) (Nat.le_of_ble_eq_true rfl)
  rw [lg_entry_eq]
  generalize (lg_sl ([.ref (h 7), .int b]) ++ List.replicate (2 - (lg_sl ([.ref (h 7), .int b])).length) Slot.unset).toArray = ls at hl ⊢
  have hl : lv_has ls 2 [(0, .ref (h 7)), (1, .int b)] := hl
  exact bd_Q_add_0 (b := b) hx hb hml hown ht hE hA hK  (fun r u H locs pc ls hd hn hp hP hD hS => W.zret hx hb hr hn (fun t het hW => ⟨⟨r, u, rfl, hp, by rw [het]; exact hP, va_K.moved hW.alike hK, hD⟩, hS.F het⟩) hS.2.2 hd) qlen qb v_0 v_1 _ _ ls hP hD hS hl
set_option maxHeartbeats 4000000 in
set_option maxRecDepth 100000 in
theorem lp_Q_isMailbox_21 {p : Program} {l : Launch} {e : Env} {s : State} {m : MethodId} {args : Array Value} {below : List Frame} {meth : Method} {c : Code} {Q : State → Prop} {A : Nat → Prop} {dC : Nat → ClassId} {dI : Nat → Nat → Nat} {k h : Nat → Nat} {g : Nat → ClassId} {len : Int32} {fp : Int32} {many : Int32} {tlen : Int32} {tat : Int32} {qlen : Int32} {md : Int32} {gat : Int32} {kind : Int32} {gs : Int32} {th : Int32} {st : Int32} {rq : Int32} {bl : Int32} {te : Int32} {og : Int32} {wi : Nat} {ti : Nat} {sc : Nat → Int32} {kd : Nat → Int32} {sr : Nat → Int32} {sa : Nat → Int32} {qb : Nat → Int32} {du : Nat → Int32} {wo : Nat → Option Nat} (hx : p.tables.exec = Jvm.exec) (hb : c.code = b_Q_isMailbox) (hml : c.maxLocals = 2) (hown : s.vm.findClass "SieveDesk$Quoted" = some m.cls) (ht : ∀ w ∈ TT, w.before args s = true) (hE : KE k A s s.heap) (hA : ∀ q : Nat, s.heap.size ≤ q → A q) (hK : va_K (dC, dI) cls (TE g) s)  (h_0 : 0 ≤ Int32.toInt qlen) (h_1 : Int32.toInt qlen ≤ 200) (fin : ∀ (r : Int32) (u : Unit) (H : Heap) (locs : List Loc) (pc : Nat) (ls : Array Slot), decode b_Q_isMailbox pc = .ok (.ireturn, 1) → narrow .boolean (.int r) = .int r → (narrow .boolean (.int r) = .int r) → va_P (dC, dI) cls (WE h g len fp many tlen tat qlen md gat kind (.ref (k wi)) (.ref (k ti)) gs th st rq bl te og sc kd sr wo sa qb du) H → va_D A (WE h g len fp many tlen tat qlen md gat kind (.ref (k wi)) (.ref (k ti)) gs th st rq bl te og sc kd sr wo sa qb du) → va_S A s.heap H locs → W p l e ({ frames := 0, cells := 0, slots := 0, locals := 0 } : Room) s m args below meth c H locs 0 0 Q (F0 m pc ls [.int r])) : ∀ (nn : Nat), ∀ (i : Int32), 0 ≤ Int32.toInt i → Int32.toInt i ≤ 200 → (200 - Int32.toInt i).toNat < nn → ∀ (H : Heap) (locs : List Loc) (ls : Array Slot), va_P (dC, dI) cls (WE h g len fp many tlen tat qlen md gat kind (.ref (k wi)) (.ref (k ti)) gs th st rq bl te og sc kd sr wo sa qb du) H → va_D A (WE h g len fp many tlen tat qlen md gat kind (.ref (k wi)) (.ref (k ti)) gs th st rq bl te og sc kd sr wo sa qb du) → va_S A s.heap H locs → lv_has ls 2 [(1, .int i), (0, .ref (h 7))] → W p l e ({ frames := 0, cells := 0, slots := 0, locals := 0 } : Room) s m args below meth c H locs 0 0 Q (F0 m 21 ls []) := by
  intro nn
  induction nn with
  | zero =>
    intro _ _ _ hm
    exact absurd hm (Nat.not_lt_zero _)
  | succ nn ih =>
    intro i v_0 v_1 hm H locs ls hP hD hS hl
    refine lv_iload_n hx hb d_Q_isMailbox_21 rfl (lv_at hl 0 rfl) ?_
    refine lv_aload_n hx hb d_Q_isMailbox_22 rfl (lv_at hl 1 rfl) ?_
    refine va_get (D := (dC, dI)) (ci := 2) (v := .int qlen) (C := "SieveDesk$Quoted") (T := F_Q) (N := 2) hx hb ht i_Q hown hK hP 7 rfl rfl 1 (by decide) (ht _ k_111) (fun _ h9 => h9) rfl d_Q_isMailbox_23 ?_
    refine lv_icmp_ge (tgt := 79) hx hb d_Q_isMailbox_26 (by decide) (fun c_1 => ?_) (fun c_1 => ?_)
    · have dc_1 := i_le c_1 rfl rfl
      refine lv_iconst (v := 1) hx hb d_Q_isMailbox_79 (by decide) ?_
      have hc_1 : Int32.toInt 1 = 1 := by decide
      exact fin 1 () _ _ _ ls d_Q_isMailbox_80 rfl rfl hP hD hS
    · have dc_1 := i_nle c_1 rfl rfl
      refine lv_iload_n hx hb d_Q_isMailbox_29 rfl (lv_at hl 0 rfl) ?_
      refine lv_aload_n hx hb d_Q_isMailbox_30 rfl (lv_at hl 1 rfl) ?_
      refine va_get (D := (dC, dI)) (ci := 2) (v := .ref (h 8)) (C := "SieveDesk$Quoted") (T := F_Q) (N := 2) hx hb ht i_Q hown hK hP 7 rfl rfl 0 (by decide) (ht _ k_110) (fun _ h9 => h9) rfl d_Q_isMailbox_31 ?_
      refine va_alen (v := 200) hx hb hK hP 8 5 rfl rfl rfl d_Q_isMailbox_34 ?_
      refine lv_icmp_ge (tgt := 79) hx hb d_Q_isMailbox_35 (by decide) (fun c_2 => ?_) (fun c_2 => ?_)
      · have dc_2 := i_le c_2 (show Int32.toInt 200 = 200 by decide) rfl
        refine lv_iconst (v := 1) hx hb d_Q_isMailbox_79 (by decide) ?_
        have hc_1 : Int32.toInt 1 = 1 := by decide
        exact fin 1 () _ _ _ ls d_Q_isMailbox_80 rfl rfl hP hD hS
      · have dc_2 := i_nle c_2 (show Int32.toInt 200 = 200 by decide) rfl
        refine lv_aload_n hx hb d_Q_isMailbox_38 rfl (lv_at hl 1 rfl) ?_
        refine va_get (D := (dC, dI)) (ci := 2) (v := .ref (h 8)) (C := "SieveDesk$Quoted") (T := F_Q) (N := 2) hx hb ht i_Q hown hK hP 7 rfl rfl 0 (by decide) (ht _ k_110) (fun _ h9 => h9) rfl d_Q_isMailbox_39 ?_
        refine lv_iload_n hx hb d_Q_isMailbox_42 rfl (lv_at hl 0 rfl) ?_
        refine va_bald hx hb hK hP 8 5 rfl rfl (i_in rfl (by omega) (by omega)) d_Q_isMailbox_43 ?_
        refine lv_bipush (v := 32) hx hb d_Q_isMailbox_44 (by decide) ?_
        refine lv_icmp_lt (tgt := 71) hx hb d_Q_isMailbox_46 (by decide) (fun c_3 => ?_) (fun c_3 => ?_)
        · refine lv_iconst (v := 0) hx hb d_Q_isMailbox_71 (by decide) ?_
          have hc_0 : Int32.toInt 0 = 0 := by decide
          exact fin 0 () _ _ _ ls d_Q_isMailbox_72 rfl rfl hP hD hS
        · refine lv_aload_n hx hb d_Q_isMailbox_49 rfl (lv_at hl 1 rfl) ?_
          refine va_get (D := (dC, dI)) (ci := 2) (v := .ref (h 8)) (C := "SieveDesk$Quoted") (T := F_Q) (N := 2) hx hb ht i_Q hown hK hP 7 rfl rfl 0 (by decide) (ht _ k_110) (fun _ h9 => h9) rfl d_Q_isMailbox_50 ?_
          refine lv_iload_n hx hb d_Q_isMailbox_53 rfl (lv_at hl 0 rfl) ?_
          refine va_bald hx hb hK hP 8 5 rfl rfl (i_in rfl (by omega) (by omega)) d_Q_isMailbox_54 ?_
          refine lv_bipush (v := 126) hx hb d_Q_isMailbox_55 (by decide) ?_
          refine lv_icmp_gt (tgt := 71) hx hb d_Q_isMailbox_57 (by decide) (fun c_4 => ?_) (fun c_4 => ?_)
          · refine lv_iconst (v := 0) hx hb d_Q_isMailbox_71 (by decide) ?_
            have hc_0 : Int32.toInt 0 = 0 := by decide
            exact fin 0 () _ _ _ ls d_Q_isMailbox_72 rfl rfl hP hD hS
          · refine lv_aload_n hx hb d_Q_isMailbox_60 rfl (lv_at hl 1 rfl) ?_
            refine va_get (D := (dC, dI)) (ci := 2) (v := .ref (h 8)) (C := "SieveDesk$Quoted") (T := F_Q) (N := 2) hx hb ht i_Q hown hK hP 7 rfl rfl 0 (by decide) (ht _ k_110) (fun _ h9 => h9) rfl d_Q_isMailbox_61 ?_
            refine lv_iload_n hx hb d_Q_isMailbox_64 rfl (lv_at hl 0 rfl) ?_
            refine va_bald hx hb hK hP 8 5 rfl rfl (i_in rfl (by omega) (by omega)) d_Q_isMailbox_65 ?_
            refine lv_bipush (v := 34) hx hb d_Q_isMailbox_66 (by decide) ?_
            refine lv_icmp_ne (tgt := 73) hx hb d_Q_isMailbox_68 (by decide) (fun c_5 => ?_) (fun c_5 => ?_)
            · refine lv_iinc (v := (i + 1)) (lv' := [(1, .int (i + 1)), (0, .ref (h 7))]) hx hb d_Q_isMailbox_73 hl (k := 0) rfl rfl (by decide) rfl (fun ls hl => ?_)
              have e_6 : Int32.toInt (i + 1) = (Int32.toInt i) + 1 := i_add rfl (show Int32.toInt 1 = 1 by decide) (by omega) (by omega)
              refine lv_goto (tgt := 21) hx hb d_Q_isMailbox_76 (by decide) ?_
              exact ih (i + 1) (by omega) (by omega) (by omega) _ _ ls hP hD hS (lv_sub hl [0, 1] rfl)
            · refine lv_iconst (v := 0) hx hb d_Q_isMailbox_71 (by decide) ?_
              have hc_0 : Int32.toInt 0 = 0 := by decide
              exact fin 0 () _ _ _ ls d_Q_isMailbox_72 rfl rfl hP hD hS
set_option maxHeartbeats 4000000 in
set_option maxRecDepth 100000 in
theorem bd_Q_isMailbox_0 {p : Program} {l : Launch} {e : Env} {s : State} {m : MethodId} {args : Array Value} {below : List Frame} {meth : Method} {c : Code} {Q : State → Prop} {A : Nat → Prop} {dC : Nat → ClassId} {dI : Nat → Nat → Nat} {k h : Nat → Nat} {g : Nat → ClassId} {len : Int32} {fp : Int32} {many : Int32} {tlen : Int32} {tat : Int32} {qlen : Int32} {md : Int32} {gat : Int32} {kind : Int32} {gs : Int32} {th : Int32} {st : Int32} {rq : Int32} {bl : Int32} {te : Int32} {og : Int32} {wi : Nat} {ti : Nat} {sc : Nat → Int32} {kd : Nat → Int32} {sr : Nat → Int32} {sa : Nat → Int32} {qb : Nat → Int32} {du : Nat → Int32} {wo : Nat → Option Nat} (hx : p.tables.exec = Jvm.exec) (hb : c.code = b_Q_isMailbox) (hml : c.maxLocals = 2) (hown : s.vm.findClass "SieveDesk$Quoted" = some m.cls) (ht : ∀ w ∈ TT, w.before args s = true) (hE : KE k A s s.heap) (hA : ∀ q : Nat, s.heap.size ≤ q → A q) (hK : va_K (dC, dI) cls (TE g) s)  (h_0 : 0 ≤ Int32.toInt qlen) (h_1 : Int32.toInt qlen ≤ 200) (fin : ∀ (r : Int32) (u : Unit) (H : Heap) (locs : List Loc) (pc : Nat) (ls : Array Slot), decode b_Q_isMailbox pc = .ok (.ireturn, 1) → narrow .boolean (.int r) = .int r → (narrow .boolean (.int r) = .int r) → va_P (dC, dI) cls (WE h g len fp many tlen tat qlen md gat kind (.ref (k wi)) (.ref (k ti)) gs th st rq bl te og sc kd sr wo sa qb du) H → va_D A (WE h g len fp many tlen tat qlen md gat kind (.ref (k wi)) (.ref (k ti)) gs th st rq bl te og sc kd sr wo sa qb du) → va_S A s.heap H locs → W p l e ({ frames := 0, cells := 0, slots := 0, locals := 0 } : Room) s m args below meth c H locs 0 0 Q (F0 m pc ls [.int r])) : ∀ (H : Heap) (locs : List Loc) (ls : Array Slot), va_P (dC, dI) cls (WE h g len fp many tlen tat qlen md gat kind (.ref (k wi)) (.ref (k ti)) gs th st rq bl te og sc kd sr wo sa qb du) H → va_D A (WE h g len fp many tlen tat qlen md gat kind (.ref (k wi)) (.ref (k ti)) gs th st rq bl te og sc kd sr wo sa qb du) → va_S A s.heap H locs → lv_has ls 2 [(0, .ref (h 7))] → W p l e ({ frames := 0, cells := 0, slots := 0, locals := 0 } : Room) s m args below meth c H locs 0 0 Q (F0 m 0 ls []) := by
  intro H locs ls hP hD hS hl
  refine lv_aload_n hx hb d_Q_isMailbox_0 rfl (lv_at hl 0 rfl) ?_
  refine va_get (D := (dC, dI)) (ci := 2) (v := .int qlen) (C := "SieveDesk$Quoted") (T := F_Q) (N := 2) hx hb ht i_Q hown hK hP 7 rfl rfl 1 (by decide) (ht _ k_111) (fun _ h9 => h9) rfl d_Q_isMailbox_1 ?_
  refine lv_iconst (v := 1) hx hb d_Q_isMailbox_4 (by decide) ?_
  refine lv_icmp_lt (tgt := 17) hx hb d_Q_isMailbox_5 (by decide) (fun c_7 => ?_) (fun c_7 => ?_)
  · have dc_7 := i_lt c_7 rfl (show Int32.toInt 1 = 1 by decide)
    refine lv_iconst (v := 0) hx hb d_Q_isMailbox_17 (by decide) ?_
    have hc_0 : Int32.toInt 0 = 0 := by decide
    exact fin 0 () _ _ _ ls d_Q_isMailbox_18 rfl rfl hP hD hS
  · have dc_7 := i_nlt c_7 rfl (show Int32.toInt 1 = 1 by decide)
    refine lv_aload_n hx hb d_Q_isMailbox_8 rfl (lv_at hl 0 rfl) ?_
    refine va_get (D := (dC, dI)) (ci := 2) (v := .int qlen) (C := "SieveDesk$Quoted") (T := F_Q) (N := 2) hx hb ht i_Q hown hK hP 7 rfl rfl 1 (by decide) (ht _ k_111) (fun _ h9 => h9) rfl d_Q_isMailbox_9 ?_
    refine lv_bipush (v := 20) hx hb d_Q_isMailbox_12 (by decide) ?_
    refine lv_icmp_le (tgt := 19) hx hb d_Q_isMailbox_14 (by decide) (fun c_8 => ?_) (fun c_8 => ?_)
    · have dc_8 := i_le c_8 rfl (show Int32.toInt 20 = 20 by decide)
      refine lv_iconst (v := 0) hx hb d_Q_isMailbox_19 (by decide) ?_
      refine lv_istore_n (lv' := [(1, .int 0), (0, .ref (h 7))]) hx hb d_Q_isMailbox_20 rfl hl (by decide) rfl (fun ls hl => ?_)
      have hc_0 : Int32.toInt 0 = 0 := by decide
      exact (lp_Q_isMailbox_21  hx hb hml hown ht hE hA hK h_0 h_1 fin _) 0 (by omega) (by omega) (Nat.lt_succ_self _) _ _ ls hP hD hS (lv_sub hl [0, 1] rfl)
    · have dc_8 := i_nle c_8 rfl (show Int32.toInt 20 = 20 by decide)
      refine lv_iconst (v := 0) hx hb d_Q_isMailbox_17 (by decide) ?_
      have hc_0 : Int32.toInt 0 = 0 := by decide
      exact fin 0 () _ _ _ ls d_Q_isMailbox_18 rfl rfl hP hD hS
set_option maxHeartbeats 4000000 in
set_option maxRecDepth 100000 in
theorem c_Q_isMailbox (l : Launch) (dC : Nat → ClassId) (dI : Nat → Nat → Nat) (k : Nat → Nat) (h : Nat → Nat) (g : Nat → ClassId) (len : Int32) (fp : Int32) (many : Int32) (tlen : Int32) (tat : Int32) (qlen : Int32) (md : Int32) (gat : Int32) (kind : Int32) (gs : Int32) (th : Int32) (st : Int32) (rq : Int32) (bl : Int32) (te : Int32) (og : Int32) (wi : Nat) (ti : Nat) (sc : Nat → Int32) (kd : Nat → Int32) (sr : Nat → Int32) (sa : Nat → Int32) (qb : Nat → Int32) (du : Nat → Int32) (wo : Nat → Option Nat)  (sz : Nat) (h_0 : 0 ≤ Int32.toInt qlen) (h_1 : Int32.toInt qlen ≤ 200)  : Met l y_Q_isMailbox (.code y_Q_isMailbox b_Q_isMailbox 2 (some .boolean) :: TT) ({ frames := 0, cells := 0, slots := 0, locals := 0 }) (va_Pc [.ref (h 7)] (PX dC dI k (TE g) (WE h g len fp many tlen tat qlen md gat kind (.ref (k wi)) (.ref (k ti)) gs th st rq bl te og sc kd sr wo sa qb du) sz)) (va_Qi (fun (r : Int32) (u : Unit) => narrow .boolean (.int r) = .int r) (fun u t => BX dC dI (TE g) (va_A (WE h g len fp many tlen tat qlen md gat kind (.ref (k wi)) (.ref (k ti)) gs th st rq bl te og sc kd sr wo sa qb du) sz) (WE h g len fp many tlen tat qlen md gat kind (.ref (k wi)) (.ref (k ti)) gs th st rq bl te og sc kd sr wo sa qb du) t) (va_A (WE h g len fp many tlen tat qlen md gat kind (.ref (k wi)) (.ref (k ti)) gs th st rq bl te og sc kd sr wo sa qb du) sz)) 0 0 (va_A (WE h g len fp many tlen tat qlen md gat kind (.ref (k wi)) (.ref (k ti)) gs th st rq bl te og sc kd sr wo sa qb du) sz) := by
  refine Met.ofW (cc := b_Q_isMailbox) (maxL := 2) (ret := (some .boolean)) (by decide) rfl ?_
  intro p e s m args below meth c s₁ B hml hv
  obtain ⟨rfl, hsz, hE, hP, hK, hD0⟩ := hv
  have hx := B.exec
  have hb := B.bytes
  have hr := B.returns
  have ht : ∀ w ∈ TT, w.before _ s = true := fun w hw => atoms_spec (ws := .code y_Q_isMailbox b_Q_isMailbox 2 (some .boolean) :: TT) B.pre w (List.mem_cons_of_mem _ hw)
  have hown : s.vm.findClass "SieveDesk$Quoted" = some m.cls := findClass_of_methodNamed B.named
  have hlocks := B.notSynchronized
  subst hsz
  have hD := hD0.self (sz := s.heap.size)
  generalize hAe : va_A (WE h g len fp many tlen tat qlen md gat kind (.ref (k wi)) (.ref (k ti)) gs th st rq bl te og sc kd sr wo sa qb du) s.heap.size = A at hE hD ⊢
  have hA : ∀ q : Nat, s.heap.size ≤ q → A q := fun q h9 => by rw [← hAe]; exact Or.inr h9
  have hS : va_S A s.heap s.heap [] := va_S.rf
  have hl := lv_entry ([.ref (h 7)]) (n := 2) (Nat.le_of_ble_eq_true rfl)
  rw [lg_entry_eq]
  generalize (lg_sl ([.ref (h 7)]) ++ List.replicate (2 - (lg_sl ([.ref (h 7)])).length) Slot.unset).toArray = ls at hl ⊢
  have hl : lv_has ls 2 [(0, .ref (h 7))] := hl
  exact bd_Q_isMailbox_0  hx hb hml hown ht hE hA hK h_0 h_1 (fun r u H locs pc ls hd hn hp hP hD hS => W.zret hx hb hr hn (fun t het hW => ⟨⟨r, u, rfl, hp, by rw [het]; exact hP, va_K.moved hW.alike hK, hD⟩, hS.F het⟩) hS.2.2 hd)   _ _ ls hP hD hS hl
set_option maxHeartbeats 4000000 in
set_option maxRecDepth 100000 in
theorem lp_Q_isDotted_35 {p : Program} {l : Launch} {e : Env} {s : State} {m : MethodId} {args : Array Value} {below : List Frame} {meth : Method} {c : Code} {Q : State → Prop} {A : Nat → Prop} {dC : Nat → ClassId} {dI : Nat → Nat → Nat} {k h : Nat → Nat} {g : Nat → ClassId} {len : Int32} {fp : Int32} {many : Int32} {tlen : Int32} {tat : Int32} {qlen : Int32} {md : Int32} {gat : Int32} {kind : Int32} {gs : Int32} {th : Int32} {st : Int32} {rq : Int32} {bl : Int32} {te : Int32} {og : Int32} {wi : Nat} {ti : Nat} {sc : Nat → Int32} {kd : Nat → Int32} {sr : Nat → Int32} {sa : Nat → Int32} {qb : Nat → Int32} {du : Nat → Int32} {wo : Nat → Option Nat} (hx : p.tables.exec = Jvm.exec) (hb : c.code = b_Q_isDotted) (hml : c.maxLocals = 9) (hown : s.vm.findClass "SieveDesk$Quoted" = some m.cls) (ht : ∀ w ∈ TT, w.before args s = true) (hE : KE k A s s.heap) (hA : ∀ q : Nat, s.heap.size ≤ q → A q) (hK : va_K (dC, dI) cls (TE g) s) {fr to mo : Int32} {si : Nat} (h_0 : si < 116) (h_1 : Int32.toInt fr ≤ 1000) (h_2 : -1000 ≤ Int32.toInt to) (h_3 : Int32.toInt to ≤ 1000) (fin : ∀ (r : Int32) (u : Unit) (H : Heap) (locs : List Loc) (pc : Nat) (ls : Array Slot), decode b_Q_isDotted pc = .ok (.ireturn, 1) → narrow .boolean (.int r) = .int r → (narrow .boolean (.int r) = .int r) → va_P (dC, dI) cls (WE h g len fp many tlen tat qlen md gat kind (.ref (k wi)) (.ref (k ti)) gs th st rq bl te og sc kd sr wo sa qb du) H → va_D A (WE h g len fp many tlen tat qlen md gat kind (.ref (k wi)) (.ref (k ti)) gs th st rq bl te og sc kd sr wo sa qb du) → va_S A s.heap H locs → W p l e ({ frames := 4, cells := 0, slots := 0, locals := 91 } : Room) s m args below meth c H locs 0 0 Q (F0 m pc ls [.int r])) : ∀ (nn : Nat), ∀ (bd : Int32) (i : Int32), 0 ≤ Int32.toInt i → Int32.toInt to ≤ 200 → Int32.toInt i ≤ 1000 → (Int32.toInt to - Int32.toInt i).toNat < nn → ∀ (H : Heap) (locs : List Loc) (ls : Array Slot), va_P (dC, dI) cls (WE h g len fp many tlen tat qlen md gat kind (.ref (k wi)) (.ref (k ti)) gs th st rq bl te og sc kd sr wo sa qb du) H → va_D A (WE h g len fp many tlen tat qlen md gat kind (.ref (k wi)) (.ref (k ti)) gs th st rq bl te og sc kd sr wo sa qb du) → va_S A s.heap H locs → lv_has ls 9 [(5, .int bd), (6, .int i), (0, .ref (h 7)), (2, .int to), (4, .ref (k (100 + si)))] → W p l e ({ frames := 4, cells := 0, slots := 0, locals := 91 } : Room) s m args below meth c H locs 0 0 Q (F0 m 35 ls []) := by
  intro nn
  induction nn with
  | zero =>
    intro _ _ _ _ _ hm
    exact absurd hm (Nat.not_lt_zero _)
  | succ nn ih =>
    intro bd i v_0 v_1 v_2 hm H locs ls hP hD hS hl
    refine lv_iload hx hb d_Q_isDotted_35 (lv_at hl 1 rfl) ?_
    refine lv_iload_n hx hb d_Q_isDotted_37 rfl (lv_at hl 3 rfl) ?_
    refine lv_icmp_ge (tgt := 124) hx hb d_Q_isDotted_38 (by decide) (fun c_1 => ?_) (fun c_1 => ?_)
    · have dc_1 := i_le c_1 rfl rfl
      refine lv_iload hx hb d_Q_isDotted_124 (lv_at hl 0 rfl) ?_
      refine lv_if_ne (tgt := 133) hx hb d_Q_isDotted_126 (by decide) (fun c_2 => ?_) (fun c_2 => ?_)
      · refine lv_iconst (v := 0) hx hb d_Q_isDotted_133 (by decide) ?_
        have hc_0 : Int32.toInt 0 = 0 := by decide
        exact fin 0 () _ _ _ ls d_Q_isDotted_134 rfl rfl hP hD hS
      · refine lv_iconst (v := 1) hx hb d_Q_isDotted_129 (by decide) ?_
        refine lv_goto (tgt := 134) hx hb d_Q_isDotted_130 (by decide) ?_
        have hc_1 : Int32.toInt 1 = 1 := by decide
        exact fin 1 () _ _ _ ls d_Q_isDotted_134 rfl rfl hP hD hS
    · have dc_1 := i_nle c_1 rfl rfl
      refine lv_aload_n hx hb d_Q_isDotted_41 rfl (lv_at hl 2 rfl) ?_
      refine va_get (D := (dC, dI)) (ci := 2) (v := .ref (h 8)) (C := "SieveDesk$Quoted") (T := F_Q) (N := 2) hx hb ht i_Q hown hK hP 7 rfl rfl 0 (by decide) (ht _ k_110) (fun _ h9 => h9) rfl d_Q_isDotted_42 ?_
      refine lv_iload hx hb d_Q_isDotted_45 (lv_at hl 1 rfl) ?_
      refine va_bald hx hb hK hP 8 5 rfl rfl (i_in rfl (by omega) (by omega)) d_Q_isDotted_47 ?_
      refine lv_sipush (v := 255) hx hb d_Q_isDotted_48 (by decide) ?_
      refine lv_iand hx hb d_Q_isDotted_51 ?_
      refine lv_istore (lv' := [(7, .int ((qb (Int32.toNatClampNeg i)) &&& 255)), (5, .int bd), (6, .int i), (0, .ref (h 7)), (2, .int to), (4, .ref (k (100 + si)))]) hx hb d_Q_isDotted_52 hl (by decide) rfl (fun ls hl => ?_)
      refine lv_iload hx hb d_Q_isDotted_54 (lv_at hl 0 rfl) ?_
      refine lv_bipush (v := 46) hx hb d_Q_isDotted_56 (by decide) ?_
      refine lv_icmp_ne (tgt := 65) hx hb d_Q_isDotted_58 (by decide) (fun c_3 => ?_) (fun c_3 => ?_)
      · refine lv_iconst (v := 0) hx hb d_Q_isDotted_65 (by decide) ?_
        refine lv_istore (lv' := [(8, .int 0), (7, .int ((qb (Int32.toNatClampNeg i)) &&& 255)), (5, .int bd), (6, .int i), (0, .ref (h 7)), (2, .int to), (4, .ref (k (100 + si)))]) hx hb d_Q_isDotted_66 hl (by decide) rfl (fun ls hl => ?_)
        refine lv_iload hx hb d_Q_isDotted_68 (lv_at hl 0 rfl) ?_
        refine lv_if_eq (tgt := 80) hx hb d_Q_isDotted_70 (by decide) (fun _ => ?_) (fun cn => absurd (by decide) cn)
        refine lv_iload hx hb d_Q_isDotted_80 (lv_at hl 0 rfl) ?_
        refine lv_if_ne (tgt := 114) hx hb d_Q_isDotted_82 (by decide) (fun cn => absurd (by decide) cn) (fun _ => ?_)
        refine lv_iload hx hb d_Q_isDotted_85 (lv_at hl 1 rfl) ?_
        refine vp_callSi (cr_of (va_runSN (As := [.int ((qb (Int32.toNatClampNeg i)) &&& 255)]) (rest := []) ⟨hx, hb, hml, hown, ht⟩ (c_S_isLetter l k ((qb (Int32.toNatClampNeg i)) &&& 255) ) ⟨va_cnB 1 ht (g_C k_265) rfl rfl rfl (hE.1 _ n_391) (ht _ k_74) (by decide +kernel) ⟨(Nat.le_of_ble_eq_true rfl), (Nat.le_of_ble_eq_true rfl)⟩, (ht _ k_264), trivial⟩ ⟨fb_J, pre_J hE hS⟩ rfl rfl hl.1 rfl (lv_room (Nat.le_of_ble_eq_true rfl)) d_Q_isDotted_87 ⟨(Nat.le_of_ble_eq_true rfl), (Nat.le_of_ble_eq_true rfl)⟩)) (fun r_4 hw => ?_)
        obtain ⟨p_5, p_6⟩ := hw
        refine lv_if_ne (tgt := 114) hx hb d_Q_isDotted_90 (by decide) (fun c_7 => ?_) (fun c_7 => ?_)
        · have dc_7 := i_ne c_7 rfl (show Int32.toInt 0 = 0 by decide)
          refine lv_iload hx hb d_Q_isDotted_114 (lv_at hl 0 rfl) ?_
          refine lv_istore (lv' := [(5, .int 0), (8, .int 0), (7, .int ((qb (Int32.toNatClampNeg i)) &&& 255)), (6, .int i), (0, .ref (h 7)), (2, .int to), (4, .ref (k (100 + si)))]) hx hb d_Q_isDotted_116 hl (by decide) rfl (fun ls hl => ?_)
          refine lv_iinc (v := (i + 1)) (lv' := [(6, .int (i + 1)), (5, .int 0), (8, .int 0), (7, .int ((qb (Int32.toNatClampNeg i)) &&& 255)), (0, .ref (h 7)), (2, .int to), (4, .ref (k (100 + si)))]) hx hb d_Q_isDotted_118 hl (k := 3) rfl rfl (by decide) rfl (fun ls hl => ?_)
          have e_8 : Int32.toInt (i + 1) = (Int32.toInt i) + 1 := i_add rfl (show Int32.toInt 1 = 1 by decide) (by omega) (by omega)
          refine lv_goto (tgt := 35) hx hb d_Q_isDotted_121 (by decide) ?_
          have hc_0 : Int32.toInt 0 = 0 := by decide
          exact ih 0 (i + 1) (by omega) (by omega) (by omega) (by omega) _ _ ls hP hD hS (lv_sub hl [1, 0, 4, 5, 6] rfl)
        · have dc_7 := i_eq c_7 rfl (show Int32.toInt 0 = 0 by decide)
          refine lv_iload hx hb d_Q_isDotted_93 (lv_at hl 1 rfl) ?_
          refine vp_callSi (cr_of (va_runSN (As := [.int ((qb (Int32.toNatClampNeg i)) &&& 255)]) (rest := []) ⟨hx, hb, hml, hown, ht⟩ (c_S_isDigit l k ((qb (Int32.toNatClampNeg i)) &&& 255) ) ⟨va_cnB 1 ht (g_C k_279) rfl rfl rfl (hE.1 _ n_392) (ht _ k_74) (by decide +kernel) ⟨(Nat.le_of_ble_eq_true rfl), (Nat.le_of_ble_eq_true rfl)⟩, (ht _ k_278), trivial⟩ ⟨fb_J, pre_J hE hS⟩ rfl rfl hl.1 rfl (lv_room (Nat.le_of_ble_eq_true rfl)) d_Q_isDotted_95 ⟨(Nat.le_of_ble_eq_true rfl), (Nat.le_of_ble_eq_true rfl)⟩)) (fun r_9 hw => ?_)
          obtain ⟨p_10, p_11⟩ := hw
          refine lv_if_ne (tgt := 114) hx hb d_Q_isDotted_98 (by decide) (fun c_12 => ?_) (fun c_12 => ?_)
          · have dc_12 := i_ne c_12 rfl (show Int32.toInt 0 = 0 by decide)
            refine lv_iload hx hb d_Q_isDotted_114 (lv_at hl 0 rfl) ?_
            refine lv_istore (lv' := [(5, .int 0), (8, .int 0), (7, .int ((qb (Int32.toNatClampNeg i)) &&& 255)), (6, .int i), (0, .ref (h 7)), (2, .int to), (4, .ref (k (100 + si)))]) hx hb d_Q_isDotted_116 hl (by decide) rfl (fun ls hl => ?_)
            refine lv_iinc (v := (i + 1)) (lv' := [(6, .int (i + 1)), (5, .int 0), (8, .int 0), (7, .int ((qb (Int32.toNatClampNeg i)) &&& 255)), (0, .ref (h 7)), (2, .int to), (4, .ref (k (100 + si)))]) hx hb d_Q_isDotted_118 hl (k := 3) rfl rfl (by decide) rfl (fun ls hl => ?_)
            have e_13 : Int32.toInt (i + 1) = (Int32.toInt i) + 1 := i_add rfl (show Int32.toInt 1 = 1 by decide) (by omega) (by omega)
            refine lv_goto (tgt := 35) hx hb d_Q_isDotted_121 (by decide) ?_
            have hc_0 : Int32.toInt 0 = 0 := by decide
            exact ih 0 (i + 1) (by omega) (by omega) (by omega) (by omega) _ _ ls hP hD hS (lv_sub hl [1, 0, 4, 5, 6] rfl)
          · have dc_12 := i_eq c_12 rfl (show Int32.toInt 0 = 0 by decide)
            refine lv_aload hx hb d_Q_isDotted_101 (lv_at hl 6 rfl) ?_
            refine lv_iload hx hb d_Q_isDotted_103 (lv_at hl 1 rfl) ?_
            refine lv_i2c (v := ((Int32.toUInt32 ((qb (Int32.toNatClampNeg i)) &&& 255) % 65536).toInt32)) hx hb d_Q_isDotted_105 rfl ?_
            refine vp_callSi (W.runV (As := [.int ((Int32.toUInt32 ((qb (Int32.toNatClampNeg i)) &&& 255) % 65536).toInt32)]) (rest := []) ⟨hx, hb, hml, hown, ht⟩ (c_JS_indexOf0 l k si ((Int32.toUInt32 ((qb (Int32.toNatClampNeg i)) &&& 255) % 65536).toInt32) (by omega)) (cwV 1 ht (g_V k_393 k_394 k_395 k_81 k_396) rfl rfl rfl (by decide +kernel) ⟨(Nat.le_of_ble_eq_true rfl), (Nat.le_of_ble_eq_true rfl)⟩) ⟨fb_J, oo_recv (ke_s hE (i := si) (by omega)).1 hS, pre_J hE hS⟩ rfl rfl hl.1 rfl (lv_room (Nat.le_of_ble_eq_true rfl)) d_Q_isDotted_106 ⟨(Nat.le_of_ble_eq_true rfl), (Nat.le_of_ble_eq_true rfl)⟩) (fun r_14 hw => ?_)
            refine lv_if_ge (tgt := 114) hx hb d_Q_isDotted_109 (by decide) (fun c_15 => ?_) (fun c_15 => ?_)
            · refine lv_iload hx hb d_Q_isDotted_114 (lv_at hl 0 rfl) ?_
              refine lv_istore (lv' := [(5, .int 0), (8, .int 0), (7, .int ((qb (Int32.toNatClampNeg i)) &&& 255)), (6, .int i), (0, .ref (h 7)), (2, .int to), (4, .ref (k (100 + si)))]) hx hb d_Q_isDotted_116 hl (by decide) rfl (fun ls hl => ?_)
              refine lv_iinc (v := (i + 1)) (lv' := [(6, .int (i + 1)), (5, .int 0), (8, .int 0), (7, .int ((qb (Int32.toNatClampNeg i)) &&& 255)), (0, .ref (h 7)), (2, .int to), (4, .ref (k (100 + si)))]) hx hb d_Q_isDotted_118 hl (k := 3) rfl rfl (by decide) rfl (fun ls hl => ?_)
              have e_16 : Int32.toInt (i + 1) = (Int32.toInt i) + 1 := i_add rfl (show Int32.toInt 1 = 1 by decide) (by omega) (by omega)
              refine lv_goto (tgt := 35) hx hb d_Q_isDotted_121 (by decide) ?_
              have hc_0 : Int32.toInt 0 = 0 := by decide
              exact ih 0 (i + 1) (by omega) (by omega) (by omega) (by omega) _ _ ls hP hD hS (lv_sub hl [1, 0, 4, 5, 6] rfl)
            · refine lv_iconst (v := 0) hx hb d_Q_isDotted_112 (by decide) ?_
              have hc_0 : Int32.toInt 0 = 0 := by decide
              exact fin 0 () _ _ _ ls d_Q_isDotted_113 rfl rfl hP hD hS
      · refine lv_iconst (v := 1) hx hb d_Q_isDotted_61 (by decide) ?_
        refine lv_goto (tgt := 66) hx hb d_Q_isDotted_62 (by decide) ?_
        refine lv_istore (lv' := [(8, .int 1), (7, .int ((qb (Int32.toNatClampNeg i)) &&& 255)), (5, .int bd), (6, .int i), (0, .ref (h 7)), (2, .int to), (4, .ref (k (100 + si)))]) hx hb d_Q_isDotted_66 hl (by decide) rfl (fun ls hl => ?_)
        refine lv_iload hx hb d_Q_isDotted_68 (lv_at hl 0 rfl) ?_
        refine lv_if_eq (tgt := 80) hx hb d_Q_isDotted_70 (by decide) (fun cn => absurd cn (by decide)) (fun _ => ?_)
        refine lv_iload hx hb d_Q_isDotted_73 (lv_at hl 2 rfl) ?_
        refine lv_if_eq (tgt := 80) hx hb d_Q_isDotted_75 (by decide) (fun c_17 => ?_) (fun c_17 => ?_)
        · refine lv_iload hx hb d_Q_isDotted_80 (lv_at hl 0 rfl) ?_
          refine lv_if_ne (tgt := 114) hx hb d_Q_isDotted_82 (by decide) (fun _ => ?_) (fun cn => absurd cn (by decide))
          refine lv_iload hx hb d_Q_isDotted_114 (lv_at hl 0 rfl) ?_
          refine lv_istore (lv' := [(5, .int 1), (8, .int 1), (7, .int ((qb (Int32.toNatClampNeg i)) &&& 255)), (6, .int i), (0, .ref (h 7)), (2, .int to), (4, .ref (k (100 + si)))]) hx hb d_Q_isDotted_116 hl (by decide) rfl (fun ls hl => ?_)
          refine lv_iinc (v := (i + 1)) (lv' := [(6, .int (i + 1)), (5, .int 1), (8, .int 1), (7, .int ((qb (Int32.toNatClampNeg i)) &&& 255)), (0, .ref (h 7)), (2, .int to), (4, .ref (k (100 + si)))]) hx hb d_Q_isDotted_118 hl (k := 3) rfl rfl (by decide) rfl (fun ls hl => ?_)
          have e_18 : Int32.toInt (i + 1) = (Int32.toInt i) + 1 := i_add rfl (show Int32.toInt 1 = 1 by decide) (by omega) (by omega)
          refine lv_goto (tgt := 35) hx hb d_Q_isDotted_121 (by decide) ?_
          have hc_1 : Int32.toInt 1 = 1 := by decide
          exact ih 1 (i + 1) (by omega) (by omega) (by omega) (by omega) _ _ ls hP hD hS (lv_sub hl [1, 0, 4, 5, 6] rfl)
        · refine lv_iconst (v := 0) hx hb d_Q_isDotted_78 (by decide) ?_
          have hc_0 : Int32.toInt 0 = 0 := by decide
          exact fin 0 () _ _ _ ls d_Q_isDotted_79 rfl rfl hP hD hS
set_option maxHeartbeats 4000000 in
set_option maxRecDepth 100000 in
theorem bd_Q_isDotted_0 {p : Program} {l : Launch} {e : Env} {s : State} {m : MethodId} {args : Array Value} {below : List Frame} {meth : Method} {c : Code} {Q : State → Prop} {A : Nat → Prop} {dC : Nat → ClassId} {dI : Nat → Nat → Nat} {k h : Nat → Nat} {g : Nat → ClassId} {len : Int32} {fp : Int32} {many : Int32} {tlen : Int32} {tat : Int32} {qlen : Int32} {md : Int32} {gat : Int32} {kind : Int32} {gs : Int32} {th : Int32} {st : Int32} {rq : Int32} {bl : Int32} {te : Int32} {og : Int32} {wi : Nat} {ti : Nat} {sc : Nat → Int32} {kd : Nat → Int32} {sr : Nat → Int32} {sa : Nat → Int32} {qb : Nat → Int32} {du : Nat → Int32} {wo : Nat → Option Nat} (hx : p.tables.exec = Jvm.exec) (hb : c.code = b_Q_isDotted) (hml : c.maxLocals = 9) (hown : s.vm.findClass "SieveDesk$Quoted" = some m.cls) (ht : ∀ w ∈ TT, w.before args s = true) (hE : KE k A s s.heap) (hA : ∀ q : Nat, s.heap.size ≤ q → A q) (hK : va_K (dC, dI) cls (TE g) s) {fr to mo : Int32} {si : Nat} (h_0 : si < 116) (h_1 : Int32.toInt fr ≤ 1000) (h_2 : -1000 ≤ Int32.toInt to) (h_3 : Int32.toInt to ≤ 1000) (fin : ∀ (r : Int32) (u : Unit) (H : Heap) (locs : List Loc) (pc : Nat) (ls : Array Slot), decode b_Q_isDotted pc = .ok (.ireturn, 1) → narrow .boolean (.int r) = .int r → (narrow .boolean (.int r) = .int r) → va_P (dC, dI) cls (WE h g len fp many tlen tat qlen md gat kind (.ref (k wi)) (.ref (k ti)) gs th st rq bl te og sc kd sr wo sa qb du) H → va_D A (WE h g len fp many tlen tat qlen md gat kind (.ref (k wi)) (.ref (k ti)) gs th st rq bl te og sc kd sr wo sa qb du) → va_S A s.heap H locs → W p l e ({ frames := 4, cells := 0, slots := 0, locals := 91 } : Room) s m args below meth c H locs 0 0 Q (F0 m pc ls [.int r])) : ∀ (H : Heap) (locs : List Loc) (ls : Array Slot), va_P (dC, dI) cls (WE h g len fp many tlen tat qlen md gat kind (.ref (k wi)) (.ref (k ti)) gs th st rq bl te og sc kd sr wo sa qb du) H → va_D A (WE h g len fp many tlen tat qlen md gat kind (.ref (k wi)) (.ref (k ti)) gs th st rq bl te og sc kd sr wo sa qb du) → va_S A s.heap H locs → lv_has ls 9 [(0, .ref (h 7)), (1, .int fr), (2, .int to), (3, .int mo), (4, .ref (k (100 + si)))] → W p l e ({ frames := 4, cells := 0, slots := 0, locals := 91 } : Room) s m args below meth c H locs 0 0 Q (F0 m 0 ls []) := by
  intro H locs ls hP hD hS hl
  refine lv_iload_n hx hb d_Q_isDotted_0 rfl (lv_at hl 1 rfl) ?_
  refine lv_if_lt (tgt := 27) hx hb d_Q_isDotted_1 (by decide) (fun c_19 => ?_) (fun c_19 => ?_)
  · have dc_19 := i_lt c_19 rfl (show Int32.toInt 0 = 0 by decide)
    refine lv_iconst (v := 0) hx hb d_Q_isDotted_27 (by decide) ?_
    have hc_0 : Int32.toInt 0 = 0 := by decide
    exact fin 0 () _ _ _ ls d_Q_isDotted_28 rfl rfl hP hD hS
  · have dc_19 := i_nlt c_19 rfl (show Int32.toInt 0 = 0 by decide)
    refine lv_iload_n hx hb d_Q_isDotted_4 rfl (lv_at hl 2 rfl) ?_
    refine lv_aload_n hx hb d_Q_isDotted_5 rfl (lv_at hl 0 rfl) ?_
    refine va_get (D := (dC, dI)) (ci := 2) (v := .ref (h 8)) (C := "SieveDesk$Quoted") (T := F_Q) (N := 2) hx hb ht i_Q hown hK hP 7 rfl rfl 0 (by decide) (ht _ k_110) (fun _ h9 => h9) rfl d_Q_isDotted_6 ?_
    refine va_alen (v := 200) hx hb hK hP 8 5 rfl rfl rfl d_Q_isDotted_9 ?_
    refine lv_icmp_gt (tgt := 27) hx hb d_Q_isDotted_10 (by decide) (fun c_20 => ?_) (fun c_20 => ?_)
    · have dc_20 := i_lt c_20 (show Int32.toInt 200 = 200 by decide) rfl
      refine lv_iconst (v := 0) hx hb d_Q_isDotted_27 (by decide) ?_
      have hc_0 : Int32.toInt 0 = 0 := by decide
      exact fin 0 () _ _ _ ls d_Q_isDotted_28 rfl rfl hP hD hS
    · have dc_20 := i_nlt c_20 (show Int32.toInt 200 = 200 by decide) rfl
      refine lv_iload_n hx hb d_Q_isDotted_13 rfl (lv_at hl 2 rfl) ?_
      refine lv_iload_n hx hb d_Q_isDotted_14 rfl (lv_at hl 1 rfl) ?_
      refine lv_isub hx hb d_Q_isDotted_15 ?_
      have e_21 : Int32.toInt (to - fr) = (Int32.toInt to) - (Int32.toInt fr) := i_sub rfl rfl (by omega) (by omega)
      refine lv_iconst (v := 1) hx hb d_Q_isDotted_16 (by decide) ?_
      refine lv_icmp_lt (tgt := 27) hx hb d_Q_isDotted_17 (by decide) (fun c_22 => ?_) (fun c_22 => ?_)
      · have dc_22 := i_lt c_22 e_21 (show Int32.toInt 1 = 1 by decide)
        refine lv_iconst (v := 0) hx hb d_Q_isDotted_27 (by decide) ?_
        have hc_0 : Int32.toInt 0 = 0 := by decide
        exact fin 0 () _ _ _ ls d_Q_isDotted_28 rfl rfl hP hD hS
      · have dc_22 := i_nlt c_22 e_21 (show Int32.toInt 1 = 1 by decide)
        refine lv_iload_n hx hb d_Q_isDotted_20 rfl (lv_at hl 2 rfl) ?_
        refine lv_iload_n hx hb d_Q_isDotted_21 rfl (lv_at hl 1 rfl) ?_
        refine lv_isub hx hb d_Q_isDotted_22 ?_
        have e_23 : Int32.toInt (to - fr) = (Int32.toInt to) - (Int32.toInt fr) := i_sub rfl rfl (by omega) (by omega)
        refine lv_iload_n hx hb d_Q_isDotted_23 rfl (lv_at hl 3 rfl) ?_
        refine lv_icmp_le (tgt := 29) hx hb d_Q_isDotted_24 (by decide) (fun c_24 => ?_) (fun c_24 => ?_)
        · refine lv_iconst (v := 1) hx hb d_Q_isDotted_29 (by decide) ?_
          refine lv_istore (lv' := [(5, .int 1), (0, .ref (h 7)), (1, .int fr), (2, .int to), (3, .int mo), (4, .ref (k (100 + si)))]) hx hb d_Q_isDotted_30 hl (by decide) rfl (fun ls hl => ?_)
          refine lv_iload_n hx hb d_Q_isDotted_32 rfl (lv_at hl 2 rfl) ?_
          refine lv_istore (lv' := [(6, .int fr), (5, .int 1), (0, .ref (h 7)), (1, .int fr), (2, .int to), (3, .int mo), (4, .ref (k (100 + si)))]) hx hb d_Q_isDotted_33 hl (by decide) rfl (fun ls hl => ?_)
          have hc_1 : Int32.toInt 1 = 1 := by decide
          exact (lp_Q_isDotted_35 (fr := fr) (to := to) (mo := mo) (si := si) hx hb hml hown ht hE hA hK h_0 h_1 h_2 h_3 fin _) 1 fr (by omega) (by omega) (by omega) (Nat.lt_succ_self _) _ _ ls hP hD hS (lv_sub hl [1, 0, 2, 4, 6] rfl)
        · refine lv_iconst (v := 0) hx hb d_Q_isDotted_27 (by decide) ?_
          have hc_0 : Int32.toInt 0 = 0 := by decide
          exact fin 0 () _ _ _ ls d_Q_isDotted_28 rfl rfl hP hD hS
set_option maxHeartbeats 4000000 in
set_option maxRecDepth 100000 in
theorem c_Q_isDotted (l : Launch) (dC : Nat → ClassId) (dI : Nat → Nat → Nat) (k : Nat → Nat) (h : Nat → Nat) (g : Nat → ClassId) (len : Int32) (fp : Int32) (many : Int32) (tlen : Int32) (tat : Int32) (qlen : Int32) (md : Int32) (gat : Int32) (kind : Int32) (gs : Int32) (th : Int32) (st : Int32) (rq : Int32) (bl : Int32) (te : Int32) (og : Int32) (wi : Nat) (ti : Nat) (sc : Nat → Int32) (kd : Nat → Int32) (sr : Nat → Int32) (sa : Nat → Int32) (qb : Nat → Int32) (du : Nat → Int32) (wo : Nat → Option Nat) (fr to mo : Int32) (si : Nat) (sz : Nat) (h_0 : si < 116) (h_1 : Int32.toInt fr ≤ 1000) (h_2 : -1000 ≤ Int32.toInt to) (h_3 : Int32.toInt to ≤ 1000)  : Met l y_Q_isDotted (.code y_Q_isDotted b_Q_isDotted 9 (some .boolean) :: TT) ({ frames := 4, cells := 0, slots := 0, locals := 91 }) (va_Pc [.ref (h 7), .int fr, .int to, .int mo, .ref (k (100 + si))] (PX dC dI k (TE g) (WE h g len fp many tlen tat qlen md gat kind (.ref (k wi)) (.ref (k ti)) gs th st rq bl te og sc kd sr wo sa qb du) sz)) (va_Qi (fun (r : Int32) (u : Unit) => narrow .boolean (.int r) = .int r) (fun u t => BX dC dI (TE g) (va_A (WE h g len fp many tlen tat qlen md gat kind (.ref (k wi)) (.ref (k ti)) gs th st rq bl te og sc kd sr wo sa qb du) sz) (WE h g len fp many tlen tat qlen md gat kind (.ref (k wi)) (.ref (k ti)) gs th st rq bl te og sc kd sr wo sa qb du) t) (va_A (WE h g len fp many tlen tat qlen md gat kind (.ref (k wi)) (.ref (k ti)) gs th st rq bl te og sc kd sr wo sa qb du) sz)) 0 0 (va_A (WE h g len fp many tlen tat qlen md gat kind (.ref (k wi)) (.ref (k ti)) gs th st rq bl te og sc kd sr wo sa qb du) sz) := by
  refine Met.ofW (cc := b_Q_isDotted) (maxL := 9) (ret := (some .boolean)) (by decide) rfl ?_
  intro p e s m args below meth c s₁ B hml hv
  obtain ⟨rfl, hsz, hE, hP, hK, hD0⟩ := hv
  have hx := B.exec
  have hb := B.bytes
  have hr := B.returns
  have ht : ∀ w ∈ TT, w.before _ s = true := fun w hw => atoms_spec (ws := .code y_Q_isDotted b_Q_isDotted 9 (some .boolean) :: TT) B.pre w (List.mem_cons_of_mem _ hw)
  have hown : s.vm.findClass "SieveDesk$Quoted" = some m.cls := findClass_of_methodNamed B.named
  have hlocks := B.notSynchronized
  subst hsz
  have hD := hD0.self (sz := s.heap.size)
  generalize hAe : va_A (WE h g len fp many tlen tat qlen md gat kind (.ref (k wi)) (.ref (k ti)) gs th st rq bl te og sc kd sr wo sa qb du) s.heap.size = A at hE hD ⊢
  have hA : ∀ q : Nat, s.heap.size ≤ q → A q := fun q h9 => by rw [← hAe]; exact Or.inr h9
  have hS : va_S A s.heap s.heap [] := va_S.rf
  have hl := lv_entry ([.ref (h 7), .int fr, .int to, .int mo, .ref (k (100 + si))]) (n := 9) (Nat.le_of_ble_eq_true rfl)
  rw [lg_entry_eq]
  generalize (lg_sl ([.ref (h 7), .int fr, .int to, .int mo, .ref (k (100 + si))]) ++ List.replicate (9 - (lg_sl ([.ref (h 7), .int fr, .int to, .int mo, .ref (k (100 + si))])).length) Slot.unset).toArray = ls at hl ⊢
  have hl : lv_has ls 9 [(0, .ref (h 7)), (1, .int fr), (2, .int to), (3, .int mo), (4, .ref (k (100 + si)))] := hl
  exact bd_Q_isDotted_0 (fr := fr) (to := to) (mo := mo) (si := si) hx hb hml hown ht hE hA hK h_0 h_1 h_2 h_3 (fun r u H locs pc ls hd hn hp hP hD hS => W.zret hx hb hr hn (fun t het hW => ⟨⟨r, u, rfl, hp, by rw [het]; exact hP, va_K.moved hW.alike hK, hD⟩, hS.F het⟩) hS.2.2 hd)   _ _ ls hP hD hS hl
set_option maxHeartbeats 4000000 in
set_option maxRecDepth 100000 in
theorem lp_Q_isAddress_2 {p : Program} {l : Launch} {e : Env} {s : State} {m : MethodId} {args : Array Value} {below : List Frame} {meth : Method} {c : Code} {Q : State → Prop} {A : Nat → Prop} {dC : Nat → ClassId} {dI : Nat → Nat → Nat} {k h : Nat → Nat} {g : Nat → ClassId} {len : Int32} {fp : Int32} {many : Int32} {tlen : Int32} {tat : Int32} {qlen : Int32} {md : Int32} {gat : Int32} {kind : Int32} {gs : Int32} {th : Int32} {st : Int32} {rq : Int32} {bl : Int32} {te : Int32} {og : Int32} {wi : Nat} {ti : Nat} {sc : Nat → Int32} {kd : Nat → Int32} {sr : Nat → Int32} {sa : Nat → Int32} {qb : Nat → Int32} {du : Nat → Int32} {wo : Nat → Option Nat} (hx : p.tables.exec = Jvm.exec) (hb : c.code = b_Q_isAddress) (hml : c.maxLocals = 2) (hown : s.vm.findClass "SieveDesk$Quoted" = some m.cls) (ht : ∀ w ∈ TT, w.before args s = true) (hE : KE k A s s.heap) (hA : ∀ q : Nat, s.heap.size ≤ q → A q) (hK : va_K (dC, dI) cls (TE g) s)  (h_0 : 0 ≤ Int32.toInt qlen) (h_1 : Int32.toInt qlen ≤ 200) (fin : ∀ (r : Int32) (u : Unit) (H : Heap) (locs : List Loc) (pc : Nat) (ls : Array Slot), decode b_Q_isAddress pc = .ok (.ireturn, 1) → narrow .boolean (.int r) = .int r → (narrow .boolean (.int r) = .int r) → va_P (dC, dI) cls (WE h g len fp many tlen tat qlen md gat kind (.ref (k wi)) (.ref (k ti)) gs th st rq bl te og sc kd sr wo sa qb du) H → va_D A (WE h g len fp many tlen tat qlen md gat kind (.ref (k wi)) (.ref (k ti)) gs th st rq bl te og sc kd sr wo sa qb du) → va_S A s.heap H locs → W p l e ({ frames := 5, cells := 0, slots := 0, locals := 119 } : Room) s m args below meth c H locs 0 0 Q (F0 m pc ls [.int r])) : ∀ (nn : Nat), ∀ (i : Int32), 0 ≤ Int32.toInt i → Int32.toInt i ≤ 200 → (200 - Int32.toInt i).toNat < nn → ∀ (H : Heap) (locs : List Loc) (ls : Array Slot), va_P (dC, dI) cls (WE h g len fp many tlen tat qlen md gat kind (.ref (k wi)) (.ref (k ti)) gs th st rq bl te og sc kd sr wo sa qb du) H → va_D A (WE h g len fp many tlen tat qlen md gat kind (.ref (k wi)) (.ref (k ti)) gs th st rq bl te og sc kd sr wo sa qb du) → va_S A s.heap H locs → lv_has ls 2 [(1, .int i), (0, .ref (h 7))] → W p l e ({ frames := 5, cells := 0, slots := 0, locals := 119 } : Room) s m args below meth c H locs 0 0 Q (F0 m 2 ls []) := by
  intro nn
  induction nn with
  | zero =>
    intro _ _ _ hm
    exact absurd hm (Nat.not_lt_zero _)
  | succ nn ih =>
    intro i v_0 v_1 hm H locs ls hP hD hS hl
    refine lv_iload_n hx hb d_Q_isAddress_2 rfl (lv_at hl 0 rfl) ?_
    refine lv_aload_n hx hb d_Q_isAddress_3 rfl (lv_at hl 1 rfl) ?_
    refine va_get (D := (dC, dI)) (ci := 2) (v := .int qlen) (C := "SieveDesk$Quoted") (T := F_Q) (N := 2) hx hb ht i_Q hown hK hP 7 rfl rfl 1 (by decide) (ht _ k_111) (fun _ h9 => h9) rfl d_Q_isAddress_4 ?_
    refine lv_icmp_ge (tgt := 36) hx hb d_Q_isAddress_7 (by decide) (fun c_1 => ?_) (fun c_1 => ?_)
    · have dc_1 := i_le c_1 rfl rfl
      refine lv_iload_n hx hb d_Q_isAddress_36 rfl (lv_at hl 0 rfl) ?_
      refine lv_aload_n hx hb d_Q_isAddress_37 rfl (lv_at hl 1 rfl) ?_
      refine va_get (D := (dC, dI)) (ci := 2) (v := .int qlen) (C := "SieveDesk$Quoted") (T := F_Q) (N := 2) hx hb ht i_Q hown hK hP 7 rfl rfl 1 (by decide) (ht _ k_111) (fun _ h9 => h9) rfl d_Q_isAddress_38 ?_
      refine lv_icmp_ge (tgt := 79) hx hb d_Q_isAddress_41 (by decide) (fun c_2 => ?_) (fun c_2 => ?_)
      · have dc_2 := i_le c_2 rfl rfl
        refine lv_iconst (v := 0) hx hb d_Q_isAddress_79 (by decide) ?_
        have hc_0 : Int32.toInt 0 = 0 := by decide
        exact fin 0 () _ _ _ ls d_Q_isAddress_80 rfl rfl hP hD hS
      · have dc_2 := i_nle c_2 rfl rfl
        refine lv_aload_n hx hb d_Q_isAddress_44 rfl (lv_at hl 1 rfl) ?_
        refine lv_iconst (v := 0) hx hb d_Q_isAddress_45 (by decide) ?_
        refine lv_iload_n hx hb d_Q_isAddress_46 rfl (lv_at hl 0 rfl) ?_
        refine lv_bipush (v := 40) hx hb d_Q_isAddress_47 (by decide) ?_
        refine va_ldcS hx hb hown (show vk_R "SieveDesk$Quoted" 43 "!#$%&'*+-/=?^_`{|}~" (k (100 + 114)) s from ke_l214 hE) d_Q_isAddress_49 ?_
        have hc_0 : Int32.toInt 0 = 0 := by decide
        have hc_40 : Int32.toInt 40 = 40 := by decide
        have hFc := va_free (wc := (WE h g len fp many tlen tat qlen md gat kind (.ref (k wi)) (.ref (k ti)) gs th st rq bl te og sc kd sr wo sa qb du)) hD hS hA [0, 1, 2, 3, 4, 5, 6, 7, 8, 9, 10] rfl
        refine va_calli (va_runV (As := [.int 0, .int i, .int 40, .ref (k (100 + 114))]) (rest := []) ⟨hx, hb, hml, hown, ht⟩ (c_Q_isDotted l dC dI k h g len fp many tlen tat qlen md gat kind gs th st rq bl te og wi ti sc kd sr sa qb du wo 0 i 40 114 _ (by omega) (by omega) (by omega) (by omega) ) (cwV 4 ht (g_V k_387 k_389 k_18 k_76 k_390) rfl rfl rfl (by decide +kernel) ⟨(Nat.le_of_ble_eq_true rfl), (Nat.le_of_ble_eq_true rfl)⟩) ⟨fb_X, va_recv hK hP (ci := 2) (q0 := 7) rfl rfl, pre_X hE hS hFc hP hK hD⟩ rfl rfl hl.1 rfl (lv_room (Nat.le_of_ble_eq_true rfl)) d_Q_isAddress_51 ⟨(Nat.le_of_ble_eq_true rfl), (Nat.le_of_ble_eq_true rfl)⟩) hS (fun q _ h9 => hFc q h9) hFc (fun r_4 u_3 t H locs het hvm hw hB hz1 hk1 hS => ?_)
        have p_5 := hw
        obtain ⟨hP1, hK1, hD1⟩ := hB
        rw [het] at hP1
        have hP : va_P (dC, dI) cls (WE h g len fp many tlen tat qlen md gat kind (.ref (k wi)) (.ref (k ti)) gs th st rq bl te og sc kd sr wo sa qb du) H := hP1
        have hD : va_D A (WE h g len fp many tlen tat qlen md gat kind (.ref (k wi)) (.ref (k ti)) gs th st rq bl te og sc kd sr wo sa qb du) := hD1.weaken (fun _ _ _ h9 => hFc _ h9)
        refine lv_if_eq (tgt := 79) hx hb d_Q_isAddress_54 (by decide) (fun c_6 => ?_) (fun c_6 => ?_)
        · refine lv_iconst (v := 0) hx hb d_Q_isAddress_79 (by decide) ?_
          exact fin 0 () _ _ _ ls d_Q_isAddress_80 rfl rfl hP hD hS
        · refine lv_aload_n hx hb d_Q_isAddress_57 rfl (lv_at hl 1 rfl) ?_
          refine lv_iload_n hx hb d_Q_isAddress_58 rfl (lv_at hl 0 rfl) ?_
          refine lv_iconst (v := 1) hx hb d_Q_isAddress_59 (by decide) ?_
          refine lv_iadd hx hb d_Q_isAddress_60 ?_
          have e_7 : Int32.toInt (i + 1) = (Int32.toInt i) + 1 := i_add rfl (show Int32.toInt 1 = 1 by decide) (by omega) (by omega)
          refine lv_aload_n hx hb d_Q_isAddress_61 rfl (lv_at hl 1 rfl) ?_
          refine va_get (D := (dC, dI)) (ci := 2) (v := .int qlen) (C := "SieveDesk$Quoted") (T := F_Q) (N := 2) hx hb ht i_Q hown hK hP 7 rfl rfl 1 (by decide) (ht _ k_111) (fun _ h9 => h9) rfl d_Q_isAddress_62 ?_
          refine lv_bipush (v := 60) hx hb d_Q_isAddress_65 (by decide) ?_
          refine va_ldcS hx hb hown (show vk_R "SieveDesk$Quoted" 49 "-" (k (100 + 115)) s from ke_l215 hE) d_Q_isAddress_67 ?_
          have hc_60 : Int32.toInt 60 = 60 := by decide
          have hFc := va_free (wc := (WE h g len fp many tlen tat qlen md gat kind (.ref (k wi)) (.ref (k ti)) gs th st rq bl te og sc kd sr wo sa qb du)) hD hS hA [0, 1, 2, 3, 4, 5, 6, 7, 8, 9, 10] rfl
          refine va_calli (va_runV (As := [.int (i + 1), .int qlen, .int 60, .ref (k (100 + 115))]) (rest := []) ⟨hx, hb, hml, hown, ht⟩ (c_Q_isDotted l dC dI k h g len fp many tlen tat qlen md gat kind gs th st rq bl te og wi ti sc kd sr sa qb du wo (i + 1) qlen 60 115 _ (by omega) (by omega) (by omega) (by omega) ) (cwV 4 ht (g_V k_387 k_389 k_18 k_76 k_390) rfl rfl rfl (by decide +kernel) ⟨(Nat.le_of_ble_eq_true rfl), (Nat.le_of_ble_eq_true rfl)⟩) ⟨fb_X, va_recv hK hP (ci := 2) (q0 := 7) rfl rfl, pre_X hE hS hFc hP hK hD⟩ rfl rfl hl.1 rfl (lv_room (Nat.le_of_ble_eq_true rfl)) d_Q_isAddress_69 ⟨(Nat.le_of_ble_eq_true rfl), (Nat.le_of_ble_eq_true rfl)⟩) hS (fun q _ h9 => hFc q h9) hFc (fun r_9 u_8 t H locs het hvm hw hB hz1 hk1 hS => ?_)
          have p_10 := hw
          obtain ⟨hP1, hK1, hD1⟩ := hB
          rw [het] at hP1
          have hP : va_P (dC, dI) cls (WE h g len fp many tlen tat qlen md gat kind (.ref (k wi)) (.ref (k ti)) gs th st rq bl te og sc kd sr wo sa qb du) H := hP1
          have hD : va_D A (WE h g len fp many tlen tat qlen md gat kind (.ref (k wi)) (.ref (k ti)) gs th st rq bl te og sc kd sr wo sa qb du) := hD1.weaken (fun _ _ _ h9 => hFc _ h9)
          refine lv_if_eq (tgt := 79) hx hb d_Q_isAddress_72 (by decide) (fun c_11 => ?_) (fun c_11 => ?_)
          · refine lv_iconst (v := 0) hx hb d_Q_isAddress_79 (by decide) ?_
            exact fin 0 () _ _ _ ls d_Q_isAddress_80 rfl rfl hP hD hS
          · refine lv_iconst (v := 1) hx hb d_Q_isAddress_75 (by decide) ?_
            refine lv_goto (tgt := 80) hx hb d_Q_isAddress_76 (by decide) ?_
            have hc_1 : Int32.toInt 1 = 1 := by decide
            exact fin 1 () _ _ _ ls d_Q_isAddress_80 rfl rfl hP hD hS
    · have dc_1 := i_nle c_1 rfl rfl
      refine lv_iload_n hx hb d_Q_isAddress_10 rfl (lv_at hl 0 rfl) ?_
      refine lv_aload_n hx hb d_Q_isAddress_11 rfl (lv_at hl 1 rfl) ?_
      refine va_get (D := (dC, dI)) (ci := 2) (v := .ref (h 8)) (C := "SieveDesk$Quoted") (T := F_Q) (N := 2) hx hb ht i_Q hown hK hP 7 rfl rfl 0 (by decide) (ht _ k_110) (fun _ h9 => h9) rfl d_Q_isAddress_12 ?_
      refine va_alen (v := 200) hx hb hK hP 8 5 rfl rfl rfl d_Q_isAddress_15 ?_
      refine lv_icmp_ge (tgt := 36) hx hb d_Q_isAddress_16 (by decide) (fun c_12 => ?_) (fun c_12 => ?_)
      · have dc_12 := i_le c_12 (show Int32.toInt 200 = 200 by decide) rfl
        refine lv_iload_n hx hb d_Q_isAddress_36 rfl (lv_at hl 0 rfl) ?_
        refine lv_aload_n hx hb d_Q_isAddress_37 rfl (lv_at hl 1 rfl) ?_
        refine va_get (D := (dC, dI)) (ci := 2) (v := .int qlen) (C := "SieveDesk$Quoted") (T := F_Q) (N := 2) hx hb ht i_Q hown hK hP 7 rfl rfl 1 (by decide) (ht _ k_111) (fun _ h9 => h9) rfl d_Q_isAddress_38 ?_
        refine lv_icmp_ge (tgt := 79) hx hb d_Q_isAddress_41 (by decide) (fun c_13 => ?_) (fun c_13 => ?_)
        · have dc_13 := i_le c_13 rfl rfl
          refine lv_iconst (v := 0) hx hb d_Q_isAddress_79 (by decide) ?_
          have hc_0 : Int32.toInt 0 = 0 := by decide
          exact fin 0 () _ _ _ ls d_Q_isAddress_80 rfl rfl hP hD hS
        · have dc_13 := i_nle c_13 rfl rfl
          refine lv_aload_n hx hb d_Q_isAddress_44 rfl (lv_at hl 1 rfl) ?_
          refine lv_iconst (v := 0) hx hb d_Q_isAddress_45 (by decide) ?_
          refine lv_iload_n hx hb d_Q_isAddress_46 rfl (lv_at hl 0 rfl) ?_
          refine lv_bipush (v := 40) hx hb d_Q_isAddress_47 (by decide) ?_
          refine va_ldcS hx hb hown (show vk_R "SieveDesk$Quoted" 43 "!#$%&'*+-/=?^_`{|}~" (k (100 + 114)) s from ke_l214 hE) d_Q_isAddress_49 ?_
          have hc_0 : Int32.toInt 0 = 0 := by decide
          have hc_40 : Int32.toInt 40 = 40 := by decide
          have hFc := va_free (wc := (WE h g len fp many tlen tat qlen md gat kind (.ref (k wi)) (.ref (k ti)) gs th st rq bl te og sc kd sr wo sa qb du)) hD hS hA [0, 1, 2, 3, 4, 5, 6, 7, 8, 9, 10] rfl
          refine va_calli (va_runV (As := [.int 0, .int i, .int 40, .ref (k (100 + 114))]) (rest := []) ⟨hx, hb, hml, hown, ht⟩ (c_Q_isDotted l dC dI k h g len fp many tlen tat qlen md gat kind gs th st rq bl te og wi ti sc kd sr sa qb du wo 0 i 40 114 _ (by omega) (by omega) (by omega) (by omega) ) (cwV 4 ht (g_V k_387 k_389 k_18 k_76 k_390) rfl rfl rfl (by decide +kernel) ⟨(Nat.le_of_ble_eq_true rfl), (Nat.le_of_ble_eq_true rfl)⟩) ⟨fb_X, va_recv hK hP (ci := 2) (q0 := 7) rfl rfl, pre_X hE hS hFc hP hK hD⟩ rfl rfl hl.1 rfl (lv_room (Nat.le_of_ble_eq_true rfl)) d_Q_isAddress_51 ⟨(Nat.le_of_ble_eq_true rfl), (Nat.le_of_ble_eq_true rfl)⟩) hS (fun q _ h9 => hFc q h9) hFc (fun r_15 u_14 t H locs het hvm hw hB hz1 hk1 hS => ?_)
          have p_16 := hw
          obtain ⟨hP1, hK1, hD1⟩ := hB
          rw [het] at hP1
          have hP : va_P (dC, dI) cls (WE h g len fp many tlen tat qlen md gat kind (.ref (k wi)) (.ref (k ti)) gs th st rq bl te og sc kd sr wo sa qb du) H := hP1
          have hD : va_D A (WE h g len fp many tlen tat qlen md gat kind (.ref (k wi)) (.ref (k ti)) gs th st rq bl te og sc kd sr wo sa qb du) := hD1.weaken (fun _ _ _ h9 => hFc _ h9)
          refine lv_if_eq (tgt := 79) hx hb d_Q_isAddress_54 (by decide) (fun c_17 => ?_) (fun c_17 => ?_)
          · refine lv_iconst (v := 0) hx hb d_Q_isAddress_79 (by decide) ?_
            exact fin 0 () _ _ _ ls d_Q_isAddress_80 rfl rfl hP hD hS
          · refine lv_aload_n hx hb d_Q_isAddress_57 rfl (lv_at hl 1 rfl) ?_
            refine lv_iload_n hx hb d_Q_isAddress_58 rfl (lv_at hl 0 rfl) ?_
            refine lv_iconst (v := 1) hx hb d_Q_isAddress_59 (by decide) ?_
            refine lv_iadd hx hb d_Q_isAddress_60 ?_
            have e_18 : Int32.toInt (i + 1) = (Int32.toInt i) + 1 := i_add rfl (show Int32.toInt 1 = 1 by decide) (by omega) (by omega)
            refine lv_aload_n hx hb d_Q_isAddress_61 rfl (lv_at hl 1 rfl) ?_
            refine va_get (D := (dC, dI)) (ci := 2) (v := .int qlen) (C := "SieveDesk$Quoted") (T := F_Q) (N := 2) hx hb ht i_Q hown hK hP 7 rfl rfl 1 (by decide) (ht _ k_111) (fun _ h9 => h9) rfl d_Q_isAddress_62 ?_
            refine lv_bipush (v := 60) hx hb d_Q_isAddress_65 (by decide) ?_
            refine va_ldcS hx hb hown (show vk_R "SieveDesk$Quoted" 49 "-" (k (100 + 115)) s from ke_l215 hE) d_Q_isAddress_67 ?_
            have hc_60 : Int32.toInt 60 = 60 := by decide
            have hFc := va_free (wc := (WE h g len fp many tlen tat qlen md gat kind (.ref (k wi)) (.ref (k ti)) gs th st rq bl te og sc kd sr wo sa qb du)) hD hS hA [0, 1, 2, 3, 4, 5, 6, 7, 8, 9, 10] rfl
            refine va_calli (va_runV (As := [.int (i + 1), .int qlen, .int 60, .ref (k (100 + 115))]) (rest := []) ⟨hx, hb, hml, hown, ht⟩ (c_Q_isDotted l dC dI k h g len fp many tlen tat qlen md gat kind gs th st rq bl te og wi ti sc kd sr sa qb du wo (i + 1) qlen 60 115 _ (by omega) (by omega) (by omega) (by omega) ) (cwV 4 ht (g_V k_387 k_389 k_18 k_76 k_390) rfl rfl rfl (by decide +kernel) ⟨(Nat.le_of_ble_eq_true rfl), (Nat.le_of_ble_eq_true rfl)⟩) ⟨fb_X, va_recv hK hP (ci := 2) (q0 := 7) rfl rfl, pre_X hE hS hFc hP hK hD⟩ rfl rfl hl.1 rfl (lv_room (Nat.le_of_ble_eq_true rfl)) d_Q_isAddress_69 ⟨(Nat.le_of_ble_eq_true rfl), (Nat.le_of_ble_eq_true rfl)⟩) hS (fun q _ h9 => hFc q h9) hFc (fun r_20 u_19 t H locs het hvm hw hB hz1 hk1 hS => ?_)
            have p_21 := hw
            obtain ⟨hP1, hK1, hD1⟩ := hB
            rw [het] at hP1
            have hP : va_P (dC, dI) cls (WE h g len fp many tlen tat qlen md gat kind (.ref (k wi)) (.ref (k ti)) gs th st rq bl te og sc kd sr wo sa qb du) H := hP1
            have hD : va_D A (WE h g len fp many tlen tat qlen md gat kind (.ref (k wi)) (.ref (k ti)) gs th st rq bl te og sc kd sr wo sa qb du) := hD1.weaken (fun _ _ _ h9 => hFc _ h9)
            refine lv_if_eq (tgt := 79) hx hb d_Q_isAddress_72 (by decide) (fun c_22 => ?_) (fun c_22 => ?_)
            · refine lv_iconst (v := 0) hx hb d_Q_isAddress_79 (by decide) ?_
              exact fin 0 () _ _ _ ls d_Q_isAddress_80 rfl rfl hP hD hS
            · refine lv_iconst (v := 1) hx hb d_Q_isAddress_75 (by decide) ?_
              refine lv_goto (tgt := 80) hx hb d_Q_isAddress_76 (by decide) ?_
              have hc_1 : Int32.toInt 1 = 1 := by decide
              exact fin 1 () _ _ _ ls d_Q_isAddress_80 rfl rfl hP hD hS
      · have dc_12 := i_nle c_12 (show Int32.toInt 200 = 200 by decide) rfl
        refine lv_aload_n hx hb d_Q_isAddress_19 rfl (lv_at hl 1 rfl) ?_
        refine va_get (D := (dC, dI)) (ci := 2) (v := .ref (h 8)) (C := "SieveDesk$Quoted") (T := F_Q) (N := 2) hx hb ht i_Q hown hK hP 7 rfl rfl 0 (by decide) (ht _ k_110) (fun _ h9 => h9) rfl d_Q_isAddress_20 ?_
        refine lv_iload_n hx hb d_Q_isAddress_23 rfl (lv_at hl 0 rfl) ?_
        refine va_bald hx hb hK hP 8 5 rfl rfl (i_in rfl (by omega) (by omega)) d_Q_isAddress_24 ?_
        refine lv_bipush (v := 64) hx hb d_Q_isAddress_25 (by decide) ?_
        refine lv_icmp_eq (tgt := 36) hx hb d_Q_isAddress_27 (by decide) (fun c_23 => ?_) (fun c_23 => ?_)
        · refine lv_iload_n hx hb d_Q_isAddress_36 rfl (lv_at hl 0 rfl) ?_
          refine lv_aload_n hx hb d_Q_isAddress_37 rfl (lv_at hl 1 rfl) ?_
          refine va_get (D := (dC, dI)) (ci := 2) (v := .int qlen) (C := "SieveDesk$Quoted") (T := F_Q) (N := 2) hx hb ht i_Q hown hK hP 7 rfl rfl 1 (by decide) (ht _ k_111) (fun _ h9 => h9) rfl d_Q_isAddress_38 ?_
          refine lv_icmp_ge (tgt := 79) hx hb d_Q_isAddress_41 (by decide) (fun c_24 => ?_) (fun c_24 => ?_)
          · have dc_24 := i_le c_24 rfl rfl
            refine lv_iconst (v := 0) hx hb d_Q_isAddress_79 (by decide) ?_
            have hc_0 : Int32.toInt 0 = 0 := by decide
            exact fin 0 () _ _ _ ls d_Q_isAddress_80 rfl rfl hP hD hS
          · have dc_24 := i_nle c_24 rfl rfl
            refine lv_aload_n hx hb d_Q_isAddress_44 rfl (lv_at hl 1 rfl) ?_
            refine lv_iconst (v := 0) hx hb d_Q_isAddress_45 (by decide) ?_
            refine lv_iload_n hx hb d_Q_isAddress_46 rfl (lv_at hl 0 rfl) ?_
            refine lv_bipush (v := 40) hx hb d_Q_isAddress_47 (by decide) ?_
            refine va_ldcS hx hb hown (show vk_R "SieveDesk$Quoted" 43 "!#$%&'*+-/=?^_`{|}~" (k (100 + 114)) s from ke_l214 hE) d_Q_isAddress_49 ?_
            have hc_0 : Int32.toInt 0 = 0 := by decide
            have hc_40 : Int32.toInt 40 = 40 := by decide
            have hFc := va_free (wc := (WE h g len fp many tlen tat qlen md gat kind (.ref (k wi)) (.ref (k ti)) gs th st rq bl te og sc kd sr wo sa qb du)) hD hS hA [0, 1, 2, 3, 4, 5, 6, 7, 8, 9, 10] rfl
            refine va_calli (va_runV (As := [.int 0, .int i, .int 40, .ref (k (100 + 114))]) (rest := []) ⟨hx, hb, hml, hown, ht⟩ (c_Q_isDotted l dC dI k h g len fp many tlen tat qlen md gat kind gs th st rq bl te og wi ti sc kd sr sa qb du wo 0 i 40 114 _ (by omega) (by omega) (by omega) (by omega) ) (cwV 4 ht (g_V k_387 k_389 k_18 k_76 k_390) rfl rfl rfl (by decide +kernel) ⟨(Nat.le_of_ble_eq_true rfl), (Nat.le_of_ble_eq_true rfl)⟩) ⟨fb_X, va_recv hK hP (ci := 2) (q0 := 7) rfl rfl, pre_X hE hS hFc hP hK hD⟩ rfl rfl hl.1 rfl (lv_room (Nat.le_of_ble_eq_true rfl)) d_Q_isAddress_51 ⟨(Nat.le_of_ble_eq_true rfl), (Nat.le_of_ble_eq_true rfl)⟩) hS (fun q _ h9 => hFc q h9) hFc (fun r_26 u_25 t H locs het hvm hw hB hz1 hk1 hS => ?_)
            have p_27 := hw
            obtain ⟨hP1, hK1, hD1⟩ := hB
            rw [het] at hP1
            have hP : va_P (dC, dI) cls (WE h g len fp many tlen tat qlen md gat kind (.ref (k wi)) (.ref (k ti)) gs th st rq bl te og sc kd sr wo sa qb du) H := hP1
            have hD : va_D A (WE h g len fp many tlen tat qlen md gat kind (.ref (k wi)) (.ref (k ti)) gs th st rq bl te og sc kd sr wo sa qb du) := hD1.weaken (fun _ _ _ h9 => hFc _ h9)
            refine lv_if_eq (tgt := 79) hx hb d_Q_isAddress_54 (by decide) (fun c_28 => ?_) (fun c_28 => ?_)
            · refine lv_iconst (v := 0) hx hb d_Q_isAddress_79 (by decide) ?_
              exact fin 0 () _ _ _ ls d_Q_isAddress_80 rfl rfl hP hD hS
            · refine lv_aload_n hx hb d_Q_isAddress_57 rfl (lv_at hl 1 rfl) ?_
              refine lv_iload_n hx hb d_Q_isAddress_58 rfl (lv_at hl 0 rfl) ?_
              refine lv_iconst (v := 1) hx hb d_Q_isAddress_59 (by decide) ?_
              refine lv_iadd hx hb d_Q_isAddress_60 ?_
              have e_29 : Int32.toInt (i + 1) = (Int32.toInt i) + 1 := i_add rfl (show Int32.toInt 1 = 1 by decide) (by omega) (by omega)
              refine lv_aload_n hx hb d_Q_isAddress_61 rfl (lv_at hl 1 rfl) ?_
              refine va_get (D := (dC, dI)) (ci := 2) (v := .int qlen) (C := "SieveDesk$Quoted") (T := F_Q) (N := 2) hx hb ht i_Q hown hK hP 7 rfl rfl 1 (by decide) (ht _ k_111) (fun _ h9 => h9) rfl d_Q_isAddress_62 ?_
              refine lv_bipush (v := 60) hx hb d_Q_isAddress_65 (by decide) ?_
              refine va_ldcS hx hb hown (show vk_R "SieveDesk$Quoted" 49 "-" (k (100 + 115)) s from ke_l215 hE) d_Q_isAddress_67 ?_
              have hc_60 : Int32.toInt 60 = 60 := by decide
              have hFc := va_free (wc := (WE h g len fp many tlen tat qlen md gat kind (.ref (k wi)) (.ref (k ti)) gs th st rq bl te og sc kd sr wo sa qb du)) hD hS hA [0, 1, 2, 3, 4, 5, 6, 7, 8, 9, 10] rfl
              refine va_calli (va_runV (As := [.int (i + 1), .int qlen, .int 60, .ref (k (100 + 115))]) (rest := []) ⟨hx, hb, hml, hown, ht⟩ (c_Q_isDotted l dC dI k h g len fp many tlen tat qlen md gat kind gs th st rq bl te og wi ti sc kd sr sa qb du wo (i + 1) qlen 60 115 _ (by omega) (by omega) (by omega) (by omega) ) (cwV 4 ht (g_V k_387 k_389 k_18 k_76 k_390) rfl rfl rfl (by decide +kernel) ⟨(Nat.le_of_ble_eq_true rfl), (Nat.le_of_ble_eq_true rfl)⟩) ⟨fb_X, va_recv hK hP (ci := 2) (q0 := 7) rfl rfl, pre_X hE hS hFc hP hK hD⟩ rfl rfl hl.1 rfl (lv_room (Nat.le_of_ble_eq_true rfl)) d_Q_isAddress_69 ⟨(Nat.le_of_ble_eq_true rfl), (Nat.le_of_ble_eq_true rfl)⟩) hS (fun q _ h9 => hFc q h9) hFc (fun r_31 u_30 t H locs het hvm hw hB hz1 hk1 hS => ?_)
              have p_32 := hw
              obtain ⟨hP1, hK1, hD1⟩ := hB
              rw [het] at hP1
              have hP : va_P (dC, dI) cls (WE h g len fp many tlen tat qlen md gat kind (.ref (k wi)) (.ref (k ti)) gs th st rq bl te og sc kd sr wo sa qb du) H := hP1
              have hD : va_D A (WE h g len fp many tlen tat qlen md gat kind (.ref (k wi)) (.ref (k ti)) gs th st rq bl te og sc kd sr wo sa qb du) := hD1.weaken (fun _ _ _ h9 => hFc _ h9)
              refine lv_if_eq (tgt := 79) hx hb d_Q_isAddress_72 (by decide) (fun c_33 => ?_) (fun c_33 => ?_)
              · refine lv_iconst (v := 0) hx hb d_Q_isAddress_79 (by decide) ?_
                exact fin 0 () _ _ _ ls d_Q_isAddress_80 rfl rfl hP hD hS
              · refine lv_iconst (v := 1) hx hb d_Q_isAddress_75 (by decide) ?_
                refine lv_goto (tgt := 80) hx hb d_Q_isAddress_76 (by decide) ?_
                have hc_1 : Int32.toInt 1 = 1 := by decide
                exact fin 1 () _ _ _ ls d_Q_isAddress_80 rfl rfl hP hD hS
        · refine lv_iinc (v := (i + 1)) (lv' := [(1, .int (i + 1)), (0, .ref (h 7))]) hx hb d_Q_isAddress_30 hl (k := 0) rfl rfl (by decide) rfl (fun ls hl => ?_)
          have e_34 : Int32.toInt (i + 1) = (Int32.toInt i) + 1 := i_add rfl (show Int32.toInt 1 = 1 by decide) (by omega) (by omega)
          refine lv_goto (tgt := 2) hx hb d_Q_isAddress_33 (by decide) ?_
          exact ih (i + 1) (by omega) (by omega) (by omega) _ _ ls hP hD hS (lv_sub hl [0, 1] rfl)
set_option maxHeartbeats 4000000 in
set_option maxRecDepth 100000 in
theorem bd_Q_isAddress_0 {p : Program} {l : Launch} {e : Env} {s : State} {m : MethodId} {args : Array Value} {below : List Frame} {meth : Method} {c : Code} {Q : State → Prop} {A : Nat → Prop} {dC : Nat → ClassId} {dI : Nat → Nat → Nat} {k h : Nat → Nat} {g : Nat → ClassId} {len : Int32} {fp : Int32} {many : Int32} {tlen : Int32} {tat : Int32} {qlen : Int32} {md : Int32} {gat : Int32} {kind : Int32} {gs : Int32} {th : Int32} {st : Int32} {rq : Int32} {bl : Int32} {te : Int32} {og : Int32} {wi : Nat} {ti : Nat} {sc : Nat → Int32} {kd : Nat → Int32} {sr : Nat → Int32} {sa : Nat → Int32} {qb : Nat → Int32} {du : Nat → Int32} {wo : Nat → Option Nat} (hx : p.tables.exec = Jvm.exec) (hb : c.code = b_Q_isAddress) (hml : c.maxLocals = 2) (hown : s.vm.findClass "SieveDesk$Quoted" = some m.cls) (ht : ∀ w ∈ TT, w.before args s = true) (hE : KE k A s s.heap) (hA : ∀ q : Nat, s.heap.size ≤ q → A q) (hK : va_K (dC, dI) cls (TE g) s)  (h_0 : 0 ≤ Int32.toInt qlen) (h_1 : Int32.toInt qlen ≤ 200) (fin : ∀ (r : Int32) (u : Unit) (H : Heap) (locs : List Loc) (pc : Nat) (ls : Array Slot), decode b_Q_isAddress pc = .ok (.ireturn, 1) → narrow .boolean (.int r) = .int r → (narrow .boolean (.int r) = .int r) → va_P (dC, dI) cls (WE h g len fp many tlen tat qlen md gat kind (.ref (k wi)) (.ref (k ti)) gs th st rq bl te og sc kd sr wo sa qb du) H → va_D A (WE h g len fp many tlen tat qlen md gat kind (.ref (k wi)) (.ref (k ti)) gs th st rq bl te og sc kd sr wo sa qb du) → va_S A s.heap H locs → W p l e ({ frames := 5, cells := 0, slots := 0, locals := 119 } : Room) s m args below meth c H locs 0 0 Q (F0 m pc ls [.int r])) : ∀ (H : Heap) (locs : List Loc) (ls : Array Slot), va_P (dC, dI) cls (WE h g len fp many tlen tat qlen md gat kind (.ref (k wi)) (.ref (k ti)) gs th st rq bl te og sc kd sr wo sa qb du) H → va_D A (WE h g len fp many tlen tat qlen md gat kind (.ref (k wi)) (.ref (k ti)) gs th st rq bl te og sc kd sr wo sa qb du) → va_S A s.heap H locs → lv_has ls 2 [(0, .ref (h 7))] → W p l e ({ frames := 5, cells := 0, slots := 0, locals := 119 } : Room) s m args below meth c H locs 0 0 Q (F0 m 0 ls []) := by
  intro H locs ls hP hD hS hl
  refine lv_iconst (v := 0) hx hb d_Q_isAddress_0 (by decide) ?_
  refine lv_istore_n (lv' := [(1, .int 0), (0, .ref (h 7))]) hx hb d_Q_isAddress_1 rfl hl (by decide) rfl (fun ls hl => ?_)
  have hc_0 : Int32.toInt 0 = 0 := by decide
  exact (lp_Q_isAddress_2  hx hb hml hown ht hE hA hK h_0 h_1 fin _) 0 (by omega) (by omega) (Nat.lt_succ_self _) _ _ ls hP hD hS (lv_sub hl [0, 1] rfl)
set_option maxHeartbeats 4000000 in
set_option maxRecDepth 100000 in
theorem c_Q_isAddress (l : Launch) (dC : Nat → ClassId) (dI : Nat → Nat → Nat) (k : Nat → Nat) (h : Nat → Nat) (g : Nat → ClassId) (len : Int32) (fp : Int32) (many : Int32) (tlen : Int32) (tat : Int32) (qlen : Int32) (md : Int32) (gat : Int32) (kind : Int32) (gs : Int32) (th : Int32) (st : Int32) (rq : Int32) (bl : Int32) (te : Int32) (og : Int32) (wi : Nat) (ti : Nat) (sc : Nat → Int32) (kd : Nat → Int32) (sr : Nat → Int32) (sa : Nat → Int32) (qb : Nat → Int32) (du : Nat → Int32) (wo : Nat → Option Nat)  (sz : Nat) (h_0 : 0 ≤ Int32.toInt qlen) (h_1 : Int32.toInt qlen ≤ 200)  : Met l y_Q_isAddress (.code y_Q_isAddress b_Q_isAddress 2 (some .boolean) :: TT) ({ frames := 5, cells := 0, slots := 0, locals := 119 }) (va_Pc [.ref (h 7)] (PX dC dI k (TE g) (WE h g len fp many tlen tat qlen md gat kind (.ref (k wi)) (.ref (k ti)) gs th st rq bl te og sc kd sr wo sa qb du) sz)) (va_Qi (fun (r : Int32) (u : Unit) => narrow .boolean (.int r) = .int r) (fun u t => BX dC dI (TE g) (va_A (WE h g len fp many tlen tat qlen md gat kind (.ref (k wi)) (.ref (k ti)) gs th st rq bl te og sc kd sr wo sa qb du) sz) (WE h g len fp many tlen tat qlen md gat kind (.ref (k wi)) (.ref (k ti)) gs th st rq bl te og sc kd sr wo sa qb du) t) (va_A (WE h g len fp many tlen tat qlen md gat kind (.ref (k wi)) (.ref (k ti)) gs th st rq bl te og sc kd sr wo sa qb du) sz)) 0 0 (va_A (WE h g len fp many tlen tat qlen md gat kind (.ref (k wi)) (.ref (k ti)) gs th st rq bl te og sc kd sr wo sa qb du) sz) := by
  refine Met.ofW (cc := b_Q_isAddress) (maxL := 2) (ret := (some .boolean)) (by decide) rfl ?_
  intro p e s m args below meth c s₁ B hml hv
  obtain ⟨rfl, hsz, hE, hP, hK, hD0⟩ := hv
  have hx := B.exec
  have hb := B.bytes
  have hr := B.returns
  have ht : ∀ w ∈ TT, w.before _ s = true := fun w hw => atoms_spec (ws := .code y_Q_isAddress b_Q_isAddress 2 (some .boolean) :: TT) B.pre w (List.mem_cons_of_mem _ hw)
  have hown : s.vm.findClass "SieveDesk$Quoted" = some m.cls := findClass_of_methodNamed B.named
  have hlocks := B.notSynchronized
  subst hsz
  have hD := hD0.self (sz := s.heap.size)
  generalize hAe : va_A (WE h g len fp many tlen tat qlen md gat kind (.ref (k wi)) (.ref (k ti)) gs th st rq bl te og sc kd sr wo sa qb du) s.heap.size = A at hE hD ⊢
  have hA : ∀ q : Nat, s.heap.size ≤ q → A q := fun q h9 => by rw [← hAe]; exact Or.inr h9
  have hS : va_S A s.heap s.heap [] := va_S.rf
  have hl := lv_entry ([.ref (h 7)]) (n := 2) (Nat.le_of_ble_eq_true rfl)
  rw [lg_entry_eq]
  generalize (lg_sl ([.ref (h 7)]) ++ List.replicate (2 - (lg_sl ([.ref (h 7)])).length) Slot.unset).toArray = ls at hl ⊢
  have hl : lv_has ls 2 [(0, .ref (h 7))] := hl
  exact bd_Q_isAddress_0  hx hb hml hown ht hE hA hK h_0 h_1 (fun r u H locs pc ls hd hn hp hP hD hS => W.zret hx hb hr hn (fun t het hW => ⟨⟨r, u, rfl, hp, by rw [het]; exact hP, va_K.moved hW.alike hK, hD⟩, hS.F het⟩) hS.2.2 hd)   _ _ ls hP hD hS hl
set_option maxHeartbeats 4000000 in
set_option maxRecDepth 100000 in
theorem lp_Q_says_32 {p : Program} {l : Launch} {e : Env} {s : State} {m : MethodId} {args : Array Value} {below : List Frame} {meth : Method} {c : Code} {Q : State → Prop} {A : Nat → Prop} {dC : Nat → ClassId} {dI : Nat → Nat → Nat} {k h : Nat → Nat} {g : Nat → ClassId} {len : Int32} {fp : Int32} {many : Int32} {tlen : Int32} {tat : Int32} {qlen : Int32} {md : Int32} {gat : Int32} {kind : Int32} {gs : Int32} {th : Int32} {st : Int32} {rq : Int32} {bl : Int32} {te : Int32} {og : Int32} {wi : Nat} {ti : Nat} {sc : Nat → Int32} {kd : Nat → Int32} {sr : Nat → Int32} {sa : Nat → Int32} {qb : Nat → Int32} {du : Nat → Int32} {wo : Nat → Option Nat} (hx : p.tables.exec = Jvm.exec) (hb : c.code = b_Q_says) (hml : c.maxLocals = 3) (hown : s.vm.findClass "SieveDesk$Quoted" = some m.cls) (ht : ∀ w ∈ TT, w.before args s = true) (hE : KE k A s s.heap) (hA : ∀ q : Nat, s.heap.size ≤ q → A q) (hK : va_K (dC, dI) cls (TE g) s)  (h_0 : 0 ≤ Int32.toInt qlen) (h_1 : Int32.toInt qlen ≤ 200) (fin : ∀ (r : Int32) (u : Unit) (H : Heap) (locs : List Loc) (pc : Nat) (ls : Array Slot), decode b_Q_says pc = .ok (.ireturn, 1) → (True) → va_P (dC, dI) cls (WE h g len fp many tlen tat qlen md gat kind (.ref (k wi)) (.ref (k ti)) gs th st rq bl te og sc kd sr wo sa qb du) H → va_D A (WE h g len fp many tlen tat qlen md gat kind (.ref (k wi)) (.ref (k ti)) gs th st rq bl te og sc kd sr wo sa qb du) → va_S A s.heap H locs → W p l e ({ frames := 6, cells := 0, slots := 0, locals := 140 } : Room) s m args below meth c H locs 0 0 Q (F0 m pc ls [.int r])) : ∀ (nn : Nat), ∀ (sy : Int32) (i : Int32), 0 ≤ Int32.toInt i → (17 - Int32.toInt i).toNat < nn → ∀ (H : Heap) (locs : List Loc) (ls : Array Slot), va_P (dC, dI) cls (WE h g len fp many tlen tat qlen md gat kind (.ref (k wi)) (.ref (k ti)) gs th st rq bl te og sc kd sr wo sa qb du) H → va_D A (WE h g len fp many tlen tat qlen md gat kind (.ref (k wi)) (.ref (k ti)) gs th st rq bl te og sc kd sr wo sa qb du) → va_S A s.heap H locs → lv_has ls 3 [(1, .int sy), (2, .int i), (0, .ref (h 7))] → W p l e ({ frames := 6, cells := 0, slots := 0, locals := 140 } : Room) s m args below meth c H locs 0 0 Q (F0 m 32 ls []) := by
  intro nn
  induction nn with
  | zero =>
    intro _ _ _ hm
    exact absurd hm (Nat.not_lt_zero _)
  | succ nn ih =>
    intro sy i v_0 hm H locs ls hP hD hS hl
    refine lv_iload_n hx hb d_Q_says_32 rfl (lv_at hl 1 rfl) ?_
    refine va_getsN hx hb (ke_N_EACH hE) hS hown (nw_use n_453 (hE.1 _ n_453)) (fun _ h9 => h9) d_Q_says_33 ?_
    refine va_tlen (v := 17) hx hb (ke_tn hE) hS (by decide) d_Q_says_36 ?_
    refine lv_icmp_ge (tgt := 80) hx hb d_Q_says_37 (by decide) (fun c_1 => ?_) (fun c_1 => ?_)
    · have dc_1 := i_le c_1 (show Int32.toInt 17 = 17 by decide) rfl
      refine lv_iload_n hx hb d_Q_says_80 rfl (lv_at hl 0 rfl) ?_
      exact fin sy () _ _ _ ls d_Q_says_81 trivial hP hD hS
    · have dc_1 := i_nle c_1 (show Int32.toInt 17 = 17 by decide) rfl
      refine lv_aload_n hx hb d_Q_says_40 rfl (lv_at hl 2 rfl) ?_
      refine va_get (D := (dC, dI)) (ci := 2) (v := .ref (h 8)) (C := "SieveDesk$Quoted") (T := F_Q) (N := 2) hx hb ht i_Q hown hK hP 7 rfl rfl 0 (by decide) (ht _ k_110) (fun _ h9 => h9) rfl d_Q_says_41 ?_
      refine lv_iconst (v := 0) hx hb d_Q_says_44 (by decide) ?_
      refine lv_aload_n hx hb d_Q_says_45 rfl (lv_at hl 2 rfl) ?_
      refine va_get (D := (dC, dI)) (ci := 2) (v := .int qlen) (C := "SieveDesk$Quoted") (T := F_Q) (N := 2) hx hb ht i_Q hown hK hP 7 rfl rfl 1 (by decide) (ht _ k_111) (fun _ h9 => h9) rfl d_Q_says_46 ?_
      refine va_getsN hx hb (ke_N_EACH hE) hS hown (nw_use n_453 (hE.1 _ n_453)) (fun _ h9 => h9) d_Q_says_49 ?_
      refine lv_iload_n hx hb d_Q_says_52 rfl (lv_at hl 1 rfl) ?_
      refine vb_tq hx hb (ke_tn hE) hS (i := i) (v := .ref (k (50 + Int32.toNatClampNeg i))) (i_in rfl (by omega) (by omega)) rfl d_Q_says_53 ?_
      obtain ⟨z_2, hz_2, ez_2⟩ : ∃ z : Nat, z < 17 ∧ Int32.toNatClampNeg i = z := ⟨_, i_cl rfl (by omega) (by omega), rfl⟩
      refine lv_evv (b := .ref (k (50 + z_2))) (by rw [ez_2]) ?_
      refine vk_getfN hx hb (ke_n hE (i := z_2) (by omega)).1 hS hown (nw_use n_870 (hE.1 _ n_870)) (fun _ h9 => h9) d_Q_says_54 ?_
      have hc_0 : Int32.toInt 0 = 0 := by decide
      have hFc := va_free (wc := (WE h g len fp many tlen tat qlen md gat kind (.ref (k wi)) (.ref (k ti)) gs th st rq bl te og sc kd sr wo sa qb du)) hD hS hA [0, 1, 2, 3, 4, 5, 6, 7, 8, 9, 10] rfl
      refine va_calli (va_runSN (As := [.ref (h 8), .int 0, .int qlen, .ref (k (100 + (90 + z_2)))]) (rest := []) ⟨hx, hb, hml, hown, ht⟩ (c_S_same_q l dC dI k h g len fp many tlen tat qlen md gat kind gs th st rq bl te og wi ti sc kd sr sa qb du wo 0 qlen (90 + z_2) _ (by omega) (by omega) (by omega) (by omega) ) ⟨va_cnB 4 ht (g_C k_283) rfl rfl rfl (hE.1 _ n_455) (ht _ k_74) (by decide +kernel) ⟨(Nat.le_of_ble_eq_true rfl), (Nat.le_of_ble_eq_true rfl)⟩, (ht _ k_282), trivial⟩ ⟨fb_X, pre_X hE hS hFc hP hK hD⟩ rfl rfl hl.1 rfl (lv_room (Nat.le_of_ble_eq_true rfl)) d_Q_says_57 ⟨(Nat.le_of_ble_eq_true rfl), (Nat.le_of_ble_eq_true rfl)⟩) hS (fun q _ h9 => hFc q h9) hFc (fun r_4 u_3 t H locs het hvm hw hB hz1 hk1 hS => ?_)
      have p_5 := hw
      obtain ⟨hP1, hK1, hD1⟩ := hB
      rw [het] at hP1
      have hP : va_P (dC, dI) cls (WE h g len fp many tlen tat qlen md gat kind (.ref (k wi)) (.ref (k ti)) gs th st rq bl te og sc kd sr wo sa qb du) H := hP1
      have hD : va_D A (WE h g len fp many tlen tat qlen md gat kind (.ref (k wi)) (.ref (k ti)) gs th st rq bl te og sc kd sr wo sa qb du) := hD1.weaken (fun _ _ _ h9 => hFc _ h9)
      refine lv_if_eq (tgt := 74) hx hb d_Q_says_60 (by decide) (fun c_6 => ?_) (fun c_6 => ?_)
      · refine lv_iinc (v := (i + 1)) (lv' := [(2, .int (i + 1)), (1, .int sy), (0, .ref (h 7))]) hx hb d_Q_says_74 hl (k := 1) rfl rfl (by decide) rfl (fun ls hl => ?_)
        have e_7 : Int32.toInt (i + 1) = (Int32.toInt i) + 1 := i_add rfl (show Int32.toInt 1 = 1 by decide) (by omega) (by omega)
        refine lv_goto (tgt := 32) hx hb d_Q_says_77 (by decide) ?_
        exact ih sy (i + 1) (by omega) (by omega) _ _ ls hP hD hS (lv_sub hl [1, 0, 2] rfl)
      · refine lv_iload_n hx hb d_Q_says_63 rfl (lv_at hl 0 rfl) ?_
        refine va_getsN hx hb (ke_N_EACH hE) hS hown (nw_use n_453 (hE.1 _ n_453)) (fun _ h9 => h9) d_Q_says_64 ?_
        refine lv_iload_n hx hb d_Q_says_67 rfl (lv_at hl 1 rfl) ?_
        refine vb_tq hx hb (ke_tn hE) hS (i := i) (v := .ref (k (50 + Int32.toNatClampNeg i))) (i_in rfl (by omega) (by omega)) rfl d_Q_says_68 ?_
        obtain ⟨z_8, hz_8, ez_8⟩ : ∃ z : Nat, z < 17 ∧ Int32.toNatClampNeg i = z := ⟨_, i_cl rfl (by omega) (by omega), rfl⟩
        refine lv_evv (b := .ref (k (50 + z_8))) (by rw [ez_8]) ?_
        obtain ⟨r_9, hr_9⟩ := (ke_n hE (i := z_8) (by omega)).2
        refine vk_getfN hx hb hr_9 hS hown (nw_use n_871 (hE.1 _ n_871)) (fun _ h9 => h9) d_Q_says_69 ?_
        refine lv_ior hx hb d_Q_says_72 ?_
        refine lv_istore_n (lv' := [(1, .int (sy ||| r_9)), (2, .int i), (0, .ref (h 7))]) hx hb d_Q_says_73 rfl hl (by decide) rfl (fun ls hl => ?_)
        refine lv_iinc (v := (i + 1)) (lv' := [(2, .int (i + 1)), (1, .int (sy ||| r_9)), (0, .ref (h 7))]) hx hb d_Q_says_74 hl (k := 1) rfl rfl (by decide) rfl (fun ls hl => ?_)
        have e_10 : Int32.toInt (i + 1) = (Int32.toInt i) + 1 := i_add rfl (show Int32.toInt 1 = 1 by decide) (by omega) (by omega)
        refine lv_goto (tgt := 32) hx hb d_Q_says_77 (by decide) ?_
        exact ih (sy ||| r_9) (i + 1) (by omega) (by omega) _ _ ls hP hD hS (lv_sub hl [1, 0, 2] rfl)
set_option maxHeartbeats 4000000 in
set_option maxRecDepth 100000 in
theorem bd_Q_says_0 {p : Program} {l : Launch} {e : Env} {s : State} {m : MethodId} {args : Array Value} {below : List Frame} {meth : Method} {c : Code} {Q : State → Prop} {A : Nat → Prop} {dC : Nat → ClassId} {dI : Nat → Nat → Nat} {k h : Nat → Nat} {g : Nat → ClassId} {len : Int32} {fp : Int32} {many : Int32} {tlen : Int32} {tat : Int32} {qlen : Int32} {md : Int32} {gat : Int32} {kind : Int32} {gs : Int32} {th : Int32} {st : Int32} {rq : Int32} {bl : Int32} {te : Int32} {og : Int32} {wi : Nat} {ti : Nat} {sc : Nat → Int32} {kd : Nat → Int32} {sr : Nat → Int32} {sa : Nat → Int32} {qb : Nat → Int32} {du : Nat → Int32} {wo : Nat → Option Nat} (hx : p.tables.exec = Jvm.exec) (hb : c.code = b_Q_says) (hml : c.maxLocals = 3) (hown : s.vm.findClass "SieveDesk$Quoted" = some m.cls) (ht : ∀ w ∈ TT, w.before args s = true) (hE : KE k A s s.heap) (hA : ∀ q : Nat, s.heap.size ≤ q → A q) (hK : va_K (dC, dI) cls (TE g) s)  (h_0 : 0 ≤ Int32.toInt qlen) (h_1 : Int32.toInt qlen ≤ 200) (fin : ∀ (r : Int32) (u : Unit) (H : Heap) (locs : List Loc) (pc : Nat) (ls : Array Slot), decode b_Q_says pc = .ok (.ireturn, 1) → (True) → va_P (dC, dI) cls (WE h g len fp many tlen tat qlen md gat kind (.ref (k wi)) (.ref (k ti)) gs th st rq bl te og sc kd sr wo sa qb du) H → va_D A (WE h g len fp many tlen tat qlen md gat kind (.ref (k wi)) (.ref (k ti)) gs th st rq bl te og sc kd sr wo sa qb du) → va_S A s.heap H locs → W p l e ({ frames := 6, cells := 0, slots := 0, locals := 140 } : Room) s m args below meth c H locs 0 0 Q (F0 m pc ls [.int r])) : ∀ (H : Heap) (locs : List Loc) (ls : Array Slot), va_P (dC, dI) cls (WE h g len fp many tlen tat qlen md gat kind (.ref (k wi)) (.ref (k ti)) gs th st rq bl te og sc kd sr wo sa qb du) H → va_D A (WE h g len fp many tlen tat qlen md gat kind (.ref (k wi)) (.ref (k ti)) gs th st rq bl te og sc kd sr wo sa qb du) → va_S A s.heap H locs → lv_has ls 3 [(0, .ref (h 7))] → W p l e ({ frames := 6, cells := 0, slots := 0, locals := 140 } : Room) s m args below meth c H locs 0 0 Q (F0 m 0 ls []) := by
  intro H locs ls hP hD hS hl
  refine lv_sipush (v := 256) hx hb d_Q_says_0 (by decide) ?_
  refine lv_istore_n (lv' := [(1, .int 256), (0, .ref (h 7))]) hx hb d_Q_says_3 rfl hl (by decide) rfl (fun ls hl => ?_)
  refine lv_aload_n hx hb d_Q_says_4 rfl (lv_at hl 1 rfl) ?_
  have hFc := va_free (wc := (WE h g len fp many tlen tat qlen md gat kind (.ref (k wi)) (.ref (k ti)) gs th st rq bl te og sc kd sr wo sa qb du)) hD hS hA [0, 1, 2, 3, 4, 5, 6, 7, 8, 9, 10] rfl
  refine va_calli (va_runV (As := []) (rest := []) ⟨hx, hb, hml, hown, ht⟩ (c_Q_isMailbox l dC dI k h g len fp many tlen tat qlen md gat kind gs th st rq bl te og wi ti sc kd sr sa qb du wo  _ (by omega) (by omega) ) (cwV 0 ht (g_V k_378 k_380 k_16 k_76 k_381) rfl rfl rfl (by decide +kernel) ⟨(Nat.le_of_ble_eq_true rfl), (Nat.le_of_ble_eq_true rfl)⟩) ⟨fb_X, va_recv hK hP (ci := 2) (q0 := 7) rfl rfl, pre_X hE hS hFc hP hK hD⟩ rfl rfl hl.1 rfl (lv_room (Nat.le_of_ble_eq_true rfl)) d_Q_says_5 ⟨(Nat.le_of_ble_eq_true rfl), (Nat.le_of_ble_eq_true rfl)⟩) hS (fun q _ h9 => hFc q h9) hFc (fun r_12 u_11 t H locs het hvm hw hB hz1 hk1 hS => ?_)
  have p_13 := hw
  obtain ⟨hP1, hK1, hD1⟩ := hB
  rw [het] at hP1
  have hP : va_P (dC, dI) cls (WE h g len fp many tlen tat qlen md gat kind (.ref (k wi)) (.ref (k ti)) gs th st rq bl te og sc kd sr wo sa qb du) H := hP1
  have hD : va_D A (WE h g len fp many tlen tat qlen md gat kind (.ref (k wi)) (.ref (k ti)) gs th st rq bl te og sc kd sr wo sa qb du) := hD1.weaken (fun _ _ _ h9 => hFc _ h9)
  refine lv_if_eq (tgt := 17) hx hb d_Q_says_8 (by decide) (fun c_14 => ?_) (fun c_14 => ?_)
  · refine lv_aload_n hx hb d_Q_says_17 rfl (lv_at hl 1 rfl) ?_
    have hFc := va_free (wc := (WE h g len fp many tlen tat qlen md gat kind (.ref (k wi)) (.ref (k ti)) gs th st rq bl te og sc kd sr wo sa qb du)) hD hS hA [0, 1, 2, 3, 4, 5, 6, 7, 8, 9, 10] rfl
    refine va_calli (va_runV (As := []) (rest := []) ⟨hx, hb, hml, hown, ht⟩ (c_Q_isAddress l dC dI k h g len fp many tlen tat qlen md gat kind gs th st rq bl te og wi ti sc kd sr sa qb du wo  _ (by omega) (by omega) ) (cwV 0 ht (g_V k_382 k_384 k_17 k_76 k_385) rfl rfl rfl (by decide +kernel) ⟨(Nat.le_of_ble_eq_true rfl), (Nat.le_of_ble_eq_true rfl)⟩) ⟨fb_X, va_recv hK hP (ci := 2) (q0 := 7) rfl rfl, pre_X hE hS hFc hP hK hD⟩ rfl rfl hl.1 rfl (lv_room (Nat.le_of_ble_eq_true rfl)) d_Q_says_18 ⟨(Nat.le_of_ble_eq_true rfl), (Nat.le_of_ble_eq_true rfl)⟩) hS (fun q _ h9 => hFc q h9) hFc (fun r_16 u_15 t H locs het hvm hw hB hz1 hk1 hS => ?_)
    have p_17 := hw
    obtain ⟨hP1, hK1, hD1⟩ := hB
    rw [het] at hP1
    have hP : va_P (dC, dI) cls (WE h g len fp many tlen tat qlen md gat kind (.ref (k wi)) (.ref (k ti)) gs th st rq bl te og sc kd sr wo sa qb du) H := hP1
    have hD : va_D A (WE h g len fp many tlen tat qlen md gat kind (.ref (k wi)) (.ref (k ti)) gs th st rq bl te og sc kd sr wo sa qb du) := hD1.weaken (fun _ _ _ h9 => hFc _ h9)
    refine lv_if_eq (tgt := 30) hx hb d_Q_says_21 (by decide) (fun c_18 => ?_) (fun c_18 => ?_)
    · refine lv_iconst (v := 0) hx hb d_Q_says_30 (by decide) ?_
      refine lv_istore_n (lv' := [(2, .int 0), (1, .int 256), (0, .ref (h 7))]) hx hb d_Q_says_31 rfl hl (by decide) rfl (fun ls hl => ?_)
      have hc_256 : Int32.toInt 256 = 256 := by decide
      have hc_0 : Int32.toInt 0 = 0 := by decide
      exact (lp_Q_says_32  hx hb hml hown ht hE hA hK h_0 h_1 fin _) 256 0 (by omega) (Nat.lt_succ_self _) _ _ ls hP hD hS (lv_sub hl [1, 0, 2] rfl)
    · refine lv_iload_n hx hb d_Q_says_24 rfl (lv_at hl 0 rfl) ?_
      refine lv_sipush (v := 8192) hx hb d_Q_says_25 (by decide) ?_
      refine lv_ior hx hb d_Q_says_28 ?_
      refine lv_ev (show (256 : Int32) ||| 8192 = 8448 by decide) ?_
      refine lv_istore_n (lv' := [(1, .int 8448), (0, .ref (h 7))]) hx hb d_Q_says_29 rfl hl (by decide) rfl (fun ls hl => ?_)
      refine lv_iconst (v := 0) hx hb d_Q_says_30 (by decide) ?_
      refine lv_istore_n (lv' := [(2, .int 0), (1, .int 8448), (0, .ref (h 7))]) hx hb d_Q_says_31 rfl hl (by decide) rfl (fun ls hl => ?_)
      have hc_8448 : Int32.toInt 8448 = 8448 := by decide
      have hc_0 : Int32.toInt 0 = 0 := by decide
      exact (lp_Q_says_32  hx hb hml hown ht hE hA hK h_0 h_1 fin _) 8448 0 (by omega) (Nat.lt_succ_self _) _ _ ls hP hD hS (lv_sub hl [1, 0, 2] rfl)
  · refine lv_iload_n hx hb d_Q_says_11 rfl (lv_at hl 0 rfl) ?_
    refine lv_sipush (v := 4096) hx hb d_Q_says_12 (by decide) ?_
    refine lv_ior hx hb d_Q_says_15 ?_
    refine lv_ev (show (256 : Int32) ||| 4096 = 4352 by decide) ?_
    refine lv_istore_n (lv' := [(1, .int 4352), (0, .ref (h 7))]) hx hb d_Q_says_16 rfl hl (by decide) rfl (fun ls hl => ?_)
    refine lv_aload_n hx hb d_Q_says_17 rfl (lv_at hl 1 rfl) ?_
    have hFc := va_free (wc := (WE h g len fp many tlen tat qlen md gat kind (.ref (k wi)) (.ref (k ti)) gs th st rq bl te og sc kd sr wo sa qb du)) hD hS hA [0, 1, 2, 3, 4, 5, 6, 7, 8, 9, 10] rfl
    refine va_calli (va_runV (As := []) (rest := []) ⟨hx, hb, hml, hown, ht⟩ (c_Q_isAddress l dC dI k h g len fp many tlen tat qlen md gat kind gs th st rq bl te og wi ti sc kd sr sa qb du wo  _ (by omega) (by omega) ) (cwV 0 ht (g_V k_382 k_384 k_17 k_76 k_385) rfl rfl rfl (by decide +kernel) ⟨(Nat.le_of_ble_eq_true rfl), (Nat.le_of_ble_eq_true rfl)⟩) ⟨fb_X, va_recv hK hP (ci := 2) (q0 := 7) rfl rfl, pre_X hE hS hFc hP hK hD⟩ rfl rfl hl.1 rfl (lv_room (Nat.le_of_ble_eq_true rfl)) d_Q_says_18 ⟨(Nat.le_of_ble_eq_true rfl), (Nat.le_of_ble_eq_true rfl)⟩) hS (fun q _ h9 => hFc q h9) hFc (fun r_20 u_19 t H locs het hvm hw hB hz1 hk1 hS => ?_)
    have p_21 := hw
    obtain ⟨hP1, hK1, hD1⟩ := hB
    rw [het] at hP1
    have hP : va_P (dC, dI) cls (WE h g len fp many tlen tat qlen md gat kind (.ref (k wi)) (.ref (k ti)) gs th st rq bl te og sc kd sr wo sa qb du) H := hP1
    have hD : va_D A (WE h g len fp many tlen tat qlen md gat kind (.ref (k wi)) (.ref (k ti)) gs th st rq bl te og sc kd sr wo sa qb du) := hD1.weaken (fun _ _ _ h9 => hFc _ h9)
    refine lv_if_eq (tgt := 30) hx hb d_Q_says_21 (by decide) (fun c_22 => ?_) (fun c_22 => ?_)
    · refine lv_iconst (v := 0) hx hb d_Q_says_30 (by decide) ?_
      refine lv_istore_n (lv' := [(2, .int 0), (1, .int 4352), (0, .ref (h 7))]) hx hb d_Q_says_31 rfl hl (by decide) rfl (fun ls hl => ?_)
      have hc_4352 : Int32.toInt 4352 = 4352 := by decide
      have hc_0 : Int32.toInt 0 = 0 := by decide
      exact (lp_Q_says_32  hx hb hml hown ht hE hA hK h_0 h_1 fin _) 4352 0 (by omega) (Nat.lt_succ_self _) _ _ ls hP hD hS (lv_sub hl [1, 0, 2] rfl)
    · refine lv_iload_n hx hb d_Q_says_24 rfl (lv_at hl 0 rfl) ?_
      refine lv_sipush (v := 8192) hx hb d_Q_says_25 (by decide) ?_
      refine lv_ior hx hb d_Q_says_28 ?_
      refine lv_ev (show (4352 : Int32) ||| 8192 = 12544 by decide) ?_
      refine lv_istore_n (lv' := [(1, .int 12544), (0, .ref (h 7))]) hx hb d_Q_says_29 rfl hl (by decide) rfl (fun ls hl => ?_)
      refine lv_iconst (v := 0) hx hb d_Q_says_30 (by decide) ?_
      refine lv_istore_n (lv' := [(2, .int 0), (1, .int 12544), (0, .ref (h 7))]) hx hb d_Q_says_31 rfl hl (by decide) rfl (fun ls hl => ?_)
      have hc_12544 : Int32.toInt 12544 = 12544 := by decide
      have hc_0 : Int32.toInt 0 = 0 := by decide
      exact (lp_Q_says_32  hx hb hml hown ht hE hA hK h_0 h_1 fin _) 12544 0 (by omega) (Nat.lt_succ_self _) _ _ ls hP hD hS (lv_sub hl [1, 0, 2] rfl)
set_option maxHeartbeats 4000000 in
set_option maxRecDepth 100000 in
theorem c_Q_says (l : Launch) (dC : Nat → ClassId) (dI : Nat → Nat → Nat) (k : Nat → Nat) (h : Nat → Nat) (g : Nat → ClassId) (len : Int32) (fp : Int32) (many : Int32) (tlen : Int32) (tat : Int32) (qlen : Int32) (md : Int32) (gat : Int32) (kind : Int32) (gs : Int32) (th : Int32) (st : Int32) (rq : Int32) (bl : Int32) (te : Int32) (og : Int32) (wi : Nat) (ti : Nat) (sc : Nat → Int32) (kd : Nat → Int32) (sr : Nat → Int32) (sa : Nat → Int32) (qb : Nat → Int32) (du : Nat → Int32) (wo : Nat → Option Nat)  (sz : Nat) (h_0 : 0 ≤ Int32.toInt qlen) (h_1 : Int32.toInt qlen ≤ 200)  : Met l y_Q_says (.code y_Q_says b_Q_says 3 (some .int) :: TT) ({ frames := 6, cells := 0, slots := 0, locals := 140 }) (va_Pc [.ref (h 7)] (PX dC dI k (TE g) (WE h g len fp many tlen tat qlen md gat kind (.ref (k wi)) (.ref (k ti)) gs th st rq bl te og sc kd sr wo sa qb du) sz)) (va_Qi (fun (r : Int32) (u : Unit) => True) (fun u t => BX dC dI (TE g) (va_A (WE h g len fp many tlen tat qlen md gat kind (.ref (k wi)) (.ref (k ti)) gs th st rq bl te og sc kd sr wo sa qb du) sz) (WE h g len fp many tlen tat qlen md gat kind (.ref (k wi)) (.ref (k ti)) gs th st rq bl te og sc kd sr wo sa qb du) t) (va_A (WE h g len fp many tlen tat qlen md gat kind (.ref (k wi)) (.ref (k ti)) gs th st rq bl te og sc kd sr wo sa qb du) sz)) 0 0 (va_A (WE h g len fp many tlen tat qlen md gat kind (.ref (k wi)) (.ref (k ti)) gs th st rq bl te og sc kd sr wo sa qb du) sz) := by
  refine Met.ofW (cc := b_Q_says) (maxL := 3) (ret := (some .int)) (by decide) rfl ?_
  intro p e s m args below meth c s₁ B hml hv
  obtain ⟨rfl, hsz, hE, hP, hK, hD0⟩ := hv
  have hx := B.exec
  have hb := B.bytes
  have hr := B.returns
  have ht : ∀ w ∈ TT, w.before _ s = true := fun w hw => atoms_spec (ws := .code y_Q_says b_Q_says 3 (some .int) :: TT) B.pre w (List.mem_cons_of_mem _ hw)
  have hown : s.vm.findClass "SieveDesk$Quoted" = some m.cls := findClass_of_methodNamed B.named
  have hlocks := B.notSynchronized
  subst hsz
  have hD := hD0.self (sz := s.heap.size)
  generalize hAe : va_A (WE h g len fp many tlen tat qlen md gat kind (.ref (k wi)) (.ref (k ti)) gs th st rq bl te og sc kd sr wo sa qb du) s.heap.size = A at hE hD ⊢
  have hA : ∀ q : Nat, s.heap.size ≤ q → A q := fun q h9 => by rw [← hAe]; exact Or.inr h9
  have hS : va_S A s.heap s.heap [] := va_S.rf
  have hl := lv_entry ([.ref (h 7)]) (n := 3) (Nat.le_of_ble_eq_true rfl)
  rw [lg_entry_eq]
  generalize (lg_sl ([.ref (h 7)]) ++ List.replicate (3 - (lg_sl ([.ref (h 7)])).length) Slot.unset).toArray = ls at hl ⊢
  have hl : lv_has ls 3 [(0, .ref (h 7))] := hl
  exact bd_Q_says_0  hx hb hml hown ht hE hA hK h_0 h_1 (fun r u H locs pc ls hd hp hP hD hS => W.iret hx hb hr (fun t het hW => ⟨⟨r, u, rfl, hp, by rw [het]; exact hP, va_K.moved hW.alike hK, hD⟩, hS.F het⟩) hS.2.2 hd)   _ _ ls hP hD hS hl

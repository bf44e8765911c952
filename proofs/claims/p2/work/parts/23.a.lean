set_option maxHeartbeats 4000000 in
set_option maxRecDepth 100000 in
theorem lp_D_spelled_2 {p : Program} {l : Launch} {e : Env} {s : State} {m : MethodId} {args : Array Value} {below : List Frame} {meth : Method} {c : Code} {Q : State → Prop} {A : Nat → Prop} {dC : Nat → ClassId} {dI : Nat → Nat → Nat} {k h : Nat → Nat} {g : Nat → ClassId} {len : Int32} {fp : Int32} {many : Int32} {tlen : Int32} {tat : Int32} {qlen : Int32} {md : Int32} {gat : Int32} {kind : Int32} {gs : Int32} {th : Int32} {st : Int32} {rq : Int32} {bl : Int32} {te : Int32} {og : Int32} {wi : Nat} {ti : Nat} {sc : Nat → Int32} {kd : Nat → Int32} {sr : Nat → Int32} {sa : Nat → Int32} {qb : Nat → Int32} {du : Nat → Int32} {wo : Nat → Option Nat} (hx : p.tables.exec = Jvm.exec) (hb : c.code = b_D_spelled) (hml : c.maxLocals = 4) (hown : s.vm.findClass "SieveDesk$Word" = some m.cls) (ht : ∀ w ∈ TT, w.before args s = true) (hE : KE k A s s.heap) (hA : ∀ q : Nat, s.heap.size ≤ q → A q) (hK : va_K (dC, dI) cls (TE g) s) {fr to : Int32} (h_0 : Int32.toInt fr ≤ 1000) (h_1 : -1000 ≤ Int32.toInt to) (h_2 : Int32.toInt to ≤ 1000) (fin : ∀ (r : Nat) (u : Unit) (H : Heap) (locs : List Loc) (pc : Nat) (ls : Array Slot), decode b_D_spelled pc = .ok (.areturn, 1) → (r < 43) → va_P (dC, dI) cls (WE h g len fp many tlen tat qlen md gat kind (.ref (k wi)) (.ref (k ti)) gs th st rq bl te og sc kd sr wo sa qb du) H → va_D A (WE h g len fp many tlen tat qlen md gat kind (.ref (k wi)) (.ref (k ti)) gs th st rq bl te og sc kd sr wo sa qb du) → va_S A s.heap H locs → W p l e ({ frames := 5, cells := 0, slots := 0, locals := 111 } : Room) s m args below meth c H locs 0 0 Q (F0 m pc ls [.ref (k r)])) : ∀ (nn : Nat), ∀ (i : Int32), 0 ≤ Int32.toInt i → (43 - Int32.toInt i).toNat < nn → ∀ (H : Heap) (locs : List Loc) (ls : Array Slot), va_P (dC, dI) cls (WE h g len fp many tlen tat qlen md gat kind (.ref (k wi)) (.ref (k ti)) gs th st rq bl te og sc kd sr wo sa qb du) H → va_D A (WE h g len fp many tlen tat qlen md gat kind (.ref (k wi)) (.ref (k ti)) gs th st rq bl te og sc kd sr wo sa qb du) → va_S A s.heap H locs → lv_has ls 4 [(3, .int i), (0, .ref (h 1)), (1, .int fr), (2, .int to)] → W p l e ({ frames := 5, cells := 0, slots := 0, locals := 111 } : Room) s m args below meth c H locs 0 0 Q (F0 m 2 ls []) := by
  intro nn
  induction nn with
  | zero =>
    intro _ _ hm
    exact absurd hm (Nat.not_lt_zero _)
  | succ nn ih =>
    intro i v_0 hm H locs ls hP hD hS hl
    refine lv_iload_n hx hb d_D_spelled_2 rfl (lv_at hl 0 rfl) ?_
    refine va_gets hx hb (ke_W_EACH hE) hS hown (ht _ k_343) (fun _ h9 => h9) d_D_spelled_3 ?_
    refine va_tlen (v := 43) hx hb (ke_tw hE) hS (by decide) d_D_spelled_6 ?_
    refine lv_icmp_ge (tgt := 39) hx hb d_D_spelled_7 (by decide) (fun c_1 => ?_) (fun c_1 => ?_)
    · have dc_1 := i_le c_1 (show Int32.toInt 43 = 43 by decide) rfl
      refine va_gets hx hb (ke_W_NONE hE) hS hown (ht _ k_346) (fun _ h9 => h9) d_D_spelled_39 ?_
      exact fin 0 () _ _ _ ls d_D_spelled_42 (by (try dsimp only); omega) hP hD hS
    · have dc_1 := i_nle c_1 (show Int32.toInt 43 = 43 by decide) rfl
      refine lv_aload_n hx hb d_D_spelled_10 rfl (lv_at hl 1 rfl) ?_
      refine lv_iload_n hx hb d_D_spelled_11 rfl (lv_at hl 2 rfl) ?_
      refine lv_iload_n hx hb d_D_spelled_12 rfl (lv_at hl 3 rfl) ?_
      refine va_gets hx hb (ke_W_EACH hE) hS hown (ht _ k_343) (fun _ h9 => h9) d_D_spelled_13 ?_
      refine lv_iload_n hx hb d_D_spelled_16 rfl (lv_at hl 0 rfl) ?_
      refine vb_tq hx hb (ke_tw hE) hS (i := i) (v := .ref (k (Int32.toNatClampNeg i))) (i_in rfl (by omega) (by omega)) rfl d_D_spelled_17 ?_
      obtain ⟨z_2, hz_2, ez_2⟩ : ∃ z : Nat, z < 43 ∧ Int32.toNatClampNeg i = z := ⟨_, i_cl rfl (by omega) (by omega), rfl⟩
      refine lv_evv (b := .ref (k z_2)) (by rw [ez_2]) ?_
      refine vk_getf hx hb (ke_w hE (i := z_2) (by omega)).2.2.2.2.1 hS hown (ht _ k_869) (fun _ h9 => h9) d_D_spelled_18 ?_
      have hFc := va_free (wc := (WE h g len fp many tlen tat qlen md gat kind (.ref (k wi)) (.ref (k ti)) gs th st rq bl te og sc kd sr wo sa qb du)) hD hS hA [0, 1, 2, 3, 4, 5, 6, 7, 8, 9, 10] rfl
      refine va_calli (va_runSN (As := [.ref (h 1), .int fr, .int to, .ref (k (100 + (2 * z_2)))]) (rest := []) ⟨hx, hb, hml, hown, ht⟩ (c_S_same_s l dC dI k h g len fp many tlen tat qlen md gat kind gs th st rq bl te og wi ti sc kd sr sa qb du wo fr to (2 * z_2) _ (by omega) (by omega) (by omega) (by omega) ) ⟨va_cnB 4 ht (g_C k_283) rfl rfl rfl (hE.1 _ n_345) (ht _ k_74) (by decide +kernel) ⟨(Nat.le_of_ble_eq_true rfl), (Nat.le_of_ble_eq_true rfl)⟩, (ht _ k_282), trivial⟩ ⟨fb_X, pre_X hE hS hFc hP hK hD⟩ rfl rfl hl.1 rfl (lv_room (Nat.le_of_ble_eq_true rfl)) d_D_spelled_21 ⟨(Nat.le_of_ble_eq_true rfl), (Nat.le_of_ble_eq_true rfl)⟩) hS (fun q _ h9 => hFc q h9) hFc (fun r_4 u_3 t H locs het hvm hw hB hz1 hk1 hS => ?_)
      have p_5 := hw
      obtain ⟨hP1, hK1, hD1⟩ := hB
      rw [het] at hP1
      have hP : va_P (dC, dI) cls (WE h g len fp many tlen tat qlen md gat kind (.ref (k wi)) (.ref (k ti)) gs th st rq bl te og sc kd sr wo sa qb du) H := hP1
      have hD : va_D A (WE h g len fp many tlen tat qlen md gat kind (.ref (k wi)) (.ref (k ti)) gs th st rq bl te og sc kd sr wo sa qb du) := hD1.weaken (fun _ _ _ h9 => hFc _ h9)
      refine lv_if_eq (tgt := 33) hx hb d_D_spelled_24 (by decide) (fun c_6 => ?_) (fun c_6 => ?_)
      · refine lv_iinc (v := (i + 1)) (lv' := [(3, .int (i + 1)), (0, .ref (h 1)), (1, .int fr), (2, .int to)]) hx hb d_D_spelled_33 hl (k := 0) rfl rfl (by decide) rfl (fun ls hl => ?_)
        have e_7 : Int32.toInt (i + 1) = (Int32.toInt i) + 1 := i_add rfl (show Int32.toInt 1 = 1 by decide) (by omega) (by omega)
        refine lv_goto (tgt := 2) hx hb d_D_spelled_36 (by decide) ?_
        exact ih (i + 1) (by omega) (by omega) _ _ ls hP hD hS (lv_sub hl [0, 1, 2, 3] rfl)
      · refine va_gets hx hb (ke_W_EACH hE) hS hown (ht _ k_343) (fun _ h9 => h9) d_D_spelled_27 ?_
        refine lv_iload_n hx hb d_D_spelled_30 rfl (lv_at hl 0 rfl) ?_
        refine vb_tq hx hb (ke_tw hE) hS (i := i) (v := .ref (k (Int32.toNatClampNeg i))) (i_in rfl (by omega) (by omega)) rfl d_D_spelled_31 ?_
        obtain ⟨z_8, hz_8, ez_8⟩ : ∃ z : Nat, z < 43 ∧ Int32.toNatClampNeg i = z := ⟨_, i_cl rfl (by omega) (by omega), rfl⟩
        refine lv_evv (b := .ref (k z_8)) (by rw [ez_8]) ?_
        exact fin z_8 () _ _ _ ls d_D_spelled_32 (by (try dsimp only); omega) hP hD hS
set_option maxHeartbeats 4000000 in
set_option maxRecDepth 100000 in
theorem bd_D_spelled_0 {p : Program} {l : Launch} {e : Env} {s : State} {m : MethodId} {args : Array Value} {below : List Frame} {meth : Method} {c : Code} {Q : State → Prop} {A : Nat → Prop} {dC : Nat → ClassId} {dI : Nat → Nat → Nat} {k h : Nat → Nat} {g : Nat → ClassId} {len : Int32} {fp : Int32} {many : Int32} {tlen : Int32} {tat : Int32} {qlen : Int32} {md : Int32} {gat : Int32} {kind : Int32} {gs : Int32} {th : Int32} {st : Int32} {rq : Int32} {bl : Int32} {te : Int32} {og : Int32} {wi : Nat} {ti : Nat} {sc : Nat → Int32} {kd : Nat → Int32} {sr : Nat → Int32} {sa : Nat → Int32} {qb : Nat → Int32} {du : Nat → Int32} {wo : Nat → Option Nat} (hx : p.tables.exec = Jvm.exec) (hb : c.code = b_D_spelled) (hml : c.maxLocals = 4) (hown : s.vm.findClass "SieveDesk$Word" = some m.cls) (ht : ∀ w ∈ TT, w.before args s = true) (hE : KE k A s s.heap) (hA : ∀ q : Nat, s.heap.size ≤ q → A q) (hK : va_K (dC, dI) cls (TE g) s) {fr to : Int32} (h_0 : Int32.toInt fr ≤ 1000) (h_1 : -1000 ≤ Int32.toInt to) (h_2 : Int32.toInt to ≤ 1000) (fin : ∀ (r : Nat) (u : Unit) (H : Heap) (locs : List Loc) (pc : Nat) (ls : Array Slot), decode b_D_spelled pc = .ok (.areturn, 1) → (r < 43) → va_P (dC, dI) cls (WE h g len fp many tlen tat qlen md gat kind (.ref (k wi)) (.ref (k ti)) gs th st rq bl te og sc kd sr wo sa qb du) H → va_D A (WE h g len fp many tlen tat qlen md gat kind (.ref (k wi)) (.ref (k ti)) gs th st rq bl te og sc kd sr wo sa qb du) → va_S A s.heap H locs → W p l e ({ frames := 5, cells := 0, slots := 0, locals := 111 } : Room) s m args below meth c H locs 0 0 Q (F0 m pc ls [.ref (k r)])) : ∀ (H : Heap) (locs : List Loc) (ls : Array Slot), va_P (dC, dI) cls (WE h g len fp many tlen tat qlen md gat kind (.ref (k wi)) (.ref (k ti)) gs th st rq bl te og sc kd sr wo sa qb du) H → va_D A (WE h g len fp many tlen tat qlen md gat kind (.ref (k wi)) (.ref (k ti)) gs th st rq bl te og sc kd sr wo sa qb du) → va_S A s.heap H locs → lv_has ls 4 [(0, .ref (h 1)), (1, .int fr), (2, .int to)] → W p l e ({ frames := 5, cells := 0, slots := 0, locals := 111 } : Room) s m args below meth c H locs 0 0 Q (F0 m 0 ls []) := by
  intro H locs ls hP hD hS hl
  refine lv_iconst (v := 0) hx hb d_D_spelled_0 (by decide) ?_
  refine lv_istore_n (lv' := [(3, .int 0), (0, .ref (h 1)), (1, .int fr), (2, .int to)]) hx hb d_D_spelled_1 rfl hl (by decide) rfl (fun ls hl => ?_)
  have hc_0 : Int32.toInt 0 = 0 := by decide
  exact (lp_D_spelled_2 (fr := fr) (to := to) hx hb hml hown ht hE hA hK h_0 h_1 h_2 fin _) 0 (by omega) (Nat.lt_succ_self _) _ _ ls hP hD hS (lv_sub hl [0, 1, 2, 3] rfl)
set_option maxHeartbeats 4000000 in
set_option maxRecDepth 100000 in
theorem c_D_spelled (l : Launch) (dC : Nat → ClassId) (dI : Nat → Nat → Nat) (k : Nat → Nat) (h : Nat → Nat) (g : Nat → ClassId) (len : Int32) (fp : Int32) (many : Int32) (tlen : Int32) (tat : Int32) (qlen : Int32) (md : Int32) (gat : Int32) (kind : Int32) (gs : Int32) (th : Int32) (st : Int32) (rq : Int32) (bl : Int32) (te : Int32) (og : Int32) (wi : Nat) (ti : Nat) (sc : Nat → Int32) (kd : Nat → Int32) (sr : Nat → Int32) (sa : Nat → Int32) (qb : Nat → Int32) (du : Nat → Int32) (wo : Nat → Option Nat) (fr to : Int32) (sz : Nat) (h_0 : Int32.toInt fr ≤ 1000) (h_1 : -1000 ≤ Int32.toInt to) (h_2 : Int32.toInt to ≤ 1000)  : Met l y_D_spelled (.code y_D_spelled b_D_spelled 4 (some (.object "SieveDesk$Word")) :: TT) ({ frames := 5, cells := 0, slots := 0, locals := 111 }) (va_Pc [.ref (h 1), .int fr, .int to] (PX dC dI k (TE g) (WE h g len fp many tlen tat qlen md gat kind (.ref (k wi)) (.ref (k ti)) gs th st rq bl te og sc kd sr wo sa qb du) sz)) (va_Qr (fun (r : Nat) => r < 43) (fun r a t => a = k r ∧ BX dC dI (TE g) (va_A (WE h g len fp many tlen tat qlen md gat kind (.ref (k wi)) (.ref (k ti)) gs th st rq bl te og sc kd sr wo sa qb du) sz) (WE h g len fp many tlen tat qlen md gat kind (.ref (k wi)) (.ref (k ti)) gs th st rq bl te og sc kd sr wo sa qb du) t) (va_A (WE h g len fp many tlen tat qlen md gat kind (.ref (k wi)) (.ref (k ti)) gs th st rq bl te og sc kd sr wo sa qb du) sz)) 0 0 (va_A (WE h g len fp many tlen tat qlen md gat kind (.ref (k wi)) (.ref (k ti)) gs th st rq bl te og sc kd sr wo sa qb du) sz) := by
  refine Met.ofW (cc := b_D_spelled) (maxL := 4) (ret := (some (.object "SieveDesk$Word"))) (by decide) rfl ?_
  intro p e s m args below meth c s₁ B hml hv
  obtain ⟨rfl, hsz, hE, hP, hK, hD0⟩ := hv
  have hx := B.exec
  have hb := B.bytes
  have hr := B.returns
  have ht : ∀ w ∈ TT, w.before _ s = true := fun w hw => atoms_spec (ws := .code y_D_spelled b_D_spelled 4 (some (.object "SieveDesk$Word")) :: TT) B.pre w (List.mem_cons_of_mem _ hw)
  have hown : s.vm.findClass "SieveDesk$Word" = some m.cls := findClass_of_methodNamed B.named
  have hlocks := B.notSynchronized
  subst hsz
  have hD := hD0.self (sz := s.heap.size)
  generalize hAe : va_A (WE h g len fp many tlen tat qlen md gat kind (.ref (k wi)) (.ref (k ti)) gs th st rq bl te og sc kd sr wo sa qb du) s.heap.size = A at hE hD ⊢
  have hA : ∀ q : Nat, s.heap.size ≤ q → A q := fun q h9 => by rw [← hAe]; exact Or.inr h9
  have hS : va_S A s.heap s.heap [] := va_S.rf
  have hl := lv_entry ([.ref (h 1), .int fr, .int to]) (n := 4) (Nat.le_of_ble_eq_true rfl)
  rw [lg_entry_eq]
  generalize (lg_sl ([.ref (h 1), .int fr, .int to]) ++ List.replicate (4 - (lg_sl ([.ref (h 1), .int fr, .int to])).length) Slot.unset).toArray = ls at hl ⊢
  have hl : lv_has ls 4 [(0, .ref (h 1)), (1, .int fr), (2, .int to)] := hl
  exact bd_D_spelled_0 (fr := fr) (to := to) hx hb hml hown ht hE hA hK h_0 h_1 h_2 (fun r u H locs pc ls hd hp hP hD hS => W.aret hx hb hr (Or.inl ⟨_, rfl⟩) (Or.inr ⟨_, rfl⟩) (fun t het hW => ⟨⟨r, k r, rfl, hp, rfl, by rw [het]; exact hP, va_K.moved hW.alike hK, hD⟩, hS.F het⟩) hS.2.2 hd)   _ _ ls hP hD hS hl
set_option maxHeartbeats 4000000 in
set_option maxRecDepth 100000 in
theorem lp_S_lineOf_4 {p : Program} {l : Launch} {e : Env} {s : State} {m : MethodId} {args : Array Value} {below : List Frame} {meth : Method} {c : Code} {Q : State → Prop} {A : Nat → Prop} {dC : Nat → ClassId} {dI : Nat → Nat → Nat} {k h : Nat → Nat} {g : Nat → ClassId} {len : Int32} {fp : Int32} {many : Int32} {tlen : Int32} {tat : Int32} {qlen : Int32} {md : Int32} {gat : Int32} {kind : Int32} {gs : Int32} {th : Int32} {st : Int32} {rq : Int32} {bl : Int32} {te : Int32} {og : Int32} {wi : Nat} {ti : Nat} {sc : Nat → Int32} {kd : Nat → Int32} {sr : Nat → Int32} {sa : Nat → Int32} {qb : Nat → Int32} {du : Nat → Int32} {wo : Nat → Option Nat} (hx : p.tables.exec = Jvm.exec) (hb : c.code = b_S_lineOf) (hml : c.maxLocals = 4) (hown : s.vm.findClass "SieveDesk" = some m.cls) (ht : ∀ w ∈ TT, w.before args s = true) (hE : KE k A s s.heap) (hA : ∀ q : Nat, s.heap.size ≤ q → A q) (hK : va_K (dC, dI) cls (TE g) s) {pp : Int32}  (fin : ∀ (r : Int32) (u : Unit) (H : Heap) (locs : List Loc) (pc : Nat) (ls : Array Slot), decode b_S_lineOf pc = .ok (.ireturn, 1) → (True) → va_P (dC, dI) cls (WE h g len fp many tlen tat qlen md gat kind (.ref (k wi)) (.ref (k ti)) gs th st rq bl te og sc kd sr wo sa qb du) H → va_D A (WE h g len fp many tlen tat qlen md gat kind (.ref (k wi)) (.ref (k ti)) gs th st rq bl te og sc kd sr wo sa qb du) → va_S A s.heap H locs → W p l e ({ frames := 0, cells := 0, slots := 0, locals := 0 } : Room) s m args below meth c H locs 0 0 Q (F0 m pc ls [.int r])) : ∀ (nn : Nat), ∀ (ln : Int32) (i : Int32), 0 ≤ Int32.toInt i → Int32.toInt i ≤ 400 → (400 - Int32.toInt i).toNat < nn → ∀ (H : Heap) (locs : List Loc) (ls : Array Slot), va_P (dC, dI) cls (WE h g len fp many tlen tat qlen md gat kind (.ref (k wi)) (.ref (k ti)) gs th st rq bl te og sc kd sr wo sa qb du) H → va_D A (WE h g len fp many tlen tat qlen md gat kind (.ref (k wi)) (.ref (k ti)) gs th st rq bl te og sc kd sr wo sa qb du) → va_S A s.heap H locs → lv_has ls 4 [(2, .int ln), (3, .int i), (0, .ref (h 0)), (1, .int pp)] → W p l e ({ frames := 0, cells := 0, slots := 0, locals := 0 } : Room) s m args below meth c H locs 0 0 Q (F0 m 4 ls []) := by
  intro nn
  induction nn with
  | zero =>
    intro _ _ _ _ hm
    exact absurd hm (Nat.not_lt_zero _)
  | succ nn ih =>
    intro ln i v_0 v_1 hm H locs ls hP hD hS hl
    refine lv_iload_n hx hb d_S_lineOf_4 rfl (lv_at hl 1 rfl) ?_
    refine lv_iload_n hx hb d_S_lineOf_5 rfl (lv_at hl 3 rfl) ?_
    refine lv_icmp_ge (tgt := 38) hx hb d_S_lineOf_6 (by decide) (fun c_1 => ?_) (fun c_1 => ?_)
    · have dc_1 := i_le c_1 rfl rfl
      refine lv_iload_n hx hb d_S_lineOf_38 rfl (lv_at hl 0 rfl) ?_
      exact fin ln () _ _ _ ls d_S_lineOf_39 trivial hP hD hS
    · have dc_1 := i_nle c_1 rfl rfl
      refine lv_iload_n hx hb d_S_lineOf_9 rfl (lv_at hl 1 rfl) ?_
      refine lv_aload_n hx hb d_S_lineOf_10 rfl (lv_at hl 2 rfl) ?_
      refine va_get (D := (dC, dI)) (ci := 0) (v := .ref (h 1)) (C := "SieveDesk") (T := F_S) (N := 5) hx hb ht i_S hown hK hP 0 rfl rfl 0 (by decide) (ht _ k_207) (fun _ h9 => h9) rfl d_S_lineOf_11 ?_
      refine va_alen (v := 400) hx hb hK hP 1 0 rfl rfl rfl d_S_lineOf_14 ?_
      refine lv_icmp_ge (tgt := 38) hx hb d_S_lineOf_15 (by decide) (fun c_2 => ?_) (fun c_2 => ?_)
      · have dc_2 := i_le c_2 (show Int32.toInt 400 = 400 by decide) rfl
        refine lv_iload_n hx hb d_S_lineOf_38 rfl (lv_at hl 0 rfl) ?_
        exact fin ln () _ _ _ ls d_S_lineOf_39 trivial hP hD hS
      · have dc_2 := i_nle c_2 (show Int32.toInt 400 = 400 by decide) rfl
        refine lv_aload_n hx hb d_S_lineOf_18 rfl (lv_at hl 2 rfl) ?_
        refine va_get (D := (dC, dI)) (ci := 0) (v := .ref (h 1)) (C := "SieveDesk") (T := F_S) (N := 5) hx hb ht i_S hown hK hP 0 rfl rfl 0 (by decide) (ht _ k_207) (fun _ h9 => h9) rfl d_S_lineOf_19 ?_
        refine lv_iload_n hx hb d_S_lineOf_22 rfl (lv_at hl 1 rfl) ?_
        refine va_bald hx hb hK hP 1 0 rfl rfl (i_in rfl (by omega) (by omega)) d_S_lineOf_23 ?_
        refine lv_bipush (v := 10) hx hb d_S_lineOf_24 (by decide) ?_
        refine lv_icmp_ne (tgt := 32) hx hb d_S_lineOf_26 (by decide) (fun c_3 => ?_) (fun c_3 => ?_)
        · refine lv_iinc (v := (i + 1)) (lv' := [(3, .int (i + 1)), (2, .int ln), (0, .ref (h 0)), (1, .int pp)]) hx hb d_S_lineOf_32 hl (k := 1) rfl rfl (by decide) rfl (fun ls hl => ?_)
          have e_4 : Int32.toInt (i + 1) = (Int32.toInt i) + 1 := i_add rfl (show Int32.toInt 1 = 1 by decide) (by omega) (by omega)
          refine lv_goto (tgt := 4) hx hb d_S_lineOf_35 (by decide) ?_
          exact ih ln (i + 1) (by omega) (by omega) (by omega) _ _ ls hP hD hS (lv_sub hl [1, 0, 2, 3] rfl)
        · refine lv_iinc (v := (ln + 1)) (lv' := [(2, .int (ln + 1)), (3, .int i), (0, .ref (h 0)), (1, .int pp)]) hx hb d_S_lineOf_29 hl (k := 0) rfl rfl (by decide) rfl (fun ls hl => ?_)
          refine lv_iinc (v := (i + 1)) (lv' := [(3, .int (i + 1)), (2, .int (ln + 1)), (0, .ref (h 0)), (1, .int pp)]) hx hb d_S_lineOf_32 hl (k := 1) rfl rfl (by decide) rfl (fun ls hl => ?_)
          have e_5 : Int32.toInt (i + 1) = (Int32.toInt i) + 1 := i_add rfl (show Int32.toInt 1 = 1 by decide) (by omega) (by omega)
          refine lv_goto (tgt := 4) hx hb d_S_lineOf_35 (by decide) ?_
          exact ih (ln + 1) (i + 1) (by omega) (by omega) (by omega) _ _ ls hP hD hS (lv_sub hl [1, 0, 2, 3] rfl)
set_option maxHeartbeats 4000000 in
set_option maxRecDepth 100000 in
theorem bd_S_lineOf_0 {p : Program} {l : Launch} {e : Env} {s : State} {m : MethodId} {args : Array Value} {below : List Frame} {meth : Method} {c : Code} {Q : State → Prop} {A : Nat → Prop} {dC : Nat → ClassId} {dI : Nat → Nat → Nat} {k h : Nat → Nat} {g : Nat → ClassId} {len : Int32} {fp : Int32} {many : Int32} {tlen : Int32} {tat : Int32} {qlen : Int32} {md : Int32} {gat : Int32} {kind : Int32} {gs : Int32} {th : Int32} {st : Int32} {rq : Int32} {bl : Int32} {te : Int32} {og : Int32} {wi : Nat} {ti : Nat} {sc : Nat → Int32} {kd : Nat → Int32} {sr : Nat → Int32} {sa : Nat → Int32} {qb : Nat → Int32} {du : Nat → Int32} {wo : Nat → Option Nat} (hx : p.tables.exec = Jvm.exec) (hb : c.code = b_S_lineOf) (hml : c.maxLocals = 4) (hown : s.vm.findClass "SieveDesk" = some m.cls) (ht : ∀ w ∈ TT, w.before args s = true) (hE : KE k A s s.heap) (hA : ∀ q : Nat, s.heap.size ≤ q → A q) (hK : va_K (dC, dI) cls (TE g) s) {pp : Int32}  (fin : ∀ (r : Int32) (u : Unit) (H : Heap) (locs : List Loc) (pc : Nat) (ls : Array Slot), decode b_S_lineOf pc = .ok (.ireturn, 1) → (True) → va_P (dC, dI) cls (WE h g len fp many tlen tat qlen md gat kind (.ref (k wi)) (.ref (k ti)) gs th st rq bl te og sc kd sr wo sa qb du) H → va_D A (WE h g len fp many tlen tat qlen md gat kind (.ref (k wi)) (.ref (k ti)) gs th st rq bl te og sc kd sr wo sa qb du) → va_S A s.heap H locs → W p l e ({ frames := 0, cells := 0, slots := 0, locals := 0 } : Room) s m args below meth c H locs 0 0 Q (F0 m pc ls [.int r])) : ∀ (H : Heap) (locs : List Loc) (ls : Array Slot), va_P (dC, dI) cls (WE h g len fp many tlen tat qlen md gat kind (.ref (k wi)) (.ref (k ti)) gs th st rq bl te og sc kd sr wo sa qb du) H → va_D A (WE h g len fp many tlen tat qlen md gat kind (.ref (k wi)) (.ref (k ti)) gs th st rq bl te og sc kd sr wo sa qb du) → va_S A s.heap H locs → lv_has ls 4 [(0, .ref (h 0)), (1, .int pp)] → W p l e ({ frames := 0, cells := 0, slots := 0, locals := 0 } : Room) s m args below meth c H locs 0 0 Q (F0 m 0 ls []) := by
  intro H locs ls hP hD hS hl
  refine lv_iconst (v := 1) hx hb d_S_lineOf_0 (by decide) ?_
  refine lv_istore_n (lv' := [(2, .int 1), (0, .ref (h 0)), (1, .int pp)]) hx hb d_S_lineOf_1 rfl hl (by decide) rfl (fun ls hl => ?_)
  refine lv_iconst (v := 0) hx hb d_S_lineOf_2 (by decide) ?_
  refine lv_istore_n (lv' := [(3, .int 0), (2, .int 1), (0, .ref (h 0)), (1, .int pp)]) hx hb d_S_lineOf_3 rfl hl (by decide) rfl (fun ls hl => ?_)
  have hc_1 : Int32.toInt 1 = 1 := by decide
  have hc_0 : Int32.toInt 0 = 0 := by decide
  exact (lp_S_lineOf_4 (pp := pp) hx hb hml hown ht hE hA hK  fin _) 1 0 (by omega) (by omega) (Nat.lt_succ_self _) _ _ ls hP hD hS (lv_sub hl [1, 0, 2, 3] rfl)
set_option maxHeartbeats 4000000 in
set_option maxRecDepth 100000 in
theorem c_S_lineOf (l : Launch) (dC : Nat → ClassId) (dI : Nat → Nat → Nat) (k : Nat → Nat) (h : Nat → Nat) (g : Nat → ClassId) (len : Int32) (fp : Int32) (many : Int32) (tlen : Int32) (tat : Int32) (qlen : Int32) (md : Int32) (gat : Int32) (kind : Int32) (gs : Int32) (th : Int32) (st : Int32) (rq : Int32) (bl : Int32) (te : Int32) (og : Int32) (wi : Nat) (ti : Nat) (sc : Nat → Int32) (kd : Nat → Int32) (sr : Nat → Int32) (sa : Nat → Int32) (qb : Nat → Int32) (du : Nat → Int32) (wo : Nat → Option Nat) (pp : Int32) (sz : Nat)   : Met l y_S_lineOf (.code y_S_lineOf b_S_lineOf 4 (some .int) :: TT) ({ frames := 0, cells := 0, slots := 0, locals := 0 }) (va_Pc [.ref (h 0), .int pp] (PX dC dI k (TE g) (WE h g len fp many tlen tat qlen md gat kind (.ref (k wi)) (.ref (k ti)) gs th st rq bl te og sc kd sr wo sa qb du) sz)) (va_Qi (fun (r : Int32) (u : Unit) => True) (fun u t => BX dC dI (TE g) (va_A (WE h g len fp many tlen tat qlen md gat kind (.ref (k wi)) (.ref (k ti)) gs th st rq bl te og sc kd sr wo sa qb du) sz) (WE h g len fp many tlen tat qlen md gat kind (.ref (k wi)) (.ref (k ti)) gs th st rq bl te og sc kd sr wo sa qb du) t) (va_A (WE h g len fp many tlen tat qlen md gat kind (.ref (k wi)) (.ref (k ti)) gs th st rq bl te og sc kd sr wo sa qb du) sz)) 0 0 (va_A (WE h g len fp many tlen tat qlen md gat kind (.ref (k wi)) (.ref (k ti)) gs th st rq bl te og sc kd sr wo sa qb du) sz) := by
  refine Met.ofW (cc := b_S_lineOf) (maxL := 4) (ret := (some .int)) (by decide) rfl ?_
  intro p e s m args below meth c s₁ B hml hv
  obtain ⟨rfl, hsz, hE, hP, hK, hD0⟩ := hv
  have hx := B.exec
  have hb := B.bytes
  have hr := B.returns
  have ht : ∀ w ∈ TT, w.before _ s = true := fun w hw => atoms_spec (ws := .code y_S_lineOf b_S_lineOf 4 (some .int) :: TT) B.pre w (List.mem_cons_of_mem _ hw)
  have hown : s.vm.findClass "SieveDesk" = some m.cls := findClass_of_methodNamed B.named
  have hlocks := B.notSynchronized
  subst hsz
  have hD := hD0.self (sz := s.heap.size)
  generalize hAe : va_A (WE h g len fp many tlen tat qlen md gat kind (.ref (k wi)) (.ref (k ti)) gs th st rq bl te og sc kd sr wo sa qb du) s.heap.size = A at hE hD ⊢
  have hA : ∀ q : Nat, s.heap.size ≤ q → A q := fun q h9 => by rw [← hAe]; exact Or.inr h9
  have hS : va_S A s.heap s.heap [] := va_S.rf
  have hl := lv_entry ([.ref (h 0), .int pp]) (n := 4) (Nat.le_of_ble_eq_true rfl)
  rw [lg_entry_eq]
  generalize (lg_sl ([.ref (h 0), .int pp]) ++ List.replicate (4 - (lg_sl ([.ref (h 0), .int pp])).length) Slot.unset).toArray = ls at hl ⊢
  have hl : lv_has ls 4 [(0, .ref (h 0)), (1, .int pp)] := hl
  exact bd_S_lineOf_0 (pp := pp) hx hb hml hown ht hE hA hK  (fun r u H locs pc ls hd hp hP hD hS => W.iret hx hb hr (fun t het hW => ⟨⟨r, u, rfl, hp, by rw [het]; exact hP, va_K.moved hW.alike hK, hD⟩, hS.F het⟩) hS.2.2 hd)   _ _ ls hP hD hS hl

set_option maxHeartbeats 4000000 in
set_option maxRecDepth 100000 in
theorem bd_T_byteAt_0 {p : Program} {l : Launch} {e : Env} {s : State} {m : MethodId} {args : Array Value} {below : List Frame} {meth : Method} {c : Code} {Q : State → Prop} {A : Nat → Prop} {dC : Nat → ClassId} {dI : Nat → Nat → Nat} {k h : Nat → Nat} {g : Nat → ClassId} {len : Int32} {fp : Int32} {many : Int32} {tlen : Int32} {tat : Int32} {qlen : Int32} {md : Int32} {gat : Int32} {kind : Int32} {gs : Int32} {th : Int32} {st : Int32} {rq : Int32} {bl : Int32} {te : Int32} {og : Int32} {wi : Nat} {ti : Nat} {sc : Nat → Int32} {kd : Nat → Int32} {sr : Nat → Int32} {sa : Nat → Int32} {qb : Nat → Int32} {du : Nat → Int32} {wo : Nat → Option Nat} (hx : p.tables.exec = Jvm.exec) (hb : c.code = b_T_byteAt) (hml : c.maxLocals = 2) (hown : s.vm.findClass "SieveDesk$Tokens" = some m.cls) (ht : ∀ w ∈ TT, w.before args s = true) (hE : KE k A s s.heap) (hA : ∀ q : Nat, s.heap.size ≤ q → A q) (hK : va_K (dC, dI) cls (TE g) s) {i : Int32}  (fin : ∀ (r : Int32) (u : Unit) (H : Heap) (locs : List Loc) (pc : Nat) (ls : Array Slot), decode b_T_byteAt pc = .ok (.ireturn, 1) → (-1 ≤ Int32.toInt r ∧ Int32.toInt r ≤ 255 ∧ (Int32.toInt r < 0 ∨ (0 ≤ Int32.toInt i ∧ Int32.toInt i < Int32.toInt tlen))) → va_P (dC, dI) cls (WE h g len fp many tlen tat qlen md gat kind (.ref (k wi)) (.ref (k ti)) gs th st rq bl te og sc kd sr wo sa qb du) H → va_D A (WE h g len fp many tlen tat qlen md gat kind (.ref (k wi)) (.ref (k ti)) gs th st rq bl te og sc kd sr wo sa qb du) → va_S A s.heap H locs → W p l e ({ frames := 0, cells := 0, slots := 0, locals := 0 } : Room) s m args below meth c H locs 0 0 Q (F0 m pc ls [.int r])) : ∀ (H : Heap) (locs : List Loc) (ls : Array Slot), va_P (dC, dI) cls (WE h g len fp many tlen tat qlen md gat kind (.ref (k wi)) (.ref (k ti)) gs th st rq bl te og sc kd sr wo sa qb du) H → va_D A (WE h g len fp many tlen tat qlen md gat kind (.ref (k wi)) (.ref (k ti)) gs th st rq bl te og sc kd sr wo sa qb du) → va_S A s.heap H locs → lv_has ls 2 [(0, .ref (h 2)), (1, .int i)] → W p l e ({ frames := 0, cells := 0, slots := 0, locals := 0 } : Room) s m args below meth c H locs 0 0 Q (F0 m 0 ls []) := by
  intro H locs ls hP hD hS hl
  refine lv_iload_n hx hb d_T_byteAt_0 rfl (lv_at hl 1 rfl) ?_
  refine lv_if_lt (tgt := 34) hx hb d_T_byteAt_1 (by decide) (fun c_1 => ?_) (fun c_1 => ?_)
  · have dc_1 := i_lt c_1 rfl (show Int32.toInt 0 = 0 by decide)
    refine lv_iconst (v := (-1)) hx hb d_T_byteAt_34 (by decide) ?_
    have hc_m1 : Int32.toInt (-1) = (-1) := by decide
    exact fin (-1) () _ _ _ ls d_T_byteAt_35 ⟨(by (try dsimp only); omega), (by (try dsimp only); omega), (by (try dsimp only); omega)⟩ hP hD hS
  · have dc_1 := i_nlt c_1 rfl (show Int32.toInt 0 = 0 by decide)
    refine lv_iload_n hx hb d_T_byteAt_4 rfl (lv_at hl 1 rfl) ?_
    refine lv_aload_n hx hb d_T_byteAt_5 rfl (lv_at hl 0 rfl) ?_
    refine va_get (D := (dC, dI)) (ci := 1) (v := .int tlen) (C := "SieveDesk$Tokens") (T := F_T) (N := 9) hx hb ht i_T hown hK hP 2 rfl rfl 7 (by decide) (ht _ k_131) (fun _ h9 => h9) rfl d_T_byteAt_6 ?_
    refine lv_icmp_ge (tgt := 34) hx hb d_T_byteAt_9 (by decide) (fun c_2 => ?_) (fun c_2 => ?_)
    · have dc_2 := i_le c_2 rfl rfl
      refine lv_iconst (v := (-1)) hx hb d_T_byteAt_34 (by decide) ?_
      have hc_m1 : Int32.toInt (-1) = (-1) := by decide
      exact fin (-1) () _ _ _ ls d_T_byteAt_35 ⟨(by (try dsimp only); omega), (by (try dsimp only); omega), (by (try dsimp only); omega)⟩ hP hD hS
    · have dc_2 := i_nle c_2 rfl rfl
      refine lv_iload_n hx hb d_T_byteAt_12 rfl (lv_at hl 1 rfl) ?_
      refine lv_aload_n hx hb d_T_byteAt_13 rfl (lv_at hl 0 rfl) ?_
      refine va_get (D := (dC, dI)) (ci := 1) (v := .ref (h 1)) (C := "SieveDesk$Tokens") (T := F_T) (N := 9) hx hb ht i_T hown hK hP 2 rfl rfl 0 (by decide) (ht _ k_119) (fun _ h9 => h9) rfl d_T_byteAt_14 ?_
      refine va_alen (v := 400) hx hb hK hP 1 0 rfl rfl rfl d_T_byteAt_17 ?_
      refine lv_icmp_ge (tgt := 34) hx hb d_T_byteAt_18 (by decide) (fun c_3 => ?_) (fun c_3 => ?_)
      · have dc_3 := i_le c_3 (show Int32.toInt 400 = 400 by decide) rfl
        refine lv_iconst (v := (-1)) hx hb d_T_byteAt_34 (by decide) ?_
        have hc_m1 : Int32.toInt (-1) = (-1) := by decide
        exact fin (-1) () _ _ _ ls d_T_byteAt_35 ⟨(by (try dsimp only); omega), (by (try dsimp only); omega), (by (try dsimp only); omega)⟩ hP hD hS
      · have dc_3 := i_nle c_3 (show Int32.toInt 400 = 400 by decide) rfl
        refine lv_aload_n hx hb d_T_byteAt_21 rfl (lv_at hl 0 rfl) ?_
        refine va_get (D := (dC, dI)) (ci := 1) (v := .ref (h 1)) (C := "SieveDesk$Tokens") (T := F_T) (N := 9) hx hb ht i_T hown hK hP 2 rfl rfl 0 (by decide) (ht _ k_119) (fun _ h9 => h9) rfl d_T_byteAt_22 ?_
        refine lv_iload_n hx hb d_T_byteAt_25 rfl (lv_at hl 1 rfl) ?_
        refine va_bald hx hb hK hP 1 0 rfl rfl (i_in rfl (by omega) (by omega)) d_T_byteAt_26 ?_
        refine lv_sipush (v := 255) hx hb d_T_byteAt_27 (by decide) ?_
        refine lv_iand hx hb d_T_byteAt_30 ?_
        refine lv_goto (tgt := 35) hx hb d_T_byteAt_31 (by decide) ?_
        exact fin ((sc (Int32.toNatClampNeg i)) &&& 255) () _ _ _ ls d_T_byteAt_35 ⟨(by have := (i_a255 (sc (Int32.toNatClampNeg i))).1; omega), (i_a255 _).2, (by (try dsimp only); omega)⟩ hP hD hS
set_option maxHeartbeats 4000000 in
set_option maxRecDepth 100000 in
theorem c_T_byteAt (l : Launch) (dC : Nat → ClassId) (dI : Nat → Nat → Nat) (k : Nat → Nat) (h : Nat → Nat) (g : Nat → ClassId) (len : Int32) (fp : Int32) (many : Int32) (tlen : Int32) (tat : Int32) (qlen : Int32) (md : Int32) (gat : Int32) (kind : Int32) (gs : Int32) (th : Int32) (st : Int32) (rq : Int32) (bl : Int32) (te : Int32) (og : Int32) (wi : Nat) (ti : Nat) (sc : Nat → Int32) (kd : Nat → Int32) (sr : Nat → Int32) (sa : Nat → Int32) (qb : Nat → Int32) (du : Nat → Int32) (wo : Nat → Option Nat) (i : Int32) (sz : Nat)   : Met l y_T_byteAt (.code y_T_byteAt b_T_byteAt 2 (some .int) :: TT) ({ frames := 0, cells := 0, slots := 0, locals := 0 }) (va_Pc [.ref (h 2), .int i] (PX dC dI k (TE g) (WE h g len fp many tlen tat qlen md gat kind (.ref (k wi)) (.ref (k ti)) gs th st rq bl te og sc kd sr wo sa qb du) sz)) (va_Qi (fun (r : Int32) (u : Unit) => -1 ≤ Int32.toInt r ∧ Int32.toInt r ≤ 255 ∧ (Int32.toInt r < 0 ∨ (0 ≤ Int32.toInt i ∧ Int32.toInt i < Int32.toInt tlen))) (fun u t => BX dC dI (TE g) (va_A (WE h g len fp many tlen tat qlen md gat kind (.ref (k wi)) (.ref (k ti)) gs th st rq bl te og sc kd sr wo sa qb du) sz) (WE h g len fp many tlen tat qlen md gat kind (.ref (k wi)) (.ref (k ti)) gs th st rq bl te og sc kd sr wo sa qb du) t) (va_A (WE h g len fp many tlen tat qlen md gat kind (.ref (k wi)) (.ref (k ti)) gs th st rq bl te og sc kd sr wo sa qb du) sz)) 0 0 (va_A (WE h g len fp many tlen tat qlen md gat kind (.ref (k wi)) (.ref (k ti)) gs th st rq bl te og sc kd sr wo sa qb du) sz) := by
  refine Met.ofW (cc := b_T_byteAt) (maxL := 2) (ret := (some .int)) (by decide) rfl ?_
  intro p e s m args below meth c s₁ B hml hv
  obtain ⟨rfl, hsz, hE, hP, hK, hD0⟩ := hv
  have hx := B.exec
  have hb := B.bytes
  have hr := B.returns
  have ht : ∀ w ∈ TT, w.before _ s = true := fun w hw => atoms_spec (ws := .code y_T_byteAt b_T_byteAt 2 (some .int) :: TT) B.pre w (List.mem_cons_of_mem _ hw)
  have hown : s.vm.findClass "SieveDesk$Tokens" = some m.cls := findClass_of_methodNamed B.named
  have hlocks := B.notSynchronized
  subst hsz
  have hD := hD0.self (sz := s.heap.size)
  generalize hAe : va_A (WE h g len fp many tlen tat qlen md gat kind (.ref (k wi)) (.ref (k ti)) gs th st rq bl te og sc kd sr wo sa qb du) s.heap.size = A at hE hD ⊢
  have hA : ∀ q : Nat, s.heap.size ≤ q → A q := fun q h9 => by rw [← hAe]; exact Or.inr h9
  have hS : va_S A s.heap s.heap [] := va_S.rf
  have hl := lv_entry ([.ref (h 2), .int i]) (n := 2) (Nat.le_of_ble_eq_true rfl)
  rw [lg_entry_eq]
  generalize (lg_sl ([.ref (h 2), .int i]) ++ List.replicate (2 - (lg_sl ([.ref (h 2), .int i])).length) Slot.unset).toArray = ls at hl ⊢
  have hl : lv_has ls 2 [(0, .ref (h 2)), (1, .int i)] := hl
  exact bd_T_byteAt_0 (i := i) hx hb hml hown ht hE hA hK  (fun r u H locs pc ls hd hp hP hD hS => W.iret hx hb hr (fun t het hW => ⟨⟨r, u, rfl, hp, by rw [het]; exact hP, va_K.moved hW.alike hK, hD⟩, hS.F het⟩) hS.2.2 hd)   _ _ ls hP hD hS hl
set_option maxHeartbeats 4000000 in
set_option maxRecDepth 100000 in
theorem lp_T_behindComment_2 {p : Program} {l : Launch} {e : Env} {s : State} {m : MethodId} {args : Array Value} {below : List Frame} {meth : Method} {c : Code} {Q : State → Prop} {A : Nat → Prop} {dC : Nat → ClassId} {dI : Nat → Nat → Nat} {k h : Nat → Nat} {g : Nat → ClassId} {len : Int32} {fp : Int32} {many : Int32} {tlen : Int32} {tat : Int32} {qlen : Int32} {md : Int32} {gat : Int32} {kind : Int32} {gs : Int32} {th : Int32} {st : Int32} {rq : Int32} {bl : Int32} {te : Int32} {og : Int32} {wi : Nat} {ti : Nat} {sc : Nat → Int32} {kd : Nat → Int32} {sr : Nat → Int32} {sa : Nat → Int32} {qb : Nat → Int32} {du : Nat → Int32} {wo : Nat → Option Nat} (hx : p.tables.exec = Jvm.exec) (hb : c.code = b_T_behindComment) (hml : c.maxLocals = 3) (hown : s.vm.findClass "SieveDesk$Tokens" = some m.cls) (ht : ∀ w ∈ TT, w.before args s = true) (hE : KE k A s s.heap) (hA : ∀ q : Nat, s.heap.size ≤ q → A q) (hK : va_K (dC, dI) cls (TE g) s) {fr : Int32} (h_0 : 0 ≤ Int32.toInt tlen) (h_1 : Int32.toInt tlen ≤ 400) (h_2 : 0 ≤ Int32.toInt fr) (h_3 : Int32.toInt fr ≤ 1000) (fin : ∀ (r : Int32) (u : Unit) (H : Heap) (locs : List Loc) (pc : Nat) (ls : Array Slot), decode b_T_behindComment pc = .ok (.ireturn, 1) → ((Int32.toInt r = -1 ∨ (Int32.toInt fr < Int32.toInt r ∧ Int32.toInt r ≤ Int32.toInt tlen))) → va_P (dC, dI) cls (WE h g len fp many tlen tat qlen md gat kind (.ref (k wi)) (.ref (k ti)) gs th st rq bl te og sc kd sr wo sa qb du) H → va_D A (WE h g len fp many tlen tat qlen md gat kind (.ref (k wi)) (.ref (k ti)) gs th st rq bl te og sc kd sr wo sa qb du) → va_S A s.heap H locs → W p l e ({ frames := 1, cells := 0, slots := 0, locals := 21 } : Room) s m args below meth c H locs 0 0 Q (F0 m pc ls [.int r])) : ∀ (nn : Nat), ∀ (i : Int32), Int32.toInt fr ≤ Int32.toInt i → Int32.toInt i ≤ 1000 → (1001 - Int32.toInt i).toNat < nn → ∀ (H : Heap) (locs : List Loc) (ls : Array Slot), va_P (dC, dI) cls (WE h g len fp many tlen tat qlen md gat kind (.ref (k wi)) (.ref (k ti)) gs th st rq bl te og sc kd sr wo sa qb du) H → va_D A (WE h g len fp many tlen tat qlen md gat kind (.ref (k wi)) (.ref (k ti)) gs th st rq bl te og sc kd sr wo sa qb du) → va_S A s.heap H locs → lv_has ls 3 [(2, .int i), (0, .ref (h 2))] → W p l e ({ frames := 1, cells := 0, slots := 0, locals := 21 } : Room) s m args below meth c H locs 0 0 Q (F0 m 2 ls []) := by
  intro nn
  induction nn with
  | zero =>
    intro _ _ _ hm
    exact absurd hm (Nat.not_lt_zero _)
  | succ nn ih =>
    intro i v_0 v_1 hm H locs ls hP hD hS hl
    refine lv_iload_n hx hb d_T_behindComment_2 rfl (lv_at hl 0 rfl) ?_
    refine lv_aload_n hx hb d_T_behindComment_3 rfl (lv_at hl 1 rfl) ?_
    refine va_get (D := (dC, dI)) (ci := 1) (v := .int tlen) (C := "SieveDesk$Tokens") (T := F_T) (N := 9) hx hb ht i_T hown hK hP 2 rfl rfl 7 (by decide) (ht _ k_131) (fun _ h9 => h9) rfl d_T_behindComment_4 ?_
    refine lv_icmp_ge (tgt := 42) hx hb d_T_behindComment_7 (by decide) (fun c_1 => ?_) (fun c_1 => ?_)
    · have dc_1 := i_le c_1 rfl rfl
      refine lv_iconst (v := (-1)) hx hb d_T_behindComment_42 (by decide) ?_
      have hc_m1 : Int32.toInt (-1) = (-1) := by decide
      exact fin (-1) () _ _ _ ls d_T_behindComment_43 (by (try dsimp only); omega) hP hD hS
    · have dc_1 := i_nle c_1 rfl rfl
      refine lv_aload_n hx hb d_T_behindComment_10 rfl (lv_at hl 1 rfl) ?_
      refine lv_iload_n hx hb d_T_behindComment_11 rfl (lv_at hl 0 rfl) ?_
      have hFc := va_free (wc := (WE h g len fp many tlen tat qlen md gat kind (.ref (k wi)) (.ref (k ti)) gs th st rq bl te og sc kd sr wo sa qb du)) hD hS hA [0, 1, 2, 3, 4, 5, 6, 7, 8, 9, 10] rfl
      refine va_calli (va_runV (As := [.int i]) (rest := []) ⟨hx, hb, hml, hown, ht⟩ (c_T_byteAt l dC dI k h g len fp many tlen tat qlen md gat kind gs th st rq bl te og wi ti sc kd sr sa qb du wo i _  ) (cwV 1 ht (g_V k_239 k_241 k_2 k_75 k_242) rfl rfl rfl (by decide +kernel) ⟨(Nat.le_of_ble_eq_true rfl), (Nat.le_of_ble_eq_true rfl)⟩) ⟨fb_X, va_recv hK hP (ci := 1) (q0 := 2) rfl rfl, pre_X hE hS hFc hP hK hD⟩ rfl rfl hl.1 rfl (lv_room (Nat.le_of_ble_eq_true rfl)) d_T_behindComment_12 ⟨(Nat.le_of_ble_eq_true rfl), (Nat.le_of_ble_eq_true rfl)⟩) hS (fun q _ h9 => hFc q h9) hFc (fun r_3 u_2 t H locs het hvm hw hB hz1 hk1 hS => ?_)
      obtain ⟨p_4, p_5, p_6⟩ := hw
      obtain ⟨hP1, hK1, hD1⟩ := hB
      rw [het] at hP1
      have hP : va_P (dC, dI) cls (WE h g len fp many tlen tat qlen md gat kind (.ref (k wi)) (.ref (k ti)) gs th st rq bl te og sc kd sr wo sa qb du) H := hP1
      have hD : va_D A (WE h g len fp many tlen tat qlen md gat kind (.ref (k wi)) (.ref (k ti)) gs th st rq bl te og sc kd sr wo sa qb du) := hD1.weaken (fun _ _ _ h9 => hFc _ h9)
      refine lv_bipush (v := 42) hx hb d_T_behindComment_15 (by decide) ?_
      refine lv_icmp_ne (tgt := 36) hx hb d_T_behindComment_17 (by decide) (fun c_7 => ?_) (fun c_7 => ?_)
      · have dc_7 := i_ne c_7 rfl (show Int32.toInt 42 = 42 by decide)
        refine lv_iinc (v := (i + 1)) (lv' := [(2, .int (i + 1)), (0, .ref (h 2))]) hx hb d_T_behindComment_36 hl (k := 0) rfl rfl (by decide) rfl (fun ls hl => ?_)
        have e_8 : Int32.toInt (i + 1) = (Int32.toInt i) + 1 := i_add rfl (show Int32.toInt 1 = 1 by decide) (by omega) (by omega)
        refine lv_goto (tgt := 2) hx hb d_T_behindComment_39 (by decide) ?_
        exact ih (i + 1) (by omega) (by omega) (by omega) _ _ ls hP hD hS (lv_sub hl [0, 1] rfl)
      · have dc_7 := i_eq c_7 rfl (show Int32.toInt 42 = 42 by decide)
        refine lv_aload_n hx hb d_T_behindComment_20 rfl (lv_at hl 1 rfl) ?_
        refine lv_iload_n hx hb d_T_behindComment_21 rfl (lv_at hl 0 rfl) ?_
        refine lv_iconst (v := 1) hx hb d_T_behindComment_22 (by decide) ?_
        refine lv_iadd hx hb d_T_behindComment_23 ?_
        have e_9 : Int32.toInt (i + 1) = (Int32.toInt i) + 1 := i_add rfl (show Int32.toInt 1 = 1 by decide) (by omega) (by omega)
        have hFc := va_free (wc := (WE h g len fp many tlen tat qlen md gat kind (.ref (k wi)) (.ref (k ti)) gs th st rq bl te og sc kd sr wo sa qb du)) hD hS hA [0, 1, 2, 3, 4, 5, 6, 7, 8, 9, 10] rfl
        refine va_calli (va_runV (As := [.int (i + 1)]) (rest := []) ⟨hx, hb, hml, hown, ht⟩ (c_T_byteAt l dC dI k h g len fp many tlen tat qlen md gat kind gs th st rq bl te og wi ti sc kd sr sa qb du wo (i + 1) _  ) (cwV 1 ht (g_V k_239 k_241 k_2 k_75 k_242) rfl rfl rfl (by decide +kernel) ⟨(Nat.le_of_ble_eq_true rfl), (Nat.le_of_ble_eq_true rfl)⟩) ⟨fb_X, va_recv hK hP (ci := 1) (q0 := 2) rfl rfl, pre_X hE hS hFc hP hK hD⟩ rfl rfl hl.1 rfl (lv_room (Nat.le_of_ble_eq_true rfl)) d_T_behindComment_24 ⟨(Nat.le_of_ble_eq_true rfl), (Nat.le_of_ble_eq_true rfl)⟩) hS (fun q _ h9 => hFc q h9) hFc (fun r_11 u_10 t H locs het hvm hw hB hz1 hk1 hS => ?_)
        obtain ⟨p_12, p_13, p_14⟩ := hw
        obtain ⟨hP1, hK1, hD1⟩ := hB
        rw [het] at hP1
        have hP : va_P (dC, dI) cls (WE h g len fp many tlen tat qlen md gat kind (.ref (k wi)) (.ref (k ti)) gs th st rq bl te og sc kd sr wo sa qb du) H := hP1
        have hD : va_D A (WE h g len fp many tlen tat qlen md gat kind (.ref (k wi)) (.ref (k ti)) gs th st rq bl te og sc kd sr wo sa qb du) := hD1.weaken (fun _ _ _ h9 => hFc _ h9)
        refine lv_bipush (v := 47) hx hb d_T_behindComment_27 (by decide) ?_
        refine lv_icmp_ne (tgt := 36) hx hb d_T_behindComment_29 (by decide) (fun c_15 => ?_) (fun c_15 => ?_)
        · have dc_15 := i_ne c_15 rfl (show Int32.toInt 47 = 47 by decide)
          refine lv_iinc (v := (i + 1)) (lv' := [(2, .int (i + 1)), (0, .ref (h 2))]) hx hb d_T_behindComment_36 hl (k := 0) rfl rfl (by decide) rfl (fun ls hl => ?_)
          have e_16 : Int32.toInt (i + 1) = (Int32.toInt i) + 1 := i_add rfl (show Int32.toInt 1 = 1 by decide) (by omega) (by omega)
          refine lv_goto (tgt := 2) hx hb d_T_behindComment_39 (by decide) ?_
          exact ih (i + 1) (by omega) (by omega) (by omega) _ _ ls hP hD hS (lv_sub hl [0, 1] rfl)
        · have dc_15 := i_eq c_15 rfl (show Int32.toInt 47 = 47 by decide)
          refine lv_iload_n hx hb d_T_behindComment_32 rfl (lv_at hl 0 rfl) ?_
          refine lv_iconst (v := 2) hx hb d_T_behindComment_33 (by decide) ?_
          refine lv_iadd hx hb d_T_behindComment_34 ?_
          have e_17 : Int32.toInt (i + 2) = (Int32.toInt i) + 2 := i_add rfl (show Int32.toInt 2 = 2 by decide) (by omega) (by omega)
          exact fin (i + 2) () _ _ _ ls d_T_behindComment_35 (by (try dsimp only); omega) hP hD hS
set_option maxHeartbeats 4000000 in
set_option maxRecDepth 100000 in
theorem bd_T_behindComment_0 {p : Program} {l : Launch} {e : Env} {s : State} {m : MethodId} {args : Array Value} {below : List Frame} {meth : Method} {c : Code} {Q : State → Prop} {A : Nat → Prop} {dC : Nat → ClassId} {dI : Nat → Nat → Nat} {k h : Nat → Nat} {g : Nat → ClassId} {len : Int32} {fp : Int32} {many : Int32} {tlen : Int32} {tat : Int32} {qlen : Int32} {md : Int32} {gat : Int32} {kind : Int32} {gs : Int32} {th : Int32} {st : Int32} {rq : Int32} {bl : Int32} {te : Int32} {og : Int32} {wi : Nat} {ti : Nat} {sc : Nat → Int32} {kd : Nat → Int32} {sr : Nat → Int32} {sa : Nat → Int32} {qb : Nat → Int32} {du : Nat → Int32} {wo : Nat → Option Nat} (hx : p.tables.exec = Jvm.exec) (hb : c.code = b_T_behindComment) (hml : c.maxLocals = 3) (hown : s.vm.findClass "SieveDesk$Tokens" = some m.cls) (ht : ∀ w ∈ TT, w.before args s = true) (hE : KE k A s s.heap) (hA : ∀ q : Nat, s.heap.size ≤ q → A q) (hK : va_K (dC, dI) cls (TE g) s) {fr : Int32} (h_0 : 0 ≤ Int32.toInt tlen) (h_1 : Int32.toInt tlen ≤ 400) (h_2 : 0 ≤ Int32.toInt fr) (h_3 : Int32.toInt fr ≤ 1000) (fin : ∀ (r : Int32) (u : Unit) (H : Heap) (locs : List Loc) (pc : Nat) (ls : Array Slot), decode b_T_behindComment pc = .ok (.ireturn, 1) → ((Int32.toInt r = -1 ∨ (Int32.toInt fr < Int32.toInt r ∧ Int32.toInt r ≤ Int32.toInt tlen))) → va_P (dC, dI) cls (WE h g len fp many tlen tat qlen md gat kind (.ref (k wi)) (.ref (k ti)) gs th st rq bl te og sc kd sr wo sa qb du) H → va_D A (WE h g len fp many tlen tat qlen md gat kind (.ref (k wi)) (.ref (k ti)) gs th st rq bl te og sc kd sr wo sa qb du) → va_S A s.heap H locs → W p l e ({ frames := 1, cells := 0, slots := 0, locals := 21 } : Room) s m args below meth c H locs 0 0 Q (F0 m pc ls [.int r])) : ∀ (H : Heap) (locs : List Loc) (ls : Array Slot), va_P (dC, dI) cls (WE h g len fp many tlen tat qlen md gat kind (.ref (k wi)) (.ref (k ti)) gs th st rq bl te og sc kd sr wo sa qb du) H → va_D A (WE h g len fp many tlen tat qlen md gat kind (.ref (k wi)) (.ref (k ti)) gs th st rq bl te og sc kd sr wo sa qb du) → va_S A s.heap H locs → lv_has ls 3 [(0, .ref (h 2)), (1, .int fr)] → W p l e ({ frames := 1, cells := 0, slots := 0, locals := 21 } : Room) s m args below meth c H locs 0 0 Q (F0 m 0 ls []) := by
  intro H locs ls hP hD hS hl
  refine lv_iload_n hx hb d_T_behindComment_0 rfl (lv_at hl 1 rfl) ?_
  refine lv_istore_n (lv' := [(2, .int fr), (0, .ref (h 2)), (1, .int fr)]) hx hb d_T_behindComment_1 rfl hl (by decide) rfl (fun ls hl => ?_)
  exact (lp_T_behindComment_2 (fr := fr) hx hb hml hown ht hE hA hK h_0 h_1 h_2 h_3 fin _) fr (by omega) (by omega) (Nat.lt_succ_self _) _ _ ls hP hD hS (lv_sub hl [0, 1] rfl)
set_option maxHeartbeats 4000000 in
set_option maxRecDepth 100000 in
theorem c_T_behindComment (l : Launch) (dC : Nat → ClassId) (dI : Nat → Nat → Nat) (k : Nat → Nat) (h : Nat → Nat) (g : Nat → ClassId) (len : Int32) (fp : Int32) (many : Int32) (tlen : Int32) (tat : Int32) (qlen : Int32) (md : Int32) (gat : Int32) (kind : Int32) (gs : Int32) (th : Int32) (st : Int32) (rq : Int32) (bl : Int32) (te : Int32) (og : Int32) (wi : Nat) (ti : Nat) (sc : Nat → Int32) (kd : Nat → Int32) (sr : Nat → Int32) (sa : Nat → Int32) (qb : Nat → Int32) (du : Nat → Int32) (wo : Nat → Option Nat) (fr : Int32) (sz : Nat) (h_0 : 0 ≤ Int32.toInt tlen) (h_1 : Int32.toInt tlen ≤ 400) (h_2 : 0 ≤ Int32.toInt fr) (h_3 : Int32.toInt fr ≤ 1000)  : Met l y_T_behindComment (.code y_T_behindComment b_T_behindComment 3 (some .int) :: TT) ({ frames := 1, cells := 0, slots := 0, locals := 21 }) (va_Pc [.ref (h 2), .int fr] (PX dC dI k (TE g) (WE h g len fp many tlen tat qlen md gat kind (.ref (k wi)) (.ref (k ti)) gs th st rq bl te og sc kd sr wo sa qb du) sz)) (va_Qi (fun (r : Int32) (u : Unit) => (Int32.toInt r = -1 ∨ (Int32.toInt fr < Int32.toInt r ∧ Int32.toInt r ≤ Int32.toInt tlen))) (fun u t => BX dC dI (TE g) (va_A (WE h g len fp many tlen tat qlen md gat kind (.ref (k wi)) (.ref (k ti)) gs th st rq bl te og sc kd sr wo sa qb du) sz) (WE h g len fp many tlen tat qlen md gat kind (.ref (k wi)) (.ref (k ti)) gs th st rq bl te og sc kd sr wo sa qb du) t) (va_A (WE h g len fp many tlen tat qlen md gat kind (.ref (k wi)) (.ref (k ti)) gs th st rq bl te og sc kd sr wo sa qb du) sz)) 0 0 (va_A (WE h g len fp many tlen tat qlen md gat kind (.ref (k wi)) (.ref (k ti)) gs th st rq bl te og sc kd sr wo sa qb du) sz) := by
  refine Met.ofW (cc := b_T_behindComment) (maxL := 3) (ret := (some .int)) (by decide) rfl ?_
  intro p e s m args below meth c s₁ B hml hv
  obtain ⟨rfl, hsz, hE, hP, hK, hD0⟩ := hv
  have hx := B.exec
  have hb := B.bytes
  have hr := B.returns
  have ht : ∀ w ∈ TT, w.before _ s = true := fun w hw => atoms_spec (ws := .code y_T_behindComment b_T_behindComment 3 (some .int) :: TT) B.pre w (List.mem_cons_of_mem _ hw)
  have hown : s.vm.findClass "SieveDesk$Tokens" = some m.cls := findClass_of_methodNamed B.named
  have hlocks := B.notSynchronized
  subst hsz
  have hD := hD0.self (sz := s.heap.size)
  generalize hAe : va_A (WE h g len fp many tlen tat qlen md gat kind (.ref (k wi)) (.ref (k ti)) gs th st rq bl te og sc kd sr wo sa qb du) s.heap.size = A at hE hD ⊢
  have hA : ∀ q : Nat, s.heap.size ≤ q → A q := fun q h9 => by rw [← hAe]; exact Or.inr h9
  have hS : va_S A s.heap s.heap [] := va_S.rf
  have hl := lv_entry ([.ref (h 2), .int fr]) (n := 3) (Nat.le_of_ble_eq_true rfl)
  rw [lg_entry_eq]
  generalize (lg_sl ([.ref (h 2), .int fr]) ++ List.replicate (3 - (lg_sl ([.ref (h 2), .int fr])).length) Slot.unset).toArray = ls at hl ⊢
  have hl : lv_has ls 3 [(0, .ref (h 2)), (1, .int fr)] := hl
  exact bd_T_behindComment_0 (fr := fr) hx hb hml hown ht hE hA hK h_0 h_1 h_2 h_3 (fun r u H locs pc ls hd hp hP hD hS => W.iret hx hb hr (fun t het hW => ⟨⟨r, u, rfl, hp, by rw [het]; exact hP, va_K.moved hW.alike hK, hD⟩, hS.F het⟩) hS.2.2 hd)   _ _ ls hP hD hS hl
set_option maxHeartbeats 4000000 in
set_option maxRecDepth 100000 in
theorem lp_T_behindLine_2 {p : Program} {l : Launch} {e : Env} {s : State} {m : MethodId} {args : Array Value} {below : List Frame} {meth : Method} {c : Code} {Q : State → Prop} {A : Nat → Prop} {dC : Nat → ClassId} {dI : Nat → Nat → Nat} {k h : Nat → Nat} {g : Nat → ClassId} {len : Int32} {fp : Int32} {many : Int32} {tlen : Int32} {tat : Int32} {qlen : Int32} {md : Int32} {gat : Int32} {kind : Int32} {gs : Int32} {th : Int32} {st : Int32} {rq : Int32} {bl : Int32} {te : Int32} {og : Int32} {wi : Nat} {ti : Nat} {sc : Nat → Int32} {kd : Nat → Int32} {sr : Nat → Int32} {sa : Nat → Int32} {qb : Nat → Int32} {du : Nat → Int32} {wo : Nat → Option Nat} (hx : p.tables.exec = Jvm.exec) (hb : c.code = b_T_behindLine) (hml : c.maxLocals = 3) (hown : s.vm.findClass "SieveDesk$Tokens" = some m.cls) (ht : ∀ w ∈ TT, w.before args s = true) (hE : KE k A s s.heap) (hA : ∀ q : Nat, s.heap.size ≤ q → A q) (hK : va_K (dC, dI) cls (TE g) s) {fr : Int32} (h_0 : 0 ≤ Int32.toInt tlen) (h_1 : Int32.toInt tlen ≤ 400) (h_2 : 0 ≤ Int32.toInt fr) (h_3 : Int32.toInt fr ≤ 1000) (fin : ∀ (r : Int32) (u : Unit) (H : Heap) (locs : List Loc) (pc : Nat) (ls : Array Slot), decode b_T_behindLine pc = .ok (.ireturn, 1) → ((Int32.toInt r = -1 ∨ (Int32.toInt fr < Int32.toInt r ∧ Int32.toInt r ≤ Int32.toInt tlen))) → va_P (dC, dI) cls (WE h g len fp many tlen tat qlen md gat kind (.ref (k wi)) (.ref (k ti)) gs th st rq bl te og sc kd sr wo sa qb du) H → va_D A (WE h g len fp many tlen tat qlen md gat kind (.ref (k wi)) (.ref (k ti)) gs th st rq bl te og sc kd sr wo sa qb du) → va_S A s.heap H locs → W p l e ({ frames := 1, cells := 0, slots := 0, locals := 21 } : Room) s m args below meth c H locs 0 0 Q (F0 m pc ls [.int r])) : ∀ (nn : Nat), ∀ (i : Int32), Int32.toInt fr ≤ Int32.toInt i → Int32.toInt i ≤ 1000 → (1001 - Int32.toInt i).toNat < nn → ∀ (H : Heap) (locs : List Loc) (ls : Array Slot), va_P (dC, dI) cls (WE h g len fp many tlen tat qlen md gat kind (.ref (k wi)) (.ref (k ti)) gs th st rq bl te og sc kd sr wo sa qb du) H → va_D A (WE h g len fp many tlen tat qlen md gat kind (.ref (k wi)) (.ref (k ti)) gs th st rq bl te og sc kd sr wo sa qb du) → va_S A s.heap H locs → lv_has ls 3 [(2, .int i), (0, .ref (h 2))] → W p l e ({ frames := 1, cells := 0, slots := 0, locals := 21 } : Room) s m args below meth c H locs 0 0 Q (F0 m 2 ls []) := by
  intro nn
  induction nn with
  | zero =>
    intro _ _ _ hm
    exact absurd hm (Nat.not_lt_zero _)
  | succ nn ih =>
    intro i v_0 v_1 hm H locs ls hP hD hS hl
    refine lv_iload_n hx hb d_T_behindLine_2 rfl (lv_at hl 0 rfl) ?_
    refine lv_aload_n hx hb d_T_behindLine_3 rfl (lv_at hl 1 rfl) ?_
    refine va_get (D := (dC, dI)) (ci := 1) (v := .int tlen) (C := "SieveDesk$Tokens") (T := F_T) (N := 9) hx hb ht i_T hown hK hP 2 rfl rfl 7 (by decide) (ht _ k_131) (fun _ h9 => h9) rfl d_T_behindLine_4 ?_
    refine lv_icmp_ge (tgt := 30) hx hb d_T_behindLine_7 (by decide) (fun c_1 => ?_) (fun c_1 => ?_)
    · have dc_1 := i_le c_1 rfl rfl
      refine lv_iconst (v := (-1)) hx hb d_T_behindLine_30 (by decide) ?_
      have hc_m1 : Int32.toInt (-1) = (-1) := by decide
      exact fin (-1) () _ _ _ ls d_T_behindLine_31 (by (try dsimp only); omega) hP hD hS
    · have dc_1 := i_nle c_1 rfl rfl
      refine lv_aload_n hx hb d_T_behindLine_10 rfl (lv_at hl 1 rfl) ?_
      refine lv_iload_n hx hb d_T_behindLine_11 rfl (lv_at hl 0 rfl) ?_
      have hFc := va_free (wc := (WE h g len fp many tlen tat qlen md gat kind (.ref (k wi)) (.ref (k ti)) gs th st rq bl te og sc kd sr wo sa qb du)) hD hS hA [0, 1, 2, 3, 4, 5, 6, 7, 8, 9, 10] rfl
      refine va_calli (va_runV (As := [.int i]) (rest := []) ⟨hx, hb, hml, hown, ht⟩ (c_T_byteAt l dC dI k h g len fp many tlen tat qlen md gat kind gs th st rq bl te og wi ti sc kd sr sa qb du wo i _  ) (cwV 1 ht (g_V k_239 k_241 k_2 k_75 k_242) rfl rfl rfl (by decide +kernel) ⟨(Nat.le_of_ble_eq_true rfl), (Nat.le_of_ble_eq_true rfl)⟩) ⟨fb_X, va_recv hK hP (ci := 1) (q0 := 2) rfl rfl, pre_X hE hS hFc hP hK hD⟩ rfl rfl hl.1 rfl (lv_room (Nat.le_of_ble_eq_true rfl)) d_T_behindLine_12 ⟨(Nat.le_of_ble_eq_true rfl), (Nat.le_of_ble_eq_true rfl)⟩) hS (fun q _ h9 => hFc q h9) hFc (fun r_3 u_2 t H locs het hvm hw hB hz1 hk1 hS => ?_)
      obtain ⟨p_4, p_5, p_6⟩ := hw
      obtain ⟨hP1, hK1, hD1⟩ := hB
      rw [het] at hP1
      have hP : va_P (dC, dI) cls (WE h g len fp many tlen tat qlen md gat kind (.ref (k wi)) (.ref (k ti)) gs th st rq bl te og sc kd sr wo sa qb du) H := hP1
      have hD : va_D A (WE h g len fp many tlen tat qlen md gat kind (.ref (k wi)) (.ref (k ti)) gs th st rq bl te og sc kd sr wo sa qb du) := hD1.weaken (fun _ _ _ h9 => hFc _ h9)
      refine lv_bipush (v := 10) hx hb d_T_behindLine_15 (by decide) ?_
      refine lv_icmp_ne (tgt := 24) hx hb d_T_behindLine_17 (by decide) (fun c_7 => ?_) (fun c_7 => ?_)
      · have dc_7 := i_ne c_7 rfl (show Int32.toInt 10 = 10 by decide)
        refine lv_iinc (v := (i + 1)) (lv' := [(2, .int (i + 1)), (0, .ref (h 2))]) hx hb d_T_behindLine_24 hl (k := 0) rfl rfl (by decide) rfl (fun ls hl => ?_)
        have e_8 : Int32.toInt (i + 1) = (Int32.toInt i) + 1 := i_add rfl (show Int32.toInt 1 = 1 by decide) (by omega) (by omega)
        refine lv_goto (tgt := 2) hx hb d_T_behindLine_27 (by decide) ?_
        exact ih (i + 1) (by omega) (by omega) (by omega) _ _ ls hP hD hS (lv_sub hl [0, 1] rfl)
      · have dc_7 := i_eq c_7 rfl (show Int32.toInt 10 = 10 by decide)
        refine lv_iload_n hx hb d_T_behindLine_20 rfl (lv_at hl 0 rfl) ?_
        refine lv_iconst (v := 1) hx hb d_T_behindLine_21 (by decide) ?_
        refine lv_iadd hx hb d_T_behindLine_22 ?_
        have e_9 : Int32.toInt (i + 1) = (Int32.toInt i) + 1 := i_add rfl (show Int32.toInt 1 = 1 by decide) (by omega) (by omega)
        exact fin (i + 1) () _ _ _ ls d_T_behindLine_23 (by (try dsimp only); omega) hP hD hS
set_option maxHeartbeats 4000000 in
set_option maxRecDepth 100000 in
theorem bd_T_behindLine_0 {p : Program} {l : Launch} {e : Env} {s : State} {m : MethodId} {args : Array Value} {below : List Frame} {meth : Method} {c : Code} {Q : State → Prop} {A : Nat → Prop} {dC : Nat → ClassId} {dI : Nat → Nat → Nat} {k h : Nat → Nat} {g : Nat → ClassId} {len : Int32} {fp : Int32} {many : Int32} {tlen : Int32} {tat : Int32} {qlen : Int32} {md : Int32} {gat : Int32} {kind : Int32} {gs : Int32} {th : Int32} {st : Int32} {rq : Int32} {bl : Int32} {te : Int32} {og : Int32} {wi : Nat} {ti : Nat} {sc : Nat → Int32} {kd : Nat → Int32} {sr : Nat → Int32} {sa : Nat → Int32} {qb : Nat → Int32} {du : Nat → Int32} {wo : Nat → Option Nat} (hx : p.tables.exec = Jvm.exec) (hb : c.code = b_T_behindLine) (hml : c.maxLocals = 3) (hown : s.vm.findClass "SieveDesk$Tokens" = some m.cls) (ht : ∀ w ∈ TT, w.before args s = true) (hE : KE k A s s.heap) (hA : ∀ q : Nat, s.heap.size ≤ q → A q) (hK : va_K (dC, dI) cls (TE g) s) {fr : Int32} (h_0 : 0 ≤ Int32.toInt tlen) (h_1 : Int32.toInt tlen ≤ 400) (h_2 : 0 ≤ Int32.toInt fr) (h_3 : Int32.toInt fr ≤ 1000) (fin : ∀ (r : Int32) (u : Unit) (H : Heap) (locs : List Loc) (pc : Nat) (ls : Array Slot), decode b_T_behindLine pc = .ok (.ireturn, 1) → ((Int32.toInt r = -1 ∨ (Int32.toInt fr < Int32.toInt r ∧ Int32.toInt r ≤ Int32.toInt tlen))) → va_P (dC, dI) cls (WE h g len fp many tlen tat qlen md gat kind (.ref (k wi)) (.ref (k ti)) gs th st rq bl te og sc kd sr wo sa qb du) H → va_D A (WE h g len fp many tlen tat qlen md gat kind (.ref (k wi)) (.ref (k ti)) gs th st rq bl te og sc kd sr wo sa qb du) → va_S A s.heap H locs → W p l e ({ frames := 1, cells := 0, slots := 0, locals := 21 } : Room) s m args below meth c H locs 0 0 Q (F0 m pc ls [.int r])) : ∀ (H : Heap) (locs : List Loc) (ls : Array Slot), va_P (dC, dI) cls (WE h g len fp many tlen tat qlen md gat kind (.ref (k wi)) (.ref (k ti)) gs th st rq bl te og sc kd sr wo sa qb du) H → va_D A (WE h g len fp many tlen tat qlen md gat kind (.ref (k wi)) (.ref (k ti)) gs th st rq bl te og sc kd sr wo sa qb du) → va_S A s.heap H locs → lv_has ls 3 [(0, .ref (h 2)), (1, .int fr)] → W p l e ({ frames := 1, cells := 0, slots := 0, locals := 21 } : Room) s m args below meth c H locs 0 0 Q (F0 m 0 ls []) := by
  intro H locs ls hP hD hS hl
  refine lv_iload_n hx hb d_T_behindLine_0 rfl (lv_at hl 1 rfl) ?_
  refine lv_istore_n (lv' := [(2, .int fr), (0, .ref (h 2)), (1, .int fr)]) hx hb d_T_behindLine_1 rfl hl (by decide) rfl (fun ls hl => ?_)
  exact (lp_T_behindLine_2 (fr := fr) hx hb hml hown ht hE hA hK h_0 h_1 h_2 h_3 fin _) fr (by omega) (by omega) (Nat.lt_succ_self _) _ _ ls hP hD hS (lv_sub hl [0, 1] rfl)
set_option maxHeartbeats 4000000 in
set_option maxRecDepth 100000 in
theorem c_T_behindLine (l : Launch) (dC : Nat → ClassId) (dI : Nat → Nat → Nat) (k : Nat → Nat) (h : Nat → Nat) (g : Nat → ClassId) (len : Int32) (fp : Int32) (many : Int32) (tlen : Int32) (tat : Int32) (qlen : Int32) (md : Int32) (gat : Int32) (kind : Int32) (gs : Int32) (th : Int32) (st : Int32) (rq : Int32) (bl : Int32) (te : Int32) (og : Int32) (wi : Nat) (ti : Nat) (sc : Nat → Int32) (kd : Nat → Int32) (sr : Nat → Int32) (sa : Nat → Int32) (qb : Nat → Int32) (du : Nat → Int32) (wo : Nat → Option Nat) (fr : Int32) (sz : Nat) (h_0 : 0 ≤ Int32.toInt tlen) (h_1 : Int32.toInt tlen ≤ 400) (h_2 : 0 ≤ Int32.toInt fr) (h_3 : Int32.toInt fr ≤ 1000)  : Met l y_T_behindLine (.code y_T_behindLine b_T_behindLine 3 (some .int) :: TT) ({ frames := 1, cells := 0, slots := 0, locals := 21 }) (va_Pc [.ref (h 2), .int fr] (PX dC dI k (TE g) (WE h g len fp many tlen tat qlen md gat kind (.ref (k wi)) (.ref (k ti)) gs th st rq bl te og sc kd sr wo sa qb du) sz)) (va_Qi (fun (r : Int32) (u : Unit) => (Int32.toInt r = -1 ∨ (Int32.toInt fr < Int32.toInt r ∧ Int32.toInt r ≤ Int32.toInt tlen))) (fun u t => BX dC dI (TE g) (va_A (WE h g len fp many tlen tat qlen md gat kind (.ref (k wi)) (.ref (k ti)) gs th st rq bl te og sc kd sr wo sa qb du) sz) (WE h g len fp many tlen tat qlen md gat kind (.ref (k wi)) (.ref (k ti)) gs th st rq bl te og sc kd sr wo sa qb du) t) (va_A (WE h g len fp many tlen tat qlen md gat kind (.ref (k wi)) (.ref (k ti)) gs th st rq bl te og sc kd sr wo sa qb du) sz)) 0 0 (va_A (WE h g len fp many tlen tat qlen md gat kind (.ref (k wi)) (.ref (k ti)) gs th st rq bl te og sc kd sr wo sa qb du) sz) := by
  refine Met.ofW (cc := b_T_behindLine) (maxL := 3) (ret := (some .int)) (by decide) rfl ?_
  intro p e s m args below meth c s₁ B hml hv
  obtain ⟨rfl, hsz, hE, hP, hK, hD0⟩ := hv
  have hx := B.exec
  have hb := B.bytes
  have hr := B.returns
  have ht : ∀ w ∈ TT, w.before _ s = true := fun w hw => atoms_spec (ws := .code y_T_behindLine b_T_behindLine 3 (some .int) :: TT) B.pre w (List.mem_cons_of_mem _ hw)
  have hown : s.vm.findClass "SieveDesk$Tokens" = some m.cls := findClass_of_methodNamed B.named
  have hlocks := B.notSynchronized
  subst hsz
  have hD := hD0.self (sz := s.heap.size)
  generalize hAe : va_A (WE h g len fp many tlen tat qlen md gat kind (.ref (k wi)) (.ref (k ti)) gs th st rq bl te og sc kd sr wo sa qb du) s.heap.size = A at hE hD ⊢
  have hA : ∀ q : Nat, s.heap.size ≤ q → A q := fun q h9 => by rw [← hAe]; exact Or.inr h9
  have hS : va_S A s.heap s.heap [] := va_S.rf
  have hl := lv_entry ([.ref (h 2), .int fr]) (n := 3) (Nat.le_of_ble_eq_true rfl)
  rw [lg_entry_eq]
  generalize (lg_sl ([.ref (h 2), .int fr]) ++ List.replicate (3 - (lg_sl ([.ref (h 2), .int fr])).length) Slot.unset).toArray = ls at hl ⊢
  have hl : lv_has ls 3 [(0, .ref (h 2)), (1, .int fr)] := hl
  exact bd_T_behindLine_0 (fr := fr) hx hb hml hown ht hE hA hK h_0 h_1 h_2 h_3 (fun r u H locs pc ls hd hp hP hD hS => W.iret hx hb hr (fun t het hW => ⟨⟨r, u, rfl, hp, by rw [het]; exact hP, va_K.moved hW.alike hK, hD⟩, hS.F het⟩) hS.2.2 hd)   _ _ ls hP hD hS hl
set_option maxHeartbeats 4000000 in
set_option maxRecDepth 100000 in
theorem bd_T_behindLineEnd_0 {p : Program} {l : Launch} {e : Env} {s : State} {m : MethodId} {args : Array Value} {below : List Frame} {meth : Method} {c : Code} {Q : State → Prop} {A : Nat → Prop} {dC : Nat → ClassId} {dI : Nat → Nat → Nat} {k h : Nat → Nat} {g : Nat → ClassId} {len : Int32} {fp : Int32} {many : Int32} {tlen : Int32} {tat : Int32} {qlen : Int32} {md : Int32} {gat : Int32} {kind : Int32} {gs : Int32} {th : Int32} {st : Int32} {rq : Int32} {bl : Int32} {te : Int32} {og : Int32} {wi : Nat} {ti : Nat} {sc : Nat → Int32} {kd : Nat → Int32} {sr : Nat → Int32} {sa : Nat → Int32} {qb : Nat → Int32} {du : Nat → Int32} {wo : Nat → Option Nat} (hx : p.tables.exec = Jvm.exec) (hb : c.code = b_T_behindLineEnd) (hml : c.maxLocals = 2) (hown : s.vm.findClass "SieveDesk$Tokens" = some m.cls) (ht : ∀ w ∈ TT, w.before args s = true) (hE : KE k A s s.heap) (hA : ∀ q : Nat, s.heap.size ≤ q → A q) (hK : va_K (dC, dI) cls (TE g) s) {i : Int32} (h_0 : 0 ≤ Int32.toInt tlen) (h_1 : Int32.toInt tlen ≤ 400) (h_2 : -1000 ≤ Int32.toInt i) (h_3 : Int32.toInt i ≤ 1000) (fin : ∀ (r : Int32) (u : Unit) (H : Heap) (locs : List Loc) (pc : Nat) (ls : Array Slot), decode b_T_behindLineEnd pc = .ok (.ireturn, 1) → ((Int32.toInt r = -1 ∨ (Int32.toInt i < Int32.toInt r ∧ 0 ≤ Int32.toInt r ∧ Int32.toInt r ≤ Int32.toInt tlen))) → va_P (dC, dI) cls (WE h g len fp many tlen tat qlen md gat kind (.ref (k wi)) (.ref (k ti)) gs th st rq bl te og sc kd sr wo sa qb du) H → va_D A (WE h g len fp many tlen tat qlen md gat kind (.ref (k wi)) (.ref (k ti)) gs th st rq bl te og sc kd sr wo sa qb du) → va_S A s.heap H locs → W p l e ({ frames := 1, cells := 0, slots := 0, locals := 21 } : Room) s m args below meth c H locs 0 0 Q (F0 m pc ls [.int r])) : ∀ (H : Heap) (locs : List Loc) (ls : Array Slot), va_P (dC, dI) cls (WE h g len fp many tlen tat qlen md gat kind (.ref (k wi)) (.ref (k ti)) gs th st rq bl te og sc kd sr wo sa qb du) H → va_D A (WE h g len fp many tlen tat qlen md gat kind (.ref (k wi)) (.ref (k ti)) gs th st rq bl te og sc kd sr wo sa qb du) → va_S A s.heap H locs → lv_has ls 2 [(0, .ref (h 2)), (1, .int i)] → W p l e ({ frames := 1, cells := 0, slots := 0, locals := 21 } : Room) s m args below meth c H locs 0 0 Q (F0 m 0 ls []) := by
  intro H locs ls hP hD hS hl
  refine lv_aload_n hx hb d_T_behindLineEnd_0 rfl (lv_at hl 0 rfl) ?_
  refine lv_iload_n hx hb d_T_behindLineEnd_1 rfl (lv_at hl 1 rfl) ?_
  have hFc := va_free (wc := (WE h g len fp many tlen tat qlen md gat kind (.ref (k wi)) (.ref (k ti)) gs th st rq bl te og sc kd sr wo sa qb du)) hD hS hA [0, 1, 2, 3, 4, 5, 6, 7, 8, 9, 10] rfl
  refine va_calli (va_runV (As := [.int i]) (rest := []) ⟨hx, hb, hml, hown, ht⟩ (c_T_byteAt l dC dI k h g len fp many tlen tat qlen md gat kind gs th st rq bl te og wi ti sc kd sr sa qb du wo i _  ) (cwV 1 ht (g_V k_239 k_241 k_2 k_75 k_242) rfl rfl rfl (by decide +kernel) ⟨(Nat.le_of_ble_eq_true rfl), (Nat.le_of_ble_eq_true rfl)⟩) ⟨fb_X, va_recv hK hP (ci := 1) (q0 := 2) rfl rfl, pre_X hE hS hFc hP hK hD⟩ rfl rfl hl.1 rfl (lv_room (Nat.le_of_ble_eq_true rfl)) d_T_behindLineEnd_2 ⟨(Nat.le_of_ble_eq_true rfl), (Nat.le_of_ble_eq_true rfl)⟩) hS (fun q _ h9 => hFc q h9) hFc (fun r_2 u_1 t H locs het hvm hw hB hz1 hk1 hS => ?_)
  obtain ⟨p_3, p_4, p_5⟩ := hw
  obtain ⟨hP1, hK1, hD1⟩ := hB
  rw [het] at hP1
  have hP : va_P (dC, dI) cls (WE h g len fp many tlen tat qlen md gat kind (.ref (k wi)) (.ref (k ti)) gs th st rq bl te og sc kd sr wo sa qb du) H := hP1
  have hD : va_D A (WE h g len fp many tlen tat qlen md gat kind (.ref (k wi)) (.ref (k ti)) gs th st rq bl te og sc kd sr wo sa qb du) := hD1.weaken (fun _ _ _ h9 => hFc _ h9)
  refine lv_bipush (v := 10) hx hb d_T_behindLineEnd_5 (by decide) ?_
  refine lv_icmp_ne (tgt := 14) hx hb d_T_behindLineEnd_7 (by decide) (fun c_6 => ?_) (fun c_6 => ?_)
  · have dc_6 := i_ne c_6 rfl (show Int32.toInt 10 = 10 by decide)
    refine lv_aload_n hx hb d_T_behindLineEnd_14 rfl (lv_at hl 0 rfl) ?_
    refine lv_iload_n hx hb d_T_behindLineEnd_15 rfl (lv_at hl 1 rfl) ?_
    have hFc := va_free (wc := (WE h g len fp many tlen tat qlen md gat kind (.ref (k wi)) (.ref (k ti)) gs th st rq bl te og sc kd sr wo sa qb du)) hD hS hA [0, 1, 2, 3, 4, 5, 6, 7, 8, 9, 10] rfl
    refine va_calli (va_runV (As := [.int i]) (rest := []) ⟨hx, hb, hml, hown, ht⟩ (c_T_byteAt l dC dI k h g len fp many tlen tat qlen md gat kind gs th st rq bl te og wi ti sc kd sr sa qb du wo i _  ) (cwV 1 ht (g_V k_239 k_241 k_2 k_75 k_242) rfl rfl rfl (by decide +kernel) ⟨(Nat.le_of_ble_eq_true rfl), (Nat.le_of_ble_eq_true rfl)⟩) ⟨fb_X, va_recv hK hP (ci := 1) (q0 := 2) rfl rfl, pre_X hE hS hFc hP hK hD⟩ rfl rfl hl.1 rfl (lv_room (Nat.le_of_ble_eq_true rfl)) d_T_behindLineEnd_16 ⟨(Nat.le_of_ble_eq_true rfl), (Nat.le_of_ble_eq_true rfl)⟩) hS (fun q _ h9 => hFc q h9) hFc (fun r_8 u_7 t H locs het hvm hw hB hz1 hk1 hS => ?_)
    obtain ⟨p_9, p_10, p_11⟩ := hw
    obtain ⟨hP1, hK1, hD1⟩ := hB
    rw [het] at hP1
    have hP : va_P (dC, dI) cls (WE h g len fp many tlen tat qlen md gat kind (.ref (k wi)) (.ref (k ti)) gs th st rq bl te og sc kd sr wo sa qb du) H := hP1
    have hD : va_D A (WE h g len fp many tlen tat qlen md gat kind (.ref (k wi)) (.ref (k ti)) gs th st rq bl te og sc kd sr wo sa qb du) := hD1.weaken (fun _ _ _ h9 => hFc _ h9)
    refine lv_bipush (v := 13) hx hb d_T_behindLineEnd_19 (by decide) ?_
    refine lv_icmp_ne (tgt := 42) hx hb d_T_behindLineEnd_21 (by decide) (fun c_12 => ?_) (fun c_12 => ?_)
    · have dc_12 := i_ne c_12 rfl (show Int32.toInt 13 = 13 by decide)
      refine lv_iconst (v := (-1)) hx hb d_T_behindLineEnd_42 (by decide) ?_
      have hc_m1 : Int32.toInt (-1) = (-1) := by decide
      exact fin (-1) () _ _ _ ls d_T_behindLineEnd_43 (by (try dsimp only); omega) hP hD hS
    · have dc_12 := i_eq c_12 rfl (show Int32.toInt 13 = 13 by decide)
      refine lv_aload_n hx hb d_T_behindLineEnd_24 rfl (lv_at hl 0 rfl) ?_
      refine lv_iload_n hx hb d_T_behindLineEnd_25 rfl (lv_at hl 1 rfl) ?_
      refine lv_iconst (v := 1) hx hb d_T_behindLineEnd_26 (by decide) ?_
      refine lv_iadd hx hb d_T_behindLineEnd_27 ?_
      have e_13 : Int32.toInt (i + 1) = (Int32.toInt i) + 1 := i_add rfl (show Int32.toInt 1 = 1 by decide) (by omega) (by omega)
      have hFc := va_free (wc := (WE h g len fp many tlen tat qlen md gat kind (.ref (k wi)) (.ref (k ti)) gs th st rq bl te og sc kd sr wo sa qb du)) hD hS hA [0, 1, 2, 3, 4, 5, 6, 7, 8, 9, 10] rfl
      refine va_calli (va_runV (As := [.int (i + 1)]) (rest := []) ⟨hx, hb, hml, hown, ht⟩ (c_T_byteAt l dC dI k h g len fp many tlen tat qlen md gat kind gs th st rq bl te og wi ti sc kd sr sa qb du wo (i + 1) _  ) (cwV 1 ht (g_V k_239 k_241 k_2 k_75 k_242) rfl rfl rfl (by decide +kernel) ⟨(Nat.le_of_ble_eq_true rfl), (Nat.le_of_ble_eq_true rfl)⟩) ⟨fb_X, va_recv hK hP (ci := 1) (q0 := 2) rfl rfl, pre_X hE hS hFc hP hK hD⟩ rfl rfl hl.1 rfl (lv_room (Nat.le_of_ble_eq_true rfl)) d_T_behindLineEnd_28 ⟨(Nat.le_of_ble_eq_true rfl), (Nat.le_of_ble_eq_true rfl)⟩) hS (fun q _ h9 => hFc q h9) hFc (fun r_15 u_14 t H locs het hvm hw hB hz1 hk1 hS => ?_)
      obtain ⟨p_16, p_17, p_18⟩ := hw
      obtain ⟨hP1, hK1, hD1⟩ := hB
      rw [het] at hP1
      have hP : va_P (dC, dI) cls (WE h g len fp many tlen tat qlen md gat kind (.ref (k wi)) (.ref (k ti)) gs th st rq bl te og sc kd sr wo sa qb du) H := hP1
      have hD : va_D A (WE h g len fp many tlen tat qlen md gat kind (.ref (k wi)) (.ref (k ti)) gs th st rq bl te og sc kd sr wo sa qb du) := hD1.weaken (fun _ _ _ h9 => hFc _ h9)
      refine lv_bipush (v := 10) hx hb d_T_behindLineEnd_31 (by decide) ?_
      refine lv_icmp_ne (tgt := 42) hx hb d_T_behindLineEnd_33 (by decide) (fun c_19 => ?_) (fun c_19 => ?_)
      · have dc_19 := i_ne c_19 rfl (show Int32.toInt 10 = 10 by decide)
        refine lv_iconst (v := (-1)) hx hb d_T_behindLineEnd_42 (by decide) ?_
        have hc_m1 : Int32.toInt (-1) = (-1) := by decide
        exact fin (-1) () _ _ _ ls d_T_behindLineEnd_43 (by (try dsimp only); omega) hP hD hS
      · have dc_19 := i_eq c_19 rfl (show Int32.toInt 10 = 10 by decide)
        refine lv_iload_n hx hb d_T_behindLineEnd_36 rfl (lv_at hl 1 rfl) ?_
        refine lv_iconst (v := 2) hx hb d_T_behindLineEnd_37 (by decide) ?_
        refine lv_iadd hx hb d_T_behindLineEnd_38 ?_
        have e_20 : Int32.toInt (i + 2) = (Int32.toInt i) + 2 := i_add rfl (show Int32.toInt 2 = 2 by decide) (by omega) (by omega)
        refine lv_goto (tgt := 43) hx hb d_T_behindLineEnd_39 (by decide) ?_
        exact fin (i + 2) () _ _ _ ls d_T_behindLineEnd_43 (by (try dsimp only); omega) hP hD hS
  · have dc_6 := i_eq c_6 rfl (show Int32.toInt 10 = 10 by decide)
    refine lv_iload_n hx hb d_T_behindLineEnd_10 rfl (lv_at hl 1 rfl) ?_
    refine lv_iconst (v := 1) hx hb d_T_behindLineEnd_11 (by decide) ?_
    refine lv_iadd hx hb d_T_behindLineEnd_12 ?_
    have e_21 : Int32.toInt (i + 1) = (Int32.toInt i) + 1 := i_add rfl (show Int32.toInt 1 = 1 by decide) (by omega) (by omega)
    exact fin (i + 1) () _ _ _ ls d_T_behindLineEnd_13 (by (try dsimp only); omega) hP hD hS
set_option maxHeartbeats 4000000 in
set_option maxRecDepth 100000 in
theorem c_T_behindLineEnd (l : Launch) (dC : Nat → ClassId) (dI : Nat → Nat → Nat) (k : Nat → Nat) (h : Nat → Nat) (g : Nat → ClassId) (len : Int32) (fp : Int32) (many : Int32) (tlen : Int32) (tat : Int32) (qlen : Int32) (md : Int32) (gat : Int32) (kind : Int32) (gs : Int32) (th : Int32) (st : Int32) (rq : Int32) (bl : Int32) (te : Int32) (og : Int32) (wi : Nat) (ti : Nat) (sc : Nat → Int32) (kd : Nat → Int32) (sr : Nat → Int32) (sa : Nat → Int32) (qb : Nat → Int32) (du : Nat → Int32) (wo : Nat → Option Nat) (i : Int32) (sz : Nat) (h_0 : 0 ≤ Int32.toInt tlen) (h_1 : Int32.toInt tlen ≤ 400) (h_2 : -1000 ≤ Int32.toInt i) (h_3 : Int32.toInt i ≤ 1000)  : Met l y_T_behindLineEnd (.code y_T_behindLineEnd b_T_behindLineEnd 2 (some .int) :: TT) ({ frames := 1, cells := 0, slots := 0, locals := 21 }) (va_Pc [.ref (h 2), .int i] (PX dC dI k (TE g) (WE h g len fp many tlen tat qlen md gat kind (.ref (k wi)) (.ref (k ti)) gs th st rq bl te og sc kd sr wo sa qb du) sz)) (va_Qi (fun (r : Int32) (u : Unit) => (Int32.toInt r = -1 ∨ (Int32.toInt i < Int32.toInt r ∧ 0 ≤ Int32.toInt r ∧ Int32.toInt r ≤ Int32.toInt tlen))) (fun u t => BX dC dI (TE g) (va_A (WE h g len fp many tlen tat qlen md gat kind (.ref (k wi)) (.ref (k ti)) gs th st rq bl te og sc kd sr wo sa qb du) sz) (WE h g len fp many tlen tat qlen md gat kind (.ref (k wi)) (.ref (k ti)) gs th st rq bl te og sc kd sr wo sa qb du) t) (va_A (WE h g len fp many tlen tat qlen md gat kind (.ref (k wi)) (.ref (k ti)) gs th st rq bl te og sc kd sr wo sa qb du) sz)) 0 0 (va_A (WE h g len fp many tlen tat qlen md gat kind (.ref (k wi)) (.ref (k ti)) gs th st rq bl te og sc kd sr wo sa qb du) sz) := by
  refine Met.ofW (cc := b_T_behindLineEnd) (maxL := 2) (ret := (some .int)) (by decide) rfl ?_
  intro p e s m args below meth c s₁ B hml hv
  obtain ⟨rfl, hsz, hE, hP, hK, hD0⟩ := hv
  have hx := B.exec
  have hb := B.bytes
  have hr := B.returns
  have ht : ∀ w ∈ TT, w.before _ s = true := fun w hw => atoms_spec (ws := .code y_T_behindLineEnd b_T_behindLineEnd 2 (some .int) :: TT) B.pre w (List.mem_cons_of_mem _ hw)
  have hown : s.vm.findClass "SieveDesk$Tokens" = some m.cls := findClass_of_methodNamed B.named
  have hlocks := B.notSynchronized
  subst hsz
  have hD := hD0.self (sz := s.heap.size)
  generalize hAe : va_A (WE h g len fp many tlen tat qlen md gat kind (.ref (k wi)) (.ref (k ti)) gs th st rq bl te og sc kd sr wo sa qb du) s.heap.size = A at hE hD ⊢
  have hA : ∀ q : Nat, s.heap.size ≤ q → A q := fun q h9 => by rw [← hAe]; exact Or.inr h9
  have hS : va_S A s.heap s.heap [] := va_S.rf
  have hl := lv_entry ([.ref (h 2), .int i]) (n := 2) (Nat.le_of_ble_eq_true rfl)
  rw [lg_entry_eq]
  generalize (lg_sl ([.ref (h 2), .int i]) ++ List.replicate (2 - (lg_sl ([.ref (h 2), .int i])).length) Slot.unset).toArray = ls at hl ⊢
  have hl : lv_has ls 2 [(0, .ref (h 2)), (1, .int i)] := hl
  exact bd_T_behindLineEnd_0 (i := i) hx hb hml hown ht hE hA hK h_0 h_1 h_2 h_3 (fun r u H locs pc ls hd hp hP hD hS => W.iret hx hb hr (fun t het hW => ⟨⟨r, u, rfl, hp, by rw [het]; exact hP, va_K.moved hW.alike hK, hD⟩, hS.F het⟩) hS.2.2 hd)   _ _ ls hP hD hS hl
set_option maxHeartbeats 4000000 in
set_option maxRecDepth 100000 in
theorem lp_T_wordEnd_2 {p : Program} {l : Launch} {e : Env} {s : State} {m : MethodId} {args : Array Value} {below : List Frame} {meth : Method} {c : Code} {Q : State → Prop} {A : Nat → Prop} {dC : Nat → ClassId} {dI : Nat → Nat → Nat} {k h : Nat → Nat} {g : Nat → ClassId} {len : Int32} {fp : Int32} {many : Int32} {tlen : Int32} {tat : Int32} {qlen : Int32} {md : Int32} {gat : Int32} {kind : Int32} {gs : Int32} {th : Int32} {st : Int32} {rq : Int32} {bl : Int32} {te : Int32} {og : Int32} {wi : Nat} {ti : Nat} {sc : Nat → Int32} {kd : Nat → Int32} {sr : Nat → Int32} {sa : Nat → Int32} {qb : Nat → Int32} {du : Nat → Int32} {wo : Nat → Option Nat} (hx : p.tables.exec = Jvm.exec) (hb : c.code = b_T_wordEnd) (hml : c.maxLocals = 3) (hown : s.vm.findClass "SieveDesk$Tokens" = some m.cls) (ht : ∀ w ∈ TT, w.before args s = true) (hE : KE k A s s.heap) (hA : ∀ q : Nat, s.heap.size ≤ q → A q) (hK : va_K (dC, dI) cls (TE g) s) {fr : Int32} (h_0 : 0 ≤ Int32.toInt tlen) (h_1 : Int32.toInt tlen ≤ 400) (h_2 : 0 ≤ Int32.toInt fr) (h_3 : Int32.toInt fr ≤ 1000) (fin : ∀ (r : Int32) (u : Unit) (H : Heap) (locs : List Loc) (pc : Nat) (ls : Array Slot), decode b_T_wordEnd pc = .ok (.ireturn, 1) → (Int32.toInt fr ≤ Int32.toInt r ∧ (Int32.toInt r ≤ Int32.toInt fr ∨ Int32.toInt r ≤ Int32.toInt tlen)) → va_P (dC, dI) cls (WE h g len fp many tlen tat qlen md gat kind (.ref (k wi)) (.ref (k ti)) gs th st rq bl te og sc kd sr wo sa qb du) H → va_D A (WE h g len fp many tlen tat qlen md gat kind (.ref (k wi)) (.ref (k ti)) gs th st rq bl te og sc kd sr wo sa qb du) → va_S A s.heap H locs → W p l e ({ frames := 2, cells := 0, slots := 0, locals := 40 } : Room) s m args below meth c H locs 0 0 Q (F0 m pc ls [.int r])) : ∀ (nn : Nat), ∀ (en : Int32), Int32.toInt fr ≤ Int32.toInt en → (Int32.toInt en ≤ Int32.toInt fr ∨ Int32.toInt en ≤ Int32.toInt tlen) → (1001 - Int32.toInt en).toNat < nn → ∀ (H : Heap) (locs : List Loc) (ls : Array Slot), va_P (dC, dI) cls (WE h g len fp many tlen tat qlen md gat kind (.ref (k wi)) (.ref (k ti)) gs th st rq bl te og sc kd sr wo sa qb du) H → va_D A (WE h g len fp many tlen tat qlen md gat kind (.ref (k wi)) (.ref (k ti)) gs th st rq bl te og sc kd sr wo sa qb du) → va_S A s.heap H locs → lv_has ls 3 [(2, .int en), (0, .ref (h 2))] → W p l e ({ frames := 2, cells := 0, slots := 0, locals := 40 } : Room) s m args below meth c H locs 0 0 Q (F0 m 2 ls []) := by
  intro nn
  induction nn with
  | zero =>
    intro _ _ _ hm
    exact absurd hm (Nat.not_lt_zero _)
  | succ nn ih =>
    intro en v_0 v_1 hm H locs ls hP hD hS hl
    refine lv_iload_n hx hb d_T_wordEnd_2 rfl (lv_at hl 0 rfl) ?_
    refine lv_aload_n hx hb d_T_wordEnd_3 rfl (lv_at hl 1 rfl) ?_
    refine va_get (D := (dC, dI)) (ci := 1) (v := .int tlen) (C := "SieveDesk$Tokens") (T := F_T) (N := 9) hx hb ht i_T hown hK hP 2 rfl rfl 7 (by decide) (ht _ k_131) (fun _ h9 => h9) rfl d_T_wordEnd_4 ?_
    refine lv_icmp_ge (tgt := 27) hx hb d_T_wordEnd_7 (by decide) (fun c_1 => ?_) (fun c_1 => ?_)
    · have dc_1 := i_le c_1 rfl rfl
      refine lv_iload_n hx hb d_T_wordEnd_27 rfl (lv_at hl 0 rfl) ?_
      exact fin en () _ _ _ ls d_T_wordEnd_28 ⟨(by (try dsimp only); omega), (by (try dsimp only); omega)⟩ hP hD hS
    · have dc_1 := i_nle c_1 rfl rfl
      refine lv_aload_n hx hb d_T_wordEnd_10 rfl (lv_at hl 1 rfl) ?_
      refine lv_iload_n hx hb d_T_wordEnd_11 rfl (lv_at hl 0 rfl) ?_
      have hFc := va_free (wc := (WE h g len fp many tlen tat qlen md gat kind (.ref (k wi)) (.ref (k ti)) gs th st rq bl te og sc kd sr wo sa qb du)) hD hS hA [0, 1, 2, 3, 4, 5, 6, 7, 8, 9, 10] rfl
      refine va_calli (va_runV (As := [.int en]) (rest := []) ⟨hx, hb, hml, hown, ht⟩ (c_T_byteAt l dC dI k h g len fp many tlen tat qlen md gat kind gs th st rq bl te og wi ti sc kd sr sa qb du wo en _  ) (cwV 1 ht (g_V k_239 k_241 k_2 k_75 k_242) rfl rfl rfl (by decide +kernel) ⟨(Nat.le_of_ble_eq_true rfl), (Nat.le_of_ble_eq_true rfl)⟩) ⟨fb_X, va_recv hK hP (ci := 1) (q0 := 2) rfl rfl, pre_X hE hS hFc hP hK hD⟩ rfl rfl hl.1 rfl (lv_room (Nat.le_of_ble_eq_true rfl)) d_T_wordEnd_12 ⟨(Nat.le_of_ble_eq_true rfl), (Nat.le_of_ble_eq_true rfl)⟩) hS (fun q _ h9 => hFc q h9) hFc (fun r_3 u_2 t H locs het hvm hw hB hz1 hk1 hS => ?_)
      obtain ⟨p_4, p_5, p_6⟩ := hw
      obtain ⟨hP1, hK1, hD1⟩ := hB
      rw [het] at hP1
      have hP : va_P (dC, dI) cls (WE h g len fp many tlen tat qlen md gat kind (.ref (k wi)) (.ref (k ti)) gs th st rq bl te og sc kd sr wo sa qb du) H := hP1
      have hD : va_D A (WE h g len fp many tlen tat qlen md gat kind (.ref (k wi)) (.ref (k ti)) gs th st rq bl te og sc kd sr wo sa qb du) := hD1.weaken (fun _ _ _ h9 => hFc _ h9)
      refine vp_callSi (cr_of (va_runSN (As := [.int r_3]) (rest := []) ⟨hx, hb, hml, hown, ht⟩ (c_S_goesOnWord l k r_3 ) ⟨va_cnB 1 ht (g_C k_276) rfl rfl rfl (hE.1 _ n_274) (ht _ k_74) (by decide +kernel) ⟨(Nat.le_of_ble_eq_true rfl), (Nat.le_of_ble_eq_true rfl)⟩, (ht _ k_275), trivial⟩ ⟨fb_J, pre_J hE hS⟩ rfl rfl hl.1 rfl (lv_room (Nat.le_of_ble_eq_true rfl)) d_T_wordEnd_15 ⟨(Nat.le_of_ble_eq_true rfl), (Nat.le_of_ble_eq_true rfl)⟩)) (fun r_7 hw => ?_)
      obtain ⟨p_8, p_9⟩ := hw
      refine lv_if_eq (tgt := 27) hx hb d_T_wordEnd_18 (by decide) (fun c_10 => ?_) (fun c_10 => ?_)
      · have dc_10 := i_eq c_10 rfl (show Int32.toInt 0 = 0 by decide)
        refine lv_iload_n hx hb d_T_wordEnd_27 rfl (lv_at hl 0 rfl) ?_
        exact fin en () _ _ _ ls d_T_wordEnd_28 ⟨(by (try dsimp only); omega), (by (try dsimp only); omega)⟩ hP hD hS
      · have dc_10 := i_ne c_10 rfl (show Int32.toInt 0 = 0 by decide)
        refine lv_iinc (v := (en + 1)) (lv' := [(2, .int (en + 1)), (0, .ref (h 2))]) hx hb d_T_wordEnd_21 hl (k := 0) rfl rfl (by decide) rfl (fun ls hl => ?_)
        have e_11 : Int32.toInt (en + 1) = (Int32.toInt en) + 1 := i_add rfl (show Int32.toInt 1 = 1 by decide) (by omega) (by omega)
        refine lv_goto (tgt := 2) hx hb d_T_wordEnd_24 (by decide) ?_
        exact ih (en + 1) (by omega) (by omega) (by omega) _ _ ls hP hD hS (lv_sub hl [0, 1] rfl)
set_option maxHeartbeats 4000000 in
set_option maxRecDepth 100000 in
theorem bd_T_wordEnd_0 {p : Program} {l : Launch} {e : Env} {s : State} {m : MethodId} {args : Array Value} {below : List Frame} {meth : Method} {c : Code} {Q : State → Prop} {A : Nat → Prop} {dC : Nat → ClassId} {dI : Nat → Nat → Nat} {k h : Nat → Nat} {g : Nat → ClassId} {len : Int32} {fp : Int32} {many : Int32} {tlen : Int32} {tat : Int32} {qlen : Int32} {md : Int32} {gat : Int32} {kind : Int32} {gs : Int32} {th : Int32} {st : Int32} {rq : Int32} {bl : Int32} {te : Int32} {og : Int32} {wi : Nat} {ti : Nat} {sc : Nat → Int32} {kd : Nat → Int32} {sr : Nat → Int32} {sa : Nat → Int32} {qb : Nat → Int32} {du : Nat → Int32} {wo : Nat → Option Nat} (hx : p.tables.exec = Jvm.exec) (hb : c.code = b_T_wordEnd) (hml : c.maxLocals = 3) (hown : s.vm.findClass "SieveDesk$Tokens" = some m.cls) (ht : ∀ w ∈ TT, w.before args s = true) (hE : KE k A s s.heap) (hA : ∀ q : Nat, s.heap.size ≤ q → A q) (hK : va_K (dC, dI) cls (TE g) s) {fr : Int32} (h_0 : 0 ≤ Int32.toInt tlen) (h_1 : Int32.toInt tlen ≤ 400) (h_2 : 0 ≤ Int32.toInt fr) (h_3 : Int32.toInt fr ≤ 1000) (fin : ∀ (r : Int32) (u : Unit) (H : Heap) (locs : List Loc) (pc : Nat) (ls : Array Slot), decode b_T_wordEnd pc = .ok (.ireturn, 1) → (Int32.toInt fr ≤ Int32.toInt r ∧ (Int32.toInt r ≤ Int32.toInt fr ∨ Int32.toInt r ≤ Int32.toInt tlen)) → va_P (dC, dI) cls (WE h g len fp many tlen tat qlen md gat kind (.ref (k wi)) (.ref (k ti)) gs th st rq bl te og sc kd sr wo sa qb du) H → va_D A (WE h g len fp many tlen tat qlen md gat kind (.ref (k wi)) (.ref (k ti)) gs th st rq bl te og sc kd sr wo sa qb du) → va_S A s.heap H locs → W p l e ({ frames := 2, cells := 0, slots := 0, locals := 40 } : Room) s m args below meth c H locs 0 0 Q (F0 m pc ls [.int r])) : ∀ (H : Heap) (locs : List Loc) (ls : Array Slot), va_P (dC, dI) cls (WE h g len fp many tlen tat qlen md gat kind (.ref (k wi)) (.ref (k ti)) gs th st rq bl te og sc kd sr wo sa qb du) H → va_D A (WE h g len fp many tlen tat qlen md gat kind (.ref (k wi)) (.ref (k ti)) gs th st rq bl te og sc kd sr wo sa qb du) → va_S A s.heap H locs → lv_has ls 3 [(0, .ref (h 2)), (1, .int fr)] → W p l e ({ frames := 2, cells := 0, slots := 0, locals := 40 } : Room) s m args below meth c H locs 0 0 Q (F0 m 0 ls []) := by
  intro H locs ls hP hD hS hl
  refine lv_iload_n hx hb d_T_wordEnd_0 rfl (lv_at hl 1 rfl) ?_
  refine lv_istore_n (lv' := [(2, .int fr), (0, .ref (h 2)), (1, .int fr)]) hx hb d_T_wordEnd_1 rfl hl (by decide) rfl (fun ls hl => ?_)
  exact (lp_T_wordEnd_2 (fr := fr) hx hb hml hown ht hE hA hK h_0 h_1 h_2 h_3 fin _) fr (by omega) (by omega) (Nat.lt_succ_self _) _ _ ls hP hD hS (lv_sub hl [0, 1] rfl)
set_option maxHeartbeats 4000000 in
set_option maxRecDepth 100000 in
theorem c_T_wordEnd (l : Launch) (dC : Nat → ClassId) (dI : Nat → Nat → Nat) (k : Nat → Nat) (h : Nat → Nat) (g : Nat → ClassId) (len : Int32) (fp : Int32) (many : Int32) (tlen : Int32) (tat : Int32) (qlen : Int32) (md : Int32) (gat : Int32) (kind : Int32) (gs : Int32) (th : Int32) (st : Int32) (rq : Int32) (bl : Int32) (te : Int32) (og : Int32) (wi : Nat) (ti : Nat) (sc : Nat → Int32) (kd : Nat → Int32) (sr : Nat → Int32) (sa : Nat → Int32) (qb : Nat → Int32) (du : Nat → Int32) (wo : Nat → Option Nat) (fr : Int32) (sz : Nat) (h_0 : 0 ≤ Int32.toInt tlen) (h_1 : Int32.toInt tlen ≤ 400) (h_2 : 0 ≤ Int32.toInt fr) (h_3 : Int32.toInt fr ≤ 1000)  : Met l y_T_wordEnd (.code y_T_wordEnd b_T_wordEnd 3 (some .int) :: TT) ({ frames := 2, cells := 0, slots := 0, locals := 40 }) (va_Pc [.ref (h 2), .int fr] (PX dC dI k (TE g) (WE h g len fp many tlen tat qlen md gat kind (.ref (k wi)) (.ref (k ti)) gs th st rq bl te og sc kd sr wo sa qb du) sz)) (va_Qi (fun (r : Int32) (u : Unit) => Int32.toInt fr ≤ Int32.toInt r ∧ (Int32.toInt r ≤ Int32.toInt fr ∨ Int32.toInt r ≤ Int32.toInt tlen)) (fun u t => BX dC dI (TE g) (va_A (WE h g len fp many tlen tat qlen md gat kind (.ref (k wi)) (.ref (k ti)) gs th st rq bl te og sc kd sr wo sa qb du) sz) (WE h g len fp many tlen tat qlen md gat kind (.ref (k wi)) (.ref (k ti)) gs th st rq bl te og sc kd sr wo sa qb du) t) (va_A (WE h g len fp many tlen tat qlen md gat kind (.ref (k wi)) (.ref (k ti)) gs th st rq bl te og sc kd sr wo sa qb du) sz)) 0 0 (va_A (WE h g len fp many tlen tat qlen md gat kind (.ref (k wi)) (.ref (k ti)) gs th st rq bl te og sc kd sr wo sa qb du) sz) := by
  refine Met.ofW (cc := b_T_wordEnd) (maxL := 3) (ret := (some .int)) (by decide) rfl ?_
  intro p e s m args below meth c s₁ B hml hv
  obtain ⟨rfl, hsz, hE, hP, hK, hD0⟩ := hv
  have hx := B.exec
  have hb := B.bytes
  have hr := B.returns
  have ht : ∀ w ∈ TT, w.before _ s = true := fun w hw => atoms_spec (ws := .code y_T_wordEnd b_T_wordEnd 3 (some .int) :: TT) B.pre w (List.mem_cons_of_mem _ hw)
  have hown : s.vm.findClass "SieveDesk$Tokens" = some m.cls := findClass_of_methodNamed B.named
  have hlocks := B.notSynchronized
  subst hsz
  have hD := hD0.self (sz := s.heap.size)
  generalize hAe : va_A (WE h g len fp many tlen tat qlen md gat kind (.ref (k wi)) (.ref (k ti)) gs th st rq bl te og sc kd sr wo sa qb du) s.heap.size = A at hE hD ⊢
  have hA : ∀ q : Nat, s.heap.size ≤ q → A q := fun q h9 => by rw [← hAe]; exact Or.inr h9
  have hS : va_S A s.heap s.heap [] := va_S.rf
  have hl := lv_entry ([.ref (h 2), .int fr]) (n := 3) (Nat.le_of_ble_eq_true rfl)
  rw [lg_entry_eq]
  generalize (lg_sl ([.ref (h 2), .int fr]) ++ List.replicate (3 - (lg_sl ([.ref (h 2), .int fr])).length) Slot.unset).toArray = ls at hl ⊢
  have hl : lv_has ls 3 [(0, .ref (h 2)), (1, .int fr)] := hl
  exact bd_T_wordEnd_0 (fr := fr) hx hb hml hown ht hE hA hK h_0 h_1 h_2 h_3 (fun r u H locs pc ls hd hp hP hD hS => W.iret hx hb hr (fun t het hW => ⟨⟨r, u, rfl, hp, by rw [het]; exact hP, va_K.moved hW.alike hK, hD⟩, hS.F het⟩) hS.2.2 hd)   _ _ ls hP hD hS hl

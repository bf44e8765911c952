set_option maxHeartbeats 4000000 in
set_option maxRecDepth 100000 in
theorem c_T_skipGap (l : Launch) (dC : Nat → ClassId) (dI : Nat → Nat → Nat) (k : Nat → Nat) (h : Nat → Nat) (g : Nat → ClassId) (sz : Nat) : Met l y_T_skipGap (.code y_T_skipGap b_T_skipGap 4 none :: TT) ({ frames := 0, cells := 0, slots := 0, locals := 0 }) (va_Pc [.ref (h 2)] (PX dC dI k (TE g) (WE h g 0 (-1) 0 0 0 0 0 0 0 (.ref (k 0)) (.ref (k 0)) 0 0 0 0 0 0 0 (fun _ => 0) (fun _ => 0) (fun _ => 0) (fun _ => none) (fun _ => 0) (fun _ => 0) (fun _ => 0)) sz)) (va_Qv (fun _ : Unit => True) (fun _ t => BX dC dI (TE g) (va_A (WE h g 0 (-1) 0 0 0 0 0 0 0 (.ref (k 0)) (.ref (k 0)) 0 0 0 0 0 0 0 (fun _ => 0) (fun _ => 0) (fun _ => 0) (fun _ => none) (fun _ => 0) (fun _ => 0) (fun _ => 0)) sz) (WE h g 0 (-1) 0 0 0 0 0 0 0 (.ref (k 0)) (.ref (k 0)) 0 0 0 0 0 0 0 (fun _ => 0) (fun _ => 0) (fun _ => 0) (fun _ => none) (fun _ => 0) (fun _ => 0) (fun _ => 0)) t) (va_A (WE h g 0 (-1) 0 0 0 0 0 0 0 (.ref (k 0)) (.ref (k 0)) 0 0 0 0 0 0 0 (fun _ => 0) (fun _ => 0) (fun _ => 0) (fun _ => none) (fun _ => 0) (fun _ => 0) (fun _ => 0)) sz)) 0 0 (va_A (WE h g 0 (-1) 0 0 0 0 0 0 0 (.ref (k 0)) (.ref (k 0)) 0 0 0 0 0 0 0 (fun _ => 0) (fun _ => 0) (fun _ => 0) (fun _ => none) (fun _ => 0) (fun _ => 0) (fun _ => 0)) sz) := by
  refine Met.ofW (cc := b_T_skipGap) (maxL := 4) (ret := none) (by decide) rfl ?_
  intro p e s m args below meth c s₁ B hml hv
  obtain ⟨rfl, hsz, hE, hP, hK, hD0⟩ := hv
  have hx := B.exec
  have hb := B.bytes
  have hr := B.returns
  have ht : ∀ w ∈ TT, w.before _ s = true := fun w hw => atoms_spec (ws := .code y_T_skipGap b_T_skipGap 4 none :: TT) B.pre w (List.mem_cons_of_mem _ hw)
  have hown : s.vm.findClass "SieveDesk$Tokens" = some m.cls := findClass_of_methodNamed B.named
  have hlocks := B.notSynchronized
  subst hsz
  have hD := hD0.self (sz := s.heap.size)
  generalize hAe : va_A (WE h g 0 (-1) 0 0 0 0 0 0 0 (.ref (k 0)) (.ref (k 0)) 0 0 0 0 0 0 0 (fun _ => 0) (fun _ => 0) (fun _ => 0) (fun _ => none) (fun _ => 0) (fun _ => 0) (fun _ => 0)) s.heap.size = A at hE hD ⊢
  have hA : ∀ q : Nat, s.heap.size ≤ q → A q := fun q h9 => by rw [← hAe]; exact Or.inr h9
  have hS : va_S A s.heap s.heap [] := va_S.rf
  have hl := lv_entry ([.ref (h 2)]) (n := 4) (Nat.le_of_ble_eq_true rfl)
  rw [lg_entry_eq]
  generalize (lg_sl ([.ref (h 2)]) ++ List.replicate (4 - (lg_sl ([.ref (h 2)])).length) Slot.unset).toArray = ls at hl ⊢
  have hl : lv_has ls 4 [(0, .ref (h 2))] := hl
  refine lv_iconst (v := 0) hx hb d_T_skipGap_0 (by decide) ?_
  refine lv_istore_n (lv' := [(1, .int 0), (0, .ref (h 2))]) hx hb d_T_skipGap_1 rfl hl (by decide) rfl (fun ls hl => ?_)
  refine lv_iload_n hx hb d_T_skipGap_2 rfl (lv_at hl 0 rfl) ?_
  refine lv_sipush (v := 400) hx hb d_T_skipGap_3 (by decide) ?_
  refine lv_icmp_ge (tgt := 152) hx hb d_T_skipGap_6 (by decide) (fun cn => absurd cn (by decide)) (fun _ => ?_)
  refine lv_aload_n hx hb d_T_skipGap_9 rfl (lv_at hl 1 rfl) ?_
  refine va_get (D := (dC, dI)) (ci := 1) (v := .int 0) (C := "SieveDesk$Tokens") (T := F_T) (N := 9) hx hb ht i_T hown hK hP 2 rfl rfl 8 (by decide) (ht _ k_132) (fun _ h9 => h9) rfl d_T_skipGap_10 ?_
  refine lv_aload_n hx hb d_T_skipGap_13 rfl (lv_at hl 1 rfl) ?_
  refine va_get (D := (dC, dI)) (ci := 1) (v := .int 0) (C := "SieveDesk$Tokens") (T := F_T) (N := 9) hx hb ht i_T hown hK hP 2 rfl rfl 7 (by decide) (ht _ k_131) (fun _ h9 => h9) rfl d_T_skipGap_14 ?_
  refine lv_icmp_ge (tgt := 152) hx hb d_T_skipGap_17 (by decide) (fun _ => ?_) (fun cn => absurd (by decide) cn)
  exact W.vret hx hb hr (fun t het hW => ⟨⟨(), rfl, trivial, by rw [het]; exact hP, va_K.moved hW.alike hK, hD⟩, hS.F het⟩) hS.2.2 d_T_skipGap_152
set_option maxHeartbeats 4000000 in
set_option maxRecDepth 100000 in
theorem c_T_add (l : Launch) (dC : Nat → ClassId) (dI : Nat → Nat → Nat) (k : Nat → Nat) (h : Nat → Nat) (g : Nat → ClassId) (sz : Nat) : Met l y_T_add (.code y_T_add b_T_add 5 none :: TT) ({ frames := 0, cells := 0, slots := 0, locals := 0 }) (va_Pc [.ref (h 2), .int 5, .ref (k 0), .int 0, .int 0] (PX dC dI k (TE g) (WE h g 0 (-1) 0 0 0 0 0 0 0 (.ref (k 0)) (.ref (k 0)) 0 0 0 0 0 0 0 (fun _ => 0) (fun _ => 0) (fun _ => 0) (fun _ => none) (fun _ => 0) (fun _ => 0) (fun _ => 0)) sz)) (va_Qv (fun _ : Unit => True) (fun _ t => BX dC dI (TE g) (va_A (WE h g 0 (-1) 0 0 0 0 0 0 0 (.ref (k 0)) (.ref (k 0)) 0 0 0 0 0 0 0 (fun _ => 0) (fun _ => 0) (fun _ => 0) (fun _ => none) (fun _ => 0) (fun _ => 0) (fun _ => 0)) sz) (WE h g 0 (-1) 1 0 0 0 0 0 0 (.ref (k 0)) (.ref (k 0)) 0 0 0 0 0 0 0 (fun _ => 0) (upd (fun _ => 0) 0 5) (upd (fun _ => 0) 0 0) (va_up (fun _ => none) 0 (some (k 0))) (upd (fun _ => 0) 0 0) (fun _ => 0) (fun _ => 0)) t) (va_A (WE h g 0 (-1) 0 0 0 0 0 0 0 (.ref (k 0)) (.ref (k 0)) 0 0 0 0 0 0 0 (fun _ => 0) (fun _ => 0) (fun _ => 0) (fun _ => none) (fun _ => 0) (fun _ => 0) (fun _ => 0)) sz)) 0 0 (va_A (WE h g 0 (-1) 0 0 0 0 0 0 0 (.ref (k 0)) (.ref (k 0)) 0 0 0 0 0 0 0 (fun _ => 0) (fun _ => 0) (fun _ => 0) (fun _ => none) (fun _ => 0) (fun _ => 0) (fun _ => 0)) sz) := by
  refine Met.ofW (cc := b_T_add) (maxL := 5) (ret := none) (by decide) rfl ?_
  intro p e s m args below meth c s₁ B hml hv
  obtain ⟨rfl, hsz, hE, hP, hK, hD0⟩ := hv
  have hx := B.exec
  have hb := B.bytes
  have hr := B.returns
  have ht : ∀ w ∈ TT, w.before _ s = true := fun w hw => atoms_spec (ws := .code y_T_add b_T_add 5 none :: TT) B.pre w (List.mem_cons_of_mem _ hw)
  have hown : s.vm.findClass "SieveDesk$Tokens" = some m.cls := findClass_of_methodNamed B.named
  have hlocks := B.notSynchronized
  subst hsz
  have hD := hD0.self (sz := s.heap.size)
  generalize hAe : va_A (WE h g 0 (-1) 0 0 0 0 0 0 0 (.ref (k 0)) (.ref (k 0)) 0 0 0 0 0 0 0 (fun _ => 0) (fun _ => 0) (fun _ => 0) (fun _ => none) (fun _ => 0) (fun _ => 0) (fun _ => 0)) s.heap.size = A at hE hD ⊢
  have hA : ∀ q : Nat, s.heap.size ≤ q → A q := fun q h9 => by rw [← hAe]; exact Or.inr h9
  have hS : va_S A s.heap s.heap [] := va_S.rf
  have hl := lv_entry ([.ref (h 2), .int 5, .ref (k 0), .int 0, .int 0]) (n := 5) (Nat.le_of_ble_eq_true rfl)
  rw [lg_entry_eq]
  generalize (lg_sl ([.ref (h 2), .int 5, .ref (k 0), .int 0, .int 0]) ++ List.replicate (5 - (lg_sl ([.ref (h 2), .int 5, .ref (k 0), .int 0, .int 0])).length) Slot.unset).toArray = ls at hl ⊢
  have hl : lv_has ls 5 [(0, .ref (h 2)), (1, .int 5), (2, .ref (k 0)), (3, .int 0), (4, .int 0)] := hl
  refine lv_aload_n hx hb d_T_add_0 rfl (lv_at hl 0 rfl) ?_
  refine va_get (D := (dC, dI)) (ci := 1) (v := .int 0) (C := "SieveDesk$Tokens") (T := F_T) (N := 9) hx hb ht i_T hown hK hP 2 rfl rfl 6 (by decide) (ht _ k_129) (fun _ h9 => h9) rfl d_T_add_1 ?_
  refine lv_sipush (v := 401) hx hb d_T_add_4 (by decide) ?_
  refine lv_icmp_ge (tgt := 63) hx hb d_T_add_7 (by decide) (fun cn => absurd cn (by decide)) (fun _ => ?_)
  refine lv_aload_n hx hb d_T_add_10 rfl (lv_at hl 0 rfl) ?_
  refine va_get (D := (dC, dI)) (ci := 1) (v := .ref (h 3)) (C := "SieveDesk$Tokens") (T := F_T) (N := 9) hx hb ht i_T hown hK hP 2 rfl rfl 1 (by decide) (ht _ k_120) (fun _ h9 => h9) rfl d_T_add_11 ?_
  refine lv_aload_n hx hb d_T_add_14 rfl (lv_at hl 0 rfl) ?_
  refine va_get (D := (dC, dI)) (ci := 1) (v := .int 0) (C := "SieveDesk$Tokens") (T := F_T) (N := 9) hx hb ht i_T hown hK hP 2 rfl rfl 6 (by decide) (ht _ k_129) (fun _ h9 => h9) rfl d_T_add_15 ?_
  refine lv_iload_n hx hb d_T_add_18 rfl (lv_at hl 1 rfl) ?_
  refine va_iast hx hb hK hP hD hS 3 1 rfl rfl (by unfold vp_in; decide) d_T_add_19 (fun H locs hP hD hS => ?_)
  have hP : va_P (dC, dI) cls (WE h g 0 (-1) 0 0 0 0 0 0 0 (.ref (k 0)) (.ref (k 0)) 0 0 0 0 0 0 0 (fun _ => 0) (upd (fun _ => 0) 0 5) (fun _ => 0) (fun _ => none) (fun _ => 0) (fun _ => 0) (fun _ => 0)) H := hP
  have hD : va_D A (WE h g 0 (-1) 0 0 0 0 0 0 0 (.ref (k 0)) (.ref (k 0)) 0 0 0 0 0 0 0 (fun _ => 0) (upd (fun _ => 0) 0 5) (fun _ => 0) (fun _ => none) (fun _ => 0) (fun _ => 0) (fun _ => 0)) := hD
  refine lv_aload_n hx hb d_T_add_20 rfl (lv_at hl 0 rfl) ?_
  refine va_get (D := (dC, dI)) (ci := 1) (v := .ref (h 4)) (C := "SieveDesk$Tokens") (T := F_T) (N := 9) hx hb ht i_T hown hK hP 2 rfl rfl 2 (by decide) (ht _ k_122) (fun _ h9 => h9) rfl d_T_add_21 ?_
  refine lv_aload_n hx hb d_T_add_24 rfl (lv_at hl 0 rfl) ?_
  refine va_get (D := (dC, dI)) (ci := 1) (v := .int 0) (C := "SieveDesk$Tokens") (T := F_T) (N := 9) hx hb ht i_T hown hK hP 2 rfl rfl 6 (by decide) (ht _ k_129) (fun _ h9 => h9) rfl d_T_add_25 ?_
  refine lv_aload_n hx hb d_T_add_28 rfl (lv_at hl 0 rfl) ?_
  refine va_get (D := (dC, dI)) (ci := 1) (v := .int 0) (C := "SieveDesk$Tokens") (T := F_T) (N := 9) hx hb ht i_T hown hK hP 2 rfl rfl 8 (by decide) (ht _ k_132) (fun _ h9 => h9) rfl d_T_add_29 ?_
  refine va_iast hx hb hK hP hD hS 4 2 rfl rfl (by unfold vp_in; decide) d_T_add_32 (fun H locs hP hD hS => ?_)
  have hP : va_P (dC, dI) cls (WE h g 0 (-1) 0 0 0 0 0 0 0 (.ref (k 0)) (.ref (k 0)) 0 0 0 0 0 0 0 (fun _ => 0) (upd (fun _ => 0) 0 5) (upd (fun _ => 0) 0 0) (fun _ => none) (fun _ => 0) (fun _ => 0) (fun _ => 0)) H := hP
  have hD : va_D A (WE h g 0 (-1) 0 0 0 0 0 0 0 (.ref (k 0)) (.ref (k 0)) 0 0 0 0 0 0 0 (fun _ => 0) (upd (fun _ => 0) 0 5) (upd (fun _ => 0) 0 0) (fun _ => none) (fun _ => 0) (fun _ => 0) (fun _ => 0)) := hD
  refine lv_aload_n hx hb d_T_add_33 rfl (lv_at hl 0 rfl) ?_
  refine va_get (D := (dC, dI)) (ci := 1) (v := .ref (h 5)) (C := "SieveDesk$Tokens") (T := F_T) (N := 9) hx hb ht i_T hown hK hP 2 rfl rfl 3 (by decide) (ht _ k_124) (fun _ h9 => h9) rfl d_T_add_34 ?_
  refine lv_aload_n hx hb d_T_add_37 rfl (lv_at hl 0 rfl) ?_
  refine va_get (D := (dC, dI)) (ci := 1) (v := .int 0) (C := "SieveDesk$Tokens") (T := F_T) (N := 9) hx hb ht i_T hown hK hP 2 rfl rfl 6 (by decide) (ht _ k_129) (fun _ h9 => h9) rfl d_T_add_38 ?_
  refine lv_aload_n hx hb d_T_add_41 rfl (lv_at hl 2 rfl) ?_
  refine vb_astq (C := "SieveDesk$Word") hx hb hK hP hD hS 5 3 rfl rfl (oo_recv hE.2.2.2.2.2.1 hS) vb_asgS (by unfold vp_in; decide) d_T_add_42 (fun H locs hP hD hS => ?_)
  have hP : va_P (dC, dI) cls (WE h g 0 (-1) 0 0 0 0 0 0 0 (.ref (k 0)) (.ref (k 0)) 0 0 0 0 0 0 0 (fun _ => 0) (upd (fun _ => 0) 0 5) (upd (fun _ => 0) 0 0) (va_up (fun _ => none) 0 (some (k 0))) (fun _ => 0) (fun _ => 0) (fun _ => 0)) H := hP
  have hD : va_D A (WE h g 0 (-1) 0 0 0 0 0 0 0 (.ref (k 0)) (.ref (k 0)) 0 0 0 0 0 0 0 (fun _ => 0) (upd (fun _ => 0) 0 5) (upd (fun _ => 0) 0 0) (va_up (fun _ => none) 0 (some (k 0))) (fun _ => 0) (fun _ => 0) (fun _ => 0)) := hD
  refine lv_aload_n hx hb d_T_add_43 rfl (lv_at hl 0 rfl) ?_
  refine va_get (D := (dC, dI)) (ci := 1) (v := .ref (h 6)) (C := "SieveDesk$Tokens") (T := F_T) (N := 9) hx hb ht i_T hown hK hP 2 rfl rfl 4 (by decide) (ht _ k_126) (fun _ h9 => h9) rfl d_T_add_44 ?_
  refine lv_aload_n hx hb d_T_add_47 rfl (lv_at hl 0 rfl) ?_
  refine va_get (D := (dC, dI)) (ci := 1) (v := .int 0) (C := "SieveDesk$Tokens") (T := F_T) (N := 9) hx hb ht i_T hown hK hP 2 rfl rfl 6 (by decide) (ht _ k_129) (fun _ h9 => h9) rfl d_T_add_48 ?_
  refine lv_iload_n hx hb d_T_add_51 rfl (lv_at hl 3 rfl) ?_
  refine va_iast hx hb hK hP hD hS 6 4 rfl rfl (by unfold vp_in; decide) d_T_add_52 (fun H locs hP hD hS => ?_)
  have hP : va_P (dC, dI) cls (WE h g 0 (-1) 0 0 0 0 0 0 0 (.ref (k 0)) (.ref (k 0)) 0 0 0 0 0 0 0 (fun _ => 0) (upd (fun _ => 0) 0 5) (upd (fun _ => 0) 0 0) (va_up (fun _ => none) 0 (some (k 0))) (upd (fun _ => 0) 0 0) (fun _ => 0) (fun _ => 0)) H := hP
  have hD : va_D A (WE h g 0 (-1) 0 0 0 0 0 0 0 (.ref (k 0)) (.ref (k 0)) 0 0 0 0 0 0 0 (fun _ => 0) (upd (fun _ => 0) 0 5) (upd (fun _ => 0) 0 0) (va_up (fun _ => none) 0 (some (k 0))) (upd (fun _ => 0) 0 0) (fun _ => 0) (fun _ => 0)) := hD
  refine lv_aload_n hx hb d_T_add_53 rfl (lv_at hl 0 rfl) ?_
  refine lv_dup hx hb d_T_add_54 rfl ?_
  refine va_get (D := (dC, dI)) (ci := 1) (v := .int 0) (C := "SieveDesk$Tokens") (T := F_T) (N := 9) hx hb ht i_T hown hK hP 2 rfl rfl 6 (by decide) (ht _ k_129) (fun _ h9 => h9) rfl d_T_add_55 ?_
  refine lv_iconst (v := 1) hx hb d_T_add_58 (by decide) ?_
  refine lv_iadd hx hb d_T_add_59 ?_
  refine lv_ev (show (0 : Int32) + 1 = 1 by decide) ?_
  refine va_put (D := (dC, dI)) (ci := 1) (v := .int 1) (ty := .int) (C := "SieveDesk$Tokens") (T := F_T) (N := 9) hx hb ht i_T ty_T ty_T_ok n_T hown hK hP hD hS 2 rfl rfl 6 (by decide) (ht _ k_129) (fun _ h9 => h9) rfl (ty_T_ok 6 (by decide)) rfl rfl (Nat.le_of_ble_eq_true rfl) d_T_add_60 (fun H locs hP hD hS => ?_)
  have hP : va_P (dC, dI) cls (WE h g 0 (-1) 1 0 0 0 0 0 0 (.ref (k 0)) (.ref (k 0)) 0 0 0 0 0 0 0 (fun _ => 0) (upd (fun _ => 0) 0 5) (upd (fun _ => 0) 0 0) (va_up (fun _ => none) 0 (some (k 0))) (upd (fun _ => 0) 0 0) (fun _ => 0) (fun _ => 0)) H := hP
  have hD : va_D A (WE h g 0 (-1) 1 0 0 0 0 0 0 (.ref (k 0)) (.ref (k 0)) 0 0 0 0 0 0 0 (fun _ => 0) (upd (fun _ => 0) 0 5) (upd (fun _ => 0) 0 0) (va_up (fun _ => none) 0 (some (k 0))) (upd (fun _ => 0) 0 0) (fun _ => 0) (fun _ => 0)) := hD
  refine lv_aload_n hx hb d_T_add_63 rfl (lv_at hl 0 rfl) ?_
  refine lv_iload hx hb d_T_add_64 (lv_at hl 4 rfl) ?_
  refine va_put (D := (dC, dI)) (ci := 1) (v := .int 0) (ty := .int) (C := "SieveDesk$Tokens") (T := F_T) (N := 9) hx hb ht i_T ty_T ty_T_ok n_T hown hK hP hD hS 2 rfl rfl 8 (by decide) (ht _ k_132) (fun _ h9 => h9) rfl (ty_T_ok 8 (by decide)) rfl rfl (Nat.le_of_ble_eq_true rfl) d_T_add_66 (fun H locs hP hD hS => ?_)
  have hP : va_P (dC, dI) cls (WE h g 0 (-1) 1 0 0 0 0 0 0 (.ref (k 0)) (.ref (k 0)) 0 0 0 0 0 0 0 (fun _ => 0) (upd (fun _ => 0) 0 5) (upd (fun _ => 0) 0 0) (va_up (fun _ => none) 0 (some (k 0))) (upd (fun _ => 0) 0 0) (fun _ => 0) (fun _ => 0)) H := hP
  have hD : va_D A (WE h g 0 (-1) 1 0 0 0 0 0 0 (.ref (k 0)) (.ref (k 0)) 0 0 0 0 0 0 0 (fun _ => 0) (upd (fun _ => 0) 0 5) (upd (fun _ => 0) 0 0) (va_up (fun _ => none) 0 (some (k 0))) (upd (fun _ => 0) 0 0) (fun _ => 0) (fun _ => 0)) := hD
  exact W.vret hx hb hr (fun t het hW => ⟨⟨(), rfl, trivial, by rw [het]; exact hP, va_K.moved hW.alike hK, hD⟩, hS.F het⟩) hS.2.2 d_T_add_69
set_option maxHeartbeats 4000000 in
set_option maxRecDepth 100000 in
theorem c_T_scan (l : Launch) (dC : Nat → ClassId) (dI : Nat → Nat → Nat) (k : Nat → Nat) (h : Nat → Nat) (g : Nat → ClassId) (sz : Nat) : Met l y_T_scan (.code y_T_scan b_T_scan 3 none :: TT) ({ frames := 1, cells := 0, slots := 0, locals := 24 }) (va_Pc [.ref (h 2), .int 0] (PX dC dI k (TE g) (WE h g 0 (-1) 0 0 0 0 0 0 0 (.ref (k 0)) (.ref (k 0)) 0 0 0 0 0 0 0 (fun _ => 0) (fun _ => 0) (fun _ => 0) (fun _ => none) (fun _ => 0) (fun _ => 0) (fun _ => 0)) sz)) (va_Qv (fun _ : Unit => True) (fun _ t => BX dC dI (TE g) (va_A (WE h g 0 (-1) 0 0 0 0 0 0 0 (.ref (k 0)) (.ref (k 0)) 0 0 0 0 0 0 0 (fun _ => 0) (fun _ => 0) (fun _ => 0) (fun _ => none) (fun _ => 0) (fun _ => 0) (fun _ => 0)) sz) (WE h g 0 (-1) 1 0 0 0 0 0 0 (.ref (k 0)) (.ref (k 0)) 0 0 0 0 0 0 0 (fun _ => 0) (upd (fun _ => 0) 0 5) (upd (fun _ => 0) 0 0) (va_up (fun _ => none) 0 (some (k 0))) (upd (fun _ => 0) 0 0) (fun _ => 0) (fun _ => 0)) t) (va_A (WE h g 0 (-1) 0 0 0 0 0 0 0 (.ref (k 0)) (.ref (k 0)) 0 0 0 0 0 0 0 (fun _ => 0) (fun _ => 0) (fun _ => 0) (fun _ => none) (fun _ => 0) (fun _ => 0) (fun _ => 0)) sz)) 0 0 (va_A (WE h g 0 (-1) 0 0 0 0 0 0 0 (.ref (k 0)) (.ref (k 0)) 0 0 0 0 0 0 0 (fun _ => 0) (fun _ => 0) (fun _ => 0) (fun _ => none) (fun _ => 0) (fun _ => 0) (fun _ => 0)) sz) := by
  refine Met.ofW (cc := b_T_scan) (maxL := 3) (ret := none) (by decide) rfl ?_
  intro p e s m args below meth c s₁ B hml hv
  obtain ⟨rfl, hsz, hE, hP, hK, hD0⟩ := hv
  have hx := B.exec
  have hb := B.bytes
  have hr := B.returns
  have ht : ∀ w ∈ TT, w.before _ s = true := fun w hw => atoms_spec (ws := .code y_T_scan b_T_scan 3 none :: TT) B.pre w (List.mem_cons_of_mem _ hw)
  have hown : s.vm.findClass "SieveDesk$Tokens" = some m.cls := findClass_of_methodNamed B.named
  have hlocks := B.notSynchronized
  subst hsz
  have hD := hD0.self (sz := s.heap.size)
  generalize hAe : va_A (WE h g 0 (-1) 0 0 0 0 0 0 0 (.ref (k 0)) (.ref (k 0)) 0 0 0 0 0 0 0 (fun _ => 0) (fun _ => 0) (fun _ => 0) (fun _ => none) (fun _ => 0) (fun _ => 0) (fun _ => 0)) s.heap.size = A at hE hD ⊢
  have hA : ∀ q : Nat, s.heap.size ≤ q → A q := fun q h9 => by rw [← hAe]; exact Or.inr h9
  have hS : va_S A s.heap s.heap [] := va_S.rf
  have hl := lv_entry ([.ref (h 2), .int 0]) (n := 3) (Nat.le_of_ble_eq_true rfl)
  rw [lg_entry_eq]
  generalize (lg_sl ([.ref (h 2), .int 0]) ++ List.replicate (3 - (lg_sl ([.ref (h 2), .int 0])).length) Slot.unset).toArray = ls at hl ⊢
  have hl : lv_has ls 3 [(0, .ref (h 2)), (1, .int 0)] := hl
  refine lv_aload_n hx hb d_T_scan_0 rfl (lv_at hl 0 rfl) ?_
  refine lv_iconst (v := 0) hx hb d_T_scan_1 (by decide) ?_
  refine va_put (D := (dC, dI)) (ci := 1) (v := .int 0) (ty := .int) (C := "SieveDesk$Tokens") (T := F_T) (N := 9) hx hb ht i_T ty_T ty_T_ok n_T hown hK hP hD hS 2 rfl rfl 6 (by decide) (ht _ k_129) (fun _ h9 => h9) rfl (ty_T_ok 6 (by decide)) rfl rfl (Nat.le_of_ble_eq_true rfl) d_T_scan_2 (fun H locs hP hD hS => ?_)
  have hP : va_P (dC, dI) cls (WE h g 0 (-1) 0 0 0 0 0 0 0 (.ref (k 0)) (.ref (k 0)) 0 0 0 0 0 0 0 (fun _ => 0) (fun _ => 0) (fun _ => 0) (fun _ => none) (fun _ => 0) (fun _ => 0) (fun _ => 0)) H := hP
  have hD : va_D A (WE h g 0 (-1) 0 0 0 0 0 0 0 (.ref (k 0)) (.ref (k 0)) 0 0 0 0 0 0 0 (fun _ => 0) (fun _ => 0) (fun _ => 0) (fun _ => none) (fun _ => 0) (fun _ => 0) (fun _ => 0)) := hD
  refine lv_aload_n hx hb d_T_scan_5 rfl (lv_at hl 0 rfl) ?_
  refine lv_iload_n hx hb d_T_scan_6 rfl (lv_at hl 1 rfl) ?_
  refine va_put (D := (dC, dI)) (ci := 1) (v := .int 0) (ty := .int) (C := "SieveDesk$Tokens") (T := F_T) (N := 9) hx hb ht i_T ty_T ty_T_ok n_T hown hK hP hD hS 2 rfl rfl 7 (by decide) (ht _ k_131) (fun _ h9 => h9) rfl (ty_T_ok 7 (by decide)) rfl rfl (Nat.le_of_ble_eq_true rfl) d_T_scan_7 (fun H locs hP hD hS => ?_)
  have hP : va_P (dC, dI) cls (WE h g 0 (-1) 0 0 0 0 0 0 0 (.ref (k 0)) (.ref (k 0)) 0 0 0 0 0 0 0 (fun _ => 0) (fun _ => 0) (fun _ => 0) (fun _ => none) (fun _ => 0) (fun _ => 0) (fun _ => 0)) H := hP
  have hD : va_D A (WE h g 0 (-1) 0 0 0 0 0 0 0 (.ref (k 0)) (.ref (k 0)) 0 0 0 0 0 0 0 (fun _ => 0) (fun _ => 0) (fun _ => 0) (fun _ => none) (fun _ => 0) (fun _ => 0) (fun _ => 0)) := hD
  refine lv_aload_n hx hb d_T_scan_10 rfl (lv_at hl 0 rfl) ?_
  refine lv_iconst (v := 0) hx hb d_T_scan_11 (by decide) ?_
  refine va_put (D := (dC, dI)) (ci := 1) (v := .int 0) (ty := .int) (C := "SieveDesk$Tokens") (T := F_T) (N := 9) hx hb ht i_T ty_T ty_T_ok n_T hown hK hP hD hS 2 rfl rfl 8 (by decide) (ht _ k_132) (fun _ h9 => h9) rfl (ty_T_ok 8 (by decide)) rfl rfl (Nat.le_of_ble_eq_true rfl) d_T_scan_12 (fun H locs hP hD hS => ?_)
  have hP : va_P (dC, dI) cls (WE h g 0 (-1) 0 0 0 0 0 0 0 (.ref (k 0)) (.ref (k 0)) 0 0 0 0 0 0 0 (fun _ => 0) (fun _ => 0) (fun _ => 0) (fun _ => none) (fun _ => 0) (fun _ => 0) (fun _ => 0)) H := hP
  have hD : va_D A (WE h g 0 (-1) 0 0 0 0 0 0 0 (.ref (k 0)) (.ref (k 0)) 0 0 0 0 0 0 0 (fun _ => 0) (fun _ => 0) (fun _ => 0) (fun _ => none) (fun _ => 0) (fun _ => 0) (fun _ => 0)) := hD
  refine lv_iconst (v := 0) hx hb d_T_scan_15 (by decide) ?_
  refine lv_istore_n (lv' := [(2, .int 0), (0, .ref (h 2)), (1, .int 0)]) hx hb d_T_scan_16 rfl hl (by decide) rfl (fun ls hl => ?_)
  refine lv_iload_n hx hb d_T_scan_17 rfl (lv_at hl 0 rfl) ?_
  refine lv_sipush (v := 401) hx hb d_T_scan_18 (by decide) ?_
  refine lv_icmp_ge (tgt := 81) hx hb d_T_scan_21 (by decide) (fun cn => absurd cn (by decide)) (fun _ => ?_)
  refine lv_aload_n hx hb d_T_scan_24 rfl (lv_at hl 1 rfl) ?_
  have hFc := va_free (wc := (WE h g 0 (-1) 0 0 0 0 0 0 0 (.ref (k 0)) (.ref (k 0)) 0 0 0 0 0 0 0 (fun _ => 0) (fun _ => 0) (fun _ => 0) (fun _ => none) (fun _ => 0) (fun _ => 0) (fun _ => 0))) hD hS hA [0, 1, 2, 3, 4, 5, 6, 7, 8, 9, 10] rfl
  refine va_callv (va_runV (As := []) (rest := []) ⟨hx, hb, hml, hown, ht⟩ (c_T_skipGap l dC dI k h g _) (cwV 0 ht (g_V k_235 k_237 k_1 k_75 k_238) rfl rfl rfl (by decide +kernel) ⟨(Nat.le_of_ble_eq_true rfl), (Nat.le_of_ble_eq_true rfl)⟩) ⟨fb_X, va_recv hK hP (ci := 1) (q0 := 2) rfl rfl, pre_X hE hS hFc hP hK hD⟩ rfl rfl hl.1 rfl (lv_room (Nat.le_of_ble_eq_true rfl)) d_T_scan_25 ⟨(Nat.le_of_ble_eq_true rfl), (Nat.le_of_ble_eq_true rfl)⟩) hS (fun q _ h9 => hFc q h9) hFc (fun u t H locs het hvm hw hB hz1 hk1 hS => ?_)
  obtain ⟨hP1, hK1, hD1⟩ := hB
  rw [het] at hP1
  have hP : va_P (dC, dI) cls (WE h g 0 (-1) 0 0 0 0 0 0 0 (.ref (k 0)) (.ref (k 0)) 0 0 0 0 0 0 0 (fun _ => 0) (fun _ => 0) (fun _ => 0) (fun _ => none) (fun _ => 0) (fun _ => 0) (fun _ => 0)) H := hP1
  have hD : va_D A (WE h g 0 (-1) 0 0 0 0 0 0 0 (.ref (k 0)) (.ref (k 0)) 0 0 0 0 0 0 0 (fun _ => 0) (fun _ => 0) (fun _ => 0) (fun _ => none) (fun _ => 0) (fun _ => 0) (fun _ => 0)) := hD1.weaken (fun _ _ _ h9 => hFc _ h9)
  refine lv_aload_n hx hb d_T_scan_28 rfl (lv_at hl 1 rfl) ?_
  refine va_get (D := (dC, dI)) (ci := 1) (v := .int 0) (C := "SieveDesk$Tokens") (T := F_T) (N := 9) hx hb ht i_T hown hK hP 2 rfl rfl 8 (by decide) (ht _ k_132) (fun _ h9 => h9) rfl d_T_scan_29 ?_
  refine lv_aload_n hx hb d_T_scan_32 rfl (lv_at hl 1 rfl) ?_
  refine va_get (D := (dC, dI)) (ci := 1) (v := .int 0) (C := "SieveDesk$Tokens") (T := F_T) (N := 9) hx hb ht i_T hown hK hP 2 rfl rfl 7 (by decide) (ht _ k_131) (fun _ h9 => h9) rfl d_T_scan_33 ?_
  refine lv_icmp_lt (tgt := 53) hx hb d_T_scan_36 (by decide) (fun cn => absurd cn (by decide)) (fun _ => ?_)
  refine lv_aload_n hx hb d_T_scan_39 rfl (lv_at hl 1 rfl) ?_
  refine lv_iconst (v := 5) hx hb d_T_scan_40 (by decide) ?_
  refine va_gets hx hb hE.2.2.1 hS hown (ht _ k_251) (fun _ h9 => h9) d_T_scan_41 ?_
  refine lv_iconst (v := 0) hx hb d_T_scan_44 (by decide) ?_
  refine lv_aload_n hx hb d_T_scan_45 rfl (lv_at hl 1 rfl) ?_
  refine va_get (D := (dC, dI)) (ci := 1) (v := .int 0) (C := "SieveDesk$Tokens") (T := F_T) (N := 9) hx hb ht i_T hown hK hP 2 rfl rfl 8 (by decide) (ht _ k_132) (fun _ h9 => h9) rfl d_T_scan_46 ?_
  have hFc := va_free (wc := (WE h g 0 (-1) 0 0 0 0 0 0 0 (.ref (k 0)) (.ref (k 0)) 0 0 0 0 0 0 0 (fun _ => 0) (fun _ => 0) (fun _ => 0) (fun _ => none) (fun _ => 0) (fun _ => 0) (fun _ => 0))) hD hS hA [0, 1, 2, 3, 4, 5, 6, 7, 8, 9, 10] rfl
  refine va_callv (va_runV (As := [.int 5, .ref (k 0), .int 0, .int 0]) (rest := []) ⟨hx, hb, hml, hown, ht⟩ (c_T_add l dC dI k h g _) (cwV 4 ht (g_V k_252 k_254 k_5 k_75 k_255) rfl rfl rfl (by decide +kernel) ⟨(Nat.le_of_ble_eq_true rfl), (Nat.le_of_ble_eq_true rfl)⟩) ⟨fb_X, va_recv hK hP (ci := 1) (q0 := 2) rfl rfl, pre_X hE hS hFc hP hK hD⟩ rfl rfl hl.1 rfl (lv_room (Nat.le_of_ble_eq_true rfl)) d_T_scan_49 ⟨(Nat.le_of_ble_eq_true rfl), (Nat.le_of_ble_eq_true rfl)⟩) hS (fun q _ h9 => hFc q h9) hFc (fun u t H locs het hvm hw hB hz1 hk1 hS => ?_)
  obtain ⟨hP1, hK1, hD1⟩ := hB
  rw [het] at hP1
  have hP : va_P (dC, dI) cls (WE h g 0 (-1) 1 0 0 0 0 0 0 (.ref (k 0)) (.ref (k 0)) 0 0 0 0 0 0 0 (fun _ => 0) (upd (fun _ => 0) 0 5) (upd (fun _ => 0) 0 0) (va_up (fun _ => none) 0 (some (k 0))) (upd (fun _ => 0) 0 0) (fun _ => 0) (fun _ => 0)) H := hP1
  have hD : va_D A (WE h g 0 (-1) 1 0 0 0 0 0 0 (.ref (k 0)) (.ref (k 0)) 0 0 0 0 0 0 0 (fun _ => 0) (upd (fun _ => 0) 0 5) (upd (fun _ => 0) 0 0) (va_up (fun _ => none) 0 (some (k 0))) (upd (fun _ => 0) 0 0) (fun _ => 0) (fun _ => 0)) := hD1.weaken (fun _ _ _ h9 => hFc _ h9)
  exact W.vret hx hb hr (fun t het hW => ⟨⟨(), rfl, trivial, by rw [het]; exact hP, va_K.moved hW.alike hK, hD⟩, hS.F het⟩) hS.2.2 d_T_scan_52
set_option maxHeartbeats 4000000 in
set_option maxRecDepth 100000 in
theorem c_G_advance (l : Launch) (dC : Nat → ClassId) (dI : Nat → Nat → Nat) (k : Nat → Nat) (h : Nat → Nat) (g : Nat → ClassId) (sz : Nat) : Met l y_G_advance (.code y_G_advance b_G_advance 2 none :: TT) ({ frames := 0, cells := 0, slots := 0, locals := 0 }) (va_Pc [.ref (h 9)] (PX dC dI k (TE g) (WE h g 0 (-1) 1 0 0 0 0 (-1) 0 (.ref (k 0)) (.ref (k 0)) 0 0 0 0 0 0 0 (fun _ => 0) (upd (fun _ => 0) 0 5) (upd (fun _ => 0) 0 0) (va_up (fun _ => none) 0 (some (k 0))) (upd (fun _ => 0) 0 0) (fun _ => 0) (fun _ => 0)) sz)) (va_Qv (fun _ : Unit => True) (fun _ t => BX dC dI (TE g) (va_A (WE h g 0 (-1) 1 0 0 0 0 (-1) 0 (.ref (k 0)) (.ref (k 0)) 0 0 0 0 0 0 0 (fun _ => 0) (upd (fun _ => 0) 0 5) (upd (fun _ => 0) 0 0) (va_up (fun _ => none) 0 (some (k 0))) (upd (fun _ => 0) 0 0) (fun _ => 0) (fun _ => 0)) sz) (WE h g 0 (-1) 1 0 0 0 0 0 5 (.ref (k 0)) (.ref (k 0)) 0 0 0 0 0 0 0 (fun _ => 0) (upd (fun _ => 0) 0 5) (upd (fun _ => 0) 0 0) (va_up (fun _ => none) 0 (some (k 0))) (upd (fun _ => 0) 0 0) (fun _ => 0) (fun _ => 0)) t) (va_A (WE h g 0 (-1) 1 0 0 0 0 (-1) 0 (.ref (k 0)) (.ref (k 0)) 0 0 0 0 0 0 0 (fun _ => 0) (upd (fun _ => 0) 0 5) (upd (fun _ => 0) 0 0) (va_up (fun _ => none) 0 (some (k 0))) (upd (fun _ => 0) 0 0) (fun _ => 0) (fun _ => 0)) sz)) 0 0 (va_A (WE h g 0 (-1) 1 0 0 0 0 (-1) 0 (.ref (k 0)) (.ref (k 0)) 0 0 0 0 0 0 0 (fun _ => 0) (upd (fun _ => 0) 0 5) (upd (fun _ => 0) 0 0) (va_up (fun _ => none) 0 (some (k 0))) (upd (fun _ => 0) 0 0) (fun _ => 0) (fun _ => 0)) sz) := by
  refine Met.ofW (cc := b_G_advance) (maxL := 2) (ret := none) (by decide) rfl ?_
  intro p e s m args below meth c s₁ B hml hv
  obtain ⟨rfl, hsz, hE, hP, hK, hD0⟩ := hv
  have hx := B.exec
  have hb := B.bytes
  have hr := B.returns
  have ht : ∀ w ∈ TT, w.before _ s = true := fun w hw => atoms_spec (ws := .code y_G_advance b_G_advance 2 none :: TT) B.pre w (List.mem_cons_of_mem _ hw)
  have hown : s.vm.findClass "SieveDesk$Grammar" = some m.cls := findClass_of_methodNamed B.named
  have hlocks := B.notSynchronized
  subst hsz
  have hD := hD0.self (sz := s.heap.size)
  generalize hAe : va_A (WE h g 0 (-1) 1 0 0 0 0 (-1) 0 (.ref (k 0)) (.ref (k 0)) 0 0 0 0 0 0 0 (fun _ => 0) (upd (fun _ => 0) 0 5) (upd (fun _ => 0) 0 0) (va_up (fun _ => none) 0 (some (k 0))) (upd (fun _ => 0) 0 0) (fun _ => 0) (fun _ => 0)) s.heap.size = A at hE hD ⊢
  have hA : ∀ q : Nat, s.heap.size ≤ q → A q := fun q h9 => by rw [← hAe]; exact Or.inr h9
  have hS : va_S A s.heap s.heap [] := va_S.rf
  have hl := lv_entry ([.ref (h 9)]) (n := 2) (Nat.le_of_ble_eq_true rfl)
  rw [lg_entry_eq]
  generalize (lg_sl ([.ref (h 9)]) ++ List.replicate (2 - (lg_sl ([.ref (h 9)])).length) Slot.unset).toArray = ls at hl ⊢
  have hl : lv_has ls 2 [(0, .ref (h 9))] := hl
  refine lv_aload_n hx hb d_G_advance_0 rfl (lv_at hl 0 rfl) ?_
  refine va_get (D := (dC, dI)) (ci := 3) (v := .int (-1)) (C := "SieveDesk$Grammar") (T := F_G) (N := 14) hx hb ht i_G hown hK hP 9 rfl rfl 3 (by decide) (ht _ k_163) (fun _ h9 => h9) rfl d_G_advance_1 ?_
  refine lv_iconst (v := 1) hx hb d_G_advance_4 (by decide) ?_
  refine lv_iadd hx hb d_G_advance_5 ?_
  refine lv_ev (show ((-1) : Int32) + 1 = 0 by decide) ?_
  refine lv_aload_n hx hb d_G_advance_6 rfl (lv_at hl 0 rfl) ?_
  refine va_get (D := (dC, dI)) (ci := 3) (v := .ref (h 2)) (C := "SieveDesk$Grammar") (T := F_G) (N := 14) hx hb ht i_G hown hK hP 9 rfl rfl 0 (by decide) (ht _ k_160) (fun _ h9 => h9) rfl d_G_advance_7 ?_
  refine va_getN (D := (dC, dI)) (ci := 1) (v := .int 1) (C := "SieveDesk$Tokens") (T := F_T) (N := 9) hx hb ht i_T hown hK hP 2 rfl rfl 6 (by decide) (nw_use n_130 (hE.1 _ n_130)) (fun _ h9 => h9) rfl d_G_advance_10 ?_
  refine lv_icmp_ge (tgt := 28) hx hb d_G_advance_13 (by decide) (fun cn => absurd cn (by decide)) (fun _ => ?_)
  refine lv_aload_n hx hb d_G_advance_16 rfl (lv_at hl 0 rfl) ?_
  refine va_get (D := (dC, dI)) (ci := 3) (v := .int (-1)) (C := "SieveDesk$Grammar") (T := F_G) (N := 14) hx hb ht i_G hown hK hP 9 rfl rfl 3 (by decide) (ht _ k_163) (fun _ h9 => h9) rfl d_G_advance_17 ?_
  refine lv_iconst (v := 1) hx hb d_G_advance_20 (by decide) ?_
  refine lv_iadd hx hb d_G_advance_21 ?_
  refine lv_ev (show ((-1) : Int32) + 1 = 0 by decide) ?_
  refine lv_sipush (v := 401) hx hb d_G_advance_22 (by decide) ?_
  refine lv_icmp_lt (tgt := 29) hx hb d_G_advance_25 (by decide) (fun _ => ?_) (fun cn => absurd (by decide) cn)
  refine lv_aload_n hx hb d_G_advance_29 rfl (lv_at hl 0 rfl) ?_
  refine lv_dup hx hb d_G_advance_30 rfl ?_
  refine va_get (D := (dC, dI)) (ci := 3) (v := .int (-1)) (C := "SieveDesk$Grammar") (T := F_G) (N := 14) hx hb ht i_G hown hK hP 9 rfl rfl 3 (by decide) (ht _ k_163) (fun _ h9 => h9) rfl d_G_advance_31 ?_
  refine lv_iconst (v := 1) hx hb d_G_advance_34 (by decide) ?_
  refine lv_iadd hx hb d_G_advance_35 ?_
  refine lv_ev (show ((-1) : Int32) + 1 = 0 by decide) ?_
  refine va_put (D := (dC, dI)) (ci := 3) (v := .int 0) (ty := .int) (C := "SieveDesk$Grammar") (T := F_G) (N := 14) hx hb ht i_G ty_G ty_G_ok n_G hown hK hP hD hS 9 rfl rfl 3 (by decide) (ht _ k_163) (fun _ h9 => h9) rfl (ty_G_ok 3 (by decide)) rfl rfl (Nat.le_of_ble_eq_true rfl) d_G_advance_36 (fun H locs hP hD hS => ?_)
  have hP : va_P (dC, dI) cls (WE h g 0 (-1) 1 0 0 0 0 0 0 (.ref (k 0)) (.ref (k 0)) 0 0 0 0 0 0 0 (fun _ => 0) (upd (fun _ => 0) 0 5) (upd (fun _ => 0) 0 0) (va_up (fun _ => none) 0 (some (k 0))) (upd (fun _ => 0) 0 0) (fun _ => 0) (fun _ => 0)) H := hP
  have hD : va_D A (WE h g 0 (-1) 1 0 0 0 0 0 0 (.ref (k 0)) (.ref (k 0)) 0 0 0 0 0 0 0 (fun _ => 0) (upd (fun _ => 0) 0 5) (upd (fun _ => 0) 0 0) (va_up (fun _ => none) 0 (some (k 0))) (upd (fun _ => 0) 0 0) (fun _ => 0) (fun _ => 0)) := hD
  refine lv_aload_n hx hb d_G_advance_39 rfl (lv_at hl 0 rfl) ?_
  refine lv_aload_n hx hb d_G_advance_40 rfl (lv_at hl 0 rfl) ?_
  refine va_get (D := (dC, dI)) (ci := 3) (v := .ref (h 2)) (C := "SieveDesk$Grammar") (T := F_G) (N := 14) hx hb ht i_G hown hK hP 9 rfl rfl 0 (by decide) (ht _ k_160) (fun _ h9 => h9) rfl d_G_advance_41 ?_
  refine va_getN (D := (dC, dI)) (ci := 1) (v := .ref (h 3)) (C := "SieveDesk$Tokens") (T := F_T) (N := 9) hx hb ht i_T hown hK hP 2 rfl rfl 1 (by decide) (nw_use n_121 (hE.1 _ n_121)) (fun _ h9 => h9) rfl d_G_advance_44 ?_
  refine lv_aload_n hx hb d_G_advance_47 rfl (lv_at hl 0 rfl) ?_
  refine va_get (D := (dC, dI)) (ci := 3) (v := .int 0) (C := "SieveDesk$Grammar") (T := F_G) (N := 14) hx hb ht i_G hown hK hP 9 rfl rfl 3 (by decide) (ht _ k_163) (fun _ h9 => h9) rfl d_G_advance_48 ?_
  refine va_iald hx hb hK hP 3 1 rfl rfl (by unfold vp_in; decide) d_G_advance_51 ?_
  refine lv_ev (show (upd (fun _ => 0) 0 5) (Int32.toNatClampNeg 0) = 5 by decide) ?_
  refine va_put (D := (dC, dI)) (ci := 3) (v := .int 5) (ty := .int) (C := "SieveDesk$Grammar") (T := F_G) (N := 14) hx hb ht i_G ty_G ty_G_ok n_G hown hK hP hD hS 9 rfl rfl 4 (by decide) (ht _ k_164) (fun _ h9 => h9) rfl (ty_G_ok 4 (by decide)) rfl rfl (Nat.le_of_ble_eq_true rfl) d_G_advance_52 (fun H locs hP hD hS => ?_)
  have hP : va_P (dC, dI) cls (WE h g 0 (-1) 1 0 0 0 0 0 5 (.ref (k 0)) (.ref (k 0)) 0 0 0 0 0 0 0 (fun _ => 0) (upd (fun _ => 0) 0 5) (upd (fun _ => 0) 0 0) (va_up (fun _ => none) 0 (some (k 0))) (upd (fun _ => 0) 0 0) (fun _ => 0) (fun _ => 0)) H := hP
  have hD : va_D A (WE h g 0 (-1) 1 0 0 0 0 0 5 (.ref (k 0)) (.ref (k 0)) 0 0 0 0 0 0 0 (fun _ => 0) (upd (fun _ => 0) 0 5) (upd (fun _ => 0) 0 0) (va_up (fun _ => none) 0 (some (k 0))) (upd (fun _ => 0) 0 0) (fun _ => 0) (fun _ => 0)) := hD
  refine lv_aload_n hx hb d_G_advance_55 rfl (lv_at hl 0 rfl) ?_
  refine va_get (D := (dC, dI)) (ci := 3) (v := .ref (h 2)) (C := "SieveDesk$Grammar") (T := F_G) (N := 14) hx hb ht i_G hown hK hP 9 rfl rfl 0 (by decide) (ht _ k_160) (fun _ h9 => h9) rfl d_G_advance_56 ?_
  refine va_getN (D := (dC, dI)) (ci := 1) (v := .ref (h 5)) (C := "SieveDesk$Tokens") (T := F_T) (N := 9) hx hb ht i_T hown hK hP 2 rfl rfl 3 (by decide) (nw_use n_125 (hE.1 _ n_125)) (fun _ h9 => h9) rfl d_G_advance_59 ?_
  refine lv_aload_n hx hb d_G_advance_62 rfl (lv_at hl 0 rfl) ?_
  refine va_get (D := (dC, dI)) (ci := 3) (v := .int 0) (C := "SieveDesk$Grammar") (T := F_G) (N := 14) hx hb ht i_G hown hK hP 9 rfl rfl 3 (by decide) (ht _ k_163) (fun _ h9 => h9) rfl d_G_advance_63 ?_
  refine va_aldq hx hb hK hP 5 3 rfl rfl (by unfold vp_in; decide) d_G_advance_66 ?_
  refine lv_evv (show va_rf ((va_up (fun _ => none) 0 (some (k 0))) (Int32.toNatClampNeg 0)) = .ref (k 0) from rfl) ?_
  refine lv_astore_n (lv' := [(1, .ref (k 0)), (0, .ref (h 9))]) hx hb d_G_advance_67 rfl hl (by decide) rfl (fun ls hl => ?_)
  refine lv_aload_n hx hb d_G_advance_68 rfl (lv_at hl 1 rfl) ?_
  refine lv_aload_n hx hb d_G_advance_69 rfl (lv_at hl 1 rfl) ?_
  refine va_get (D := (dC, dI)) (ci := 3) (v := .int 5) (C := "SieveDesk$Grammar") (T := F_G) (N := 14) hx hb ht i_G hown hK hP 9 rfl rfl 4 (by decide) (ht _ k_164) (fun _ h9 => h9) rfl d_G_advance_70 ?_
  refine lv_iconst (v := 1) hx hb d_G_advance_73 (by decide) ?_
  refine lv_icmp_ne (tgt := 85) hx hb d_G_advance_74 (by decide) (fun _ => ?_) (fun cn => absurd cn (by decide))
  refine va_gets hx hb hE.2.2.1 hS hown (ht _ k_158) (fun _ h9 => h9) d_G_advance_85 ?_
  refine va_put (D := (dC, dI)) (ci := 3) (v := .ref (k 0)) (ty := .object "SieveDesk$Word") (C := "SieveDesk$Grammar") (T := F_G) (N := 14) hx hb ht i_G ty_G ty_G_ok n_G hown hK hP hD hS 9 rfl rfl 5 (by decide) (ht _ k_165) (fun _ h9 => h9) rfl (ty_G_ok 5 (by decide)) rfl rfl (Nat.le_of_ble_eq_true rfl) d_G_advance_88 (fun H locs hP hD hS => ?_)
  have hP : va_P (dC, dI) cls (WE h g 0 (-1) 1 0 0 0 0 0 5 (.ref (k 0)) (.ref (k 0)) 0 0 0 0 0 0 0 (fun _ => 0) (upd (fun _ => 0) 0 5) (upd (fun _ => 0) 0 0) (va_up (fun _ => none) 0 (some (k 0))) (upd (fun _ => 0) 0 0) (fun _ => 0) (fun _ => 0)) H := hP
  have hD : va_D A (WE h g 0 (-1) 1 0 0 0 0 0 5 (.ref (k 0)) (.ref (k 0)) 0 0 0 0 0 0 0 (fun _ => 0) (upd (fun _ => 0) 0 5) (upd (fun _ => 0) 0 0) (va_up (fun _ => none) 0 (some (k 0))) (upd (fun _ => 0) 0 0) (fun _ => 0) (fun _ => 0)) := hD
  refine lv_aload_n hx hb d_G_advance_91 rfl (lv_at hl 1 rfl) ?_
  refine lv_aload_n hx hb d_G_advance_92 rfl (lv_at hl 1 rfl) ?_
  refine va_get (D := (dC, dI)) (ci := 3) (v := .int 5) (C := "SieveDesk$Grammar") (T := F_G) (N := 14) hx hb ht i_G hown hK hP 9 rfl rfl 4 (by decide) (ht _ k_164) (fun _ h9 => h9) rfl d_G_advance_93 ?_
  refine lv_iconst (v := 2) hx hb d_G_advance_96 (by decide) ?_
  refine lv_icmp_ne (tgt := 108) hx hb d_G_advance_97 (by decide) (fun _ => ?_) (fun cn => absurd cn (by decide))
  refine va_gets hx hb hE.2.2.1 hS hown (ht _ k_158) (fun _ h9 => h9) d_G_advance_108 ?_
  refine va_put (D := (dC, dI)) (ci := 3) (v := .ref (k 0)) (ty := .object "SieveDesk$Word") (C := "SieveDesk$Grammar") (T := F_G) (N := 14) hx hb ht i_G ty_G ty_G_ok n_G hown hK hP hD hS 9 rfl rfl 6 (by decide) (ht _ k_166) (fun _ h9 => h9) rfl (ty_G_ok 6 (by decide)) rfl rfl (Nat.le_of_ble_eq_true rfl) d_G_advance_111 (fun H locs hP hD hS => ?_)
  have hP : va_P (dC, dI) cls (WE h g 0 (-1) 1 0 0 0 0 0 5 (.ref (k 0)) (.ref (k 0)) 0 0 0 0 0 0 0 (fun _ => 0) (upd (fun _ => 0) 0 5) (upd (fun _ => 0) 0 0) (va_up (fun _ => none) 0 (some (k 0))) (upd (fun _ => 0) 0 0) (fun _ => 0) (fun _ => 0)) H := hP
  have hD : va_D A (WE h g 0 (-1) 1 0 0 0 0 0 5 (.ref (k 0)) (.ref (k 0)) 0 0 0 0 0 0 0 (fun _ => 0) (upd (fun _ => 0) 0 5) (upd (fun _ => 0) 0 0) (va_up (fun _ => none) 0 (some (k 0))) (upd (fun _ => 0) 0 0) (fun _ => 0) (fun _ => 0)) := hD
  refine lv_aload_n hx hb d_G_advance_114 rfl (lv_at hl 1 rfl) ?_
  refine lv_aload_n hx hb d_G_advance_115 rfl (lv_at hl 1 rfl) ?_
  refine va_get (D := (dC, dI)) (ci := 3) (v := .ref (h 2)) (C := "SieveDesk$Grammar") (T := F_G) (N := 14) hx hb ht i_G hown hK hP 9 rfl rfl 0 (by decide) (ht _ k_160) (fun _ h9 => h9) rfl d_G_advance_116 ?_
  refine va_getN (D := (dC, dI)) (ci := 1) (v := .ref (h 6)) (C := "SieveDesk$Tokens") (T := F_T) (N := 9) hx hb ht i_T hown hK hP 2 rfl rfl 4 (by decide) (nw_use n_127 (hE.1 _ n_127)) (fun _ h9 => h9) rfl d_G_advance_119 ?_
  refine lv_aload_n hx hb d_G_advance_122 rfl (lv_at hl 1 rfl) ?_
  refine va_get (D := (dC, dI)) (ci := 3) (v := .int 0) (C := "SieveDesk$Grammar") (T := F_G) (N := 14) hx hb ht i_G hown hK hP 9 rfl rfl 3 (by decide) (ht _ k_163) (fun _ h9 => h9) rfl d_G_advance_123 ?_
  refine va_iald hx hb hK hP 6 4 rfl rfl (by unfold vp_in; decide) d_G_advance_126 ?_
  refine lv_ev (show (upd (fun _ => 0) 0 0) (Int32.toNatClampNeg 0) = 0 by decide) ?_
  refine va_put (D := (dC, dI)) (ci := 3) (v := .int 0) (ty := .int) (C := "SieveDesk$Grammar") (T := F_G) (N := 14) hx hb ht i_G ty_G ty_G_ok n_G hown hK hP hD hS 9 rfl rfl 7 (by decide) (ht _ k_167) (fun _ h9 => h9) rfl (ty_G_ok 7 (by decide)) rfl rfl (Nat.le_of_ble_eq_true rfl) d_G_advance_127 (fun H locs hP hD hS => ?_)
  have hP : va_P (dC, dI) cls (WE h g 0 (-1) 1 0 0 0 0 0 5 (.ref (k 0)) (.ref (k 0)) 0 0 0 0 0 0 0 (fun _ => 0) (upd (fun _ => 0) 0 5) (upd (fun _ => 0) 0 0) (va_up (fun _ => none) 0 (some (k 0))) (upd (fun _ => 0) 0 0) (fun _ => 0) (fun _ => 0)) H := hP
  have hD : va_D A (WE h g 0 (-1) 1 0 0 0 0 0 5 (.ref (k 0)) (.ref (k 0)) 0 0 0 0 0 0 0 (fun _ => 0) (upd (fun _ => 0) 0 5) (upd (fun _ => 0) 0 0) (va_up (fun _ => none) 0 (some (k 0))) (upd (fun _ => 0) 0 0) (fun _ => 0) (fun _ => 0)) := hD
  exact W.vret hx hb hr (fun t het hW => ⟨⟨(), rfl, trivial, by rw [het]; exact hP, va_K.moved hW.alike hK, hD⟩, hS.F het⟩) hS.2.2 d_G_advance_130
set_option maxHeartbeats 4000000 in
set_option maxRecDepth 100000 in
theorem c_G_expect (l : Launch) (dC : Nat → ClassId) (dI : Nat → Nat → Nat) (k : Nat → Nat) (h : Nat → Nat) (g : Nat → ClassId) (sz : Nat) : Met l y_G_expect (.code y_G_expect b_G_expect 3 none :: TT) ({ frames := 4, cells := 0, slots := 0, locals := 85 }) (va_Pc [.ref (h 9), .ref (k 2)] (PX dC dI k (TE g) (WE h g 0 (-1) 1 0 0 0 0 0 5 (.ref (k 0)) (.ref (k 0)) 0 0 0 0 0 0 0 (fun _ => 0) (upd (fun _ => 0) 0 5) (upd (fun _ => 0) 0 0) (va_up (fun _ => none) 0 (some (k 0))) (upd (fun _ => 0) 0 0) (fun _ => 0) (fun _ => 0)) sz)) (va_Qv (fun _ : Unit => True) (fun _ t => BX dC dI (TE g) (va_A (WE h g 0 (-1) 1 0 0 0 0 0 5 (.ref (k 0)) (.ref (k 0)) 0 0 0 0 0 0 0 (fun _ => 0) (upd (fun _ => 0) 0 5) (upd (fun _ => 0) 0 0) (va_up (fun _ => none) 0 (some (k 0))) (upd (fun _ => 0) 0 0) (fun _ => 0) (fun _ => 0)) sz) (WE h g 0 (-1) 1 0 0 0 3 0 5 (.ref (k 0)) (.ref (k 0)) 0 0 0 0 0 0 0 (fun _ => 0) (upd (fun _ => 0) 0 5) (upd (fun _ => 0) 0 0) (va_up (fun _ => none) 0 (some (k 0))) (upd (fun _ => 0) 0 0) (fun _ => 0) (upd (upd (upd (fun _ => 0) 0 (vp_nar .char 46)) 1 (vp_nar .char 99)) 2 (vp_nar .char 113))) t) (va_A (WE h g 0 (-1) 1 0 0 0 0 0 5 (.ref (k 0)) (.ref (k 0)) 0 0 0 0 0 0 0 (fun _ => 0) (upd (fun _ => 0) 0 5) (upd (fun _ => 0) 0 0) (va_up (fun _ => none) 0 (some (k 0))) (upd (fun _ => 0) 0 0) (fun _ => 0) (fun _ => 0)) sz)) 0 0 (va_A (WE h g 0 (-1) 1 0 0 0 0 0 5 (.ref (k 0)) (.ref (k 0)) 0 0 0 0 0 0 0 (fun _ => 0) (upd (fun _ => 0) 0 5) (upd (fun _ => 0) 0 0) (va_up (fun _ => none) 0 (some (k 0))) (upd (fun _ => 0) 0 0) (fun _ => 0) (fun _ => 0)) sz) := by
  refine Met.ofW (cc := b_G_expect) (maxL := 3) (ret := none) (by decide) rfl ?_
  intro p e s m args below meth c s₁ B hml hv
  obtain ⟨rfl, hsz, hE, hP, hK, hD0⟩ := hv
  have hx := B.exec
  have hb := B.bytes
  have hr := B.returns
  have ht : ∀ w ∈ TT, w.before _ s = true := fun w hw => atoms_spec (ws := .code y_G_expect b_G_expect 3 none :: TT) B.pre w (List.mem_cons_of_mem _ hw)
  have hown : s.vm.findClass "SieveDesk$Grammar" = some m.cls := findClass_of_methodNamed B.named
  have hlocks := B.notSynchronized
  subst hsz
  have hD := hD0.self (sz := s.heap.size)
  generalize hAe : va_A (WE h g 0 (-1) 1 0 0 0 0 0 5 (.ref (k 0)) (.ref (k 0)) 0 0 0 0 0 0 0 (fun _ => 0) (upd (fun _ => 0) 0 5) (upd (fun _ => 0) 0 0) (va_up (fun _ => none) 0 (some (k 0))) (upd (fun _ => 0) 0 0) (fun _ => 0) (fun _ => 0)) s.heap.size = A at hE hD ⊢
  have hA : ∀ q : Nat, s.heap.size ≤ q → A q := fun q h9 => by rw [← hAe]; exact Or.inr h9
  have hS : va_S A s.heap s.heap [] := va_S.rf
  have hl := lv_entry ([.ref (h 9), .ref (k 2)]) (n := 3) (Nat.le_of_ble_eq_true rfl)
  rw [lg_entry_eq]
  generalize (lg_sl ([.ref (h 9), .ref (k 2)]) ++ List.replicate (3 - (lg_sl ([.ref (h 9), .ref (k 2)])).length) Slot.unset).toArray = ls at hl ⊢
  have hl : lv_has ls 3 [(0, .ref (h 9)), (1, .ref (k 2))] := hl
  refine lv_aload_n hx hb d_G_expect_0 rfl (lv_at hl 1 rfl) ?_
  refine vp_callSi (W.runV (As := []) (rest := []) ⟨hx, hb, hml, hown, ht⟩ (c_JS_length l k) (cwV 0 ht (g_V k_475 k_285 k_286 k_81 k_287) rfl rfl rfl (by decide +kernel) ⟨(Nat.le_of_ble_eq_true rfl), (Nat.le_of_ble_eq_true rfl)⟩) ⟨fb_J, oo_recv (hE.2.2.2.2.2.2.2.2.1.1 0 (by decide)).1 hS, pre_J hE hS⟩ rfl rfl hl.1 rfl (lv_room (Nat.le_of_ble_eq_true rfl)) d_G_expect_1 ⟨(Nat.le_of_ble_eq_true rfl), (Nat.le_of_ble_eq_true rfl)⟩) (fun r_1 hw => ?_)
  subst hw
  refine lv_iconst (v := 1) hx hb d_G_expect_4 (by decide) ?_
  refine lv_isub hx hb d_G_expect_5 ?_
  refine lv_ev (show (3 : Int32) - 1 = 2 by decide) ?_
  refine lv_istore_n (lv' := [(2, .int 2), (0, .ref (h 9)), (1, .ref (k 2))]) hx hb d_G_expect_6 rfl hl (by decide) rfl (fun ls hl => ?_)
  refine lv_iload_n hx hb d_G_expect_7 rfl (lv_at hl 0 rfl) ?_
  refine lv_if_lt (tgt := 53) hx hb d_G_expect_8 (by decide) (fun cn => absurd cn (by decide)) (fun _ => ?_)
  refine lv_aload_n hx hb d_G_expect_11 rfl (lv_at hl 1 rfl) ?_
  refine va_get (D := (dC, dI)) (ci := 3) (v := .int 0) (C := "SieveDesk$Grammar") (T := F_G) (N := 14) hx hb ht i_G hown hK hP 9 rfl rfl 2 (by decide) (ht _ k_162) (fun _ h9 => h9) rfl d_G_expect_12 ?_
  refine lv_aload_n hx hb d_G_expect_15 rfl (lv_at hl 1 rfl) ?_
  refine va_get (D := (dC, dI)) (ci := 3) (v := .ref (h 10)) (C := "SieveDesk$Grammar") (T := F_G) (N := 14) hx hb ht i_G hown hK hP 9 rfl rfl 1 (by decide) (ht _ k_161) (fun _ h9 => h9) rfl d_G_expect_16 ?_
  refine va_alen (v := 200) hx hb hK hP 10 6 rfl rfl rfl d_G_expect_19 ?_
  refine lv_icmp_ge (tgt := 47) hx hb d_G_expect_20 (by decide) (fun cn => absurd cn (by decide)) (fun _ => ?_)
  refine lv_aload_n hx hb d_G_expect_23 rfl (lv_at hl 1 rfl) ?_
  refine va_get (D := (dC, dI)) (ci := 3) (v := .ref (h 10)) (C := "SieveDesk$Grammar") (T := F_G) (N := 14) hx hb ht i_G hown hK hP 9 rfl rfl 1 (by decide) (ht _ k_161) (fun _ h9 => h9) rfl d_G_expect_24 ?_
  refine lv_aload_n hx hb d_G_expect_27 rfl (lv_at hl 1 rfl) ?_
  refine va_get (D := (dC, dI)) (ci := 3) (v := .int 0) (C := "SieveDesk$Grammar") (T := F_G) (N := 14) hx hb ht i_G hown hK hP 9 rfl rfl 2 (by decide) (ht _ k_162) (fun _ h9 => h9) rfl d_G_expect_28 ?_
  refine lv_aload_n hx hb d_G_expect_31 rfl (lv_at hl 2 rfl) ?_
  refine lv_iload_n hx hb d_G_expect_32 rfl (lv_at hl 0 rfl) ?_
  refine vp_callSi (W.runV (As := [.int 2]) (rest := [.int 0, .ref (h 10)]) ⟨hx, hb, hml, hown, ht⟩ (c_JS_charAt_2 l k) (cwV 1 ht (g_V k_476 k_295 k_296 k_81 k_297) rfl rfl rfl (by decide +kernel) ⟨(Nat.le_of_ble_eq_true rfl), (Nat.le_of_ble_eq_true rfl)⟩) ⟨fb_J, oo_recv (hE.2.2.2.2.2.2.2.2.1.1 0 (by decide)).1 hS, pre_J hE hS⟩ rfl rfl hl.1 rfl (lv_room (Nat.le_of_ble_eq_true rfl)) d_G_expect_33 ⟨(Nat.le_of_ble_eq_true rfl), (Nat.le_of_ble_eq_true rfl)⟩) (fun r_2 hw => ?_)
  subst hw
  refine va_cast hx hb hK hP hD hS 10 6 rfl rfl (by unfold vp_in; decide) d_G_expect_36 (fun H locs hP hD hS => ?_)
  have hP : va_P (dC, dI) cls (WE h g 0 (-1) 1 0 0 0 0 0 5 (.ref (k 0)) (.ref (k 0)) 0 0 0 0 0 0 0 (fun _ => 0) (upd (fun _ => 0) 0 5) (upd (fun _ => 0) 0 0) (va_up (fun _ => none) 0 (some (k 0))) (upd (fun _ => 0) 0 0) (fun _ => 0) (upd (fun _ => 0) 0 (vp_nar .char 46))) H := hP
  have hD : va_D A (WE h g 0 (-1) 1 0 0 0 0 0 5 (.ref (k 0)) (.ref (k 0)) 0 0 0 0 0 0 0 (fun _ => 0) (upd (fun _ => 0) 0 5) (upd (fun _ => 0) 0 0) (va_up (fun _ => none) 0 (some (k 0))) (upd (fun _ => 0) 0 0) (fun _ => 0) (upd (fun _ => 0) 0 (vp_nar .char 46))) := hD
  refine lv_aload_n hx hb d_G_expect_37 rfl (lv_at hl 1 rfl) ?_
  refine lv_dup hx hb d_G_expect_38 rfl ?_
  refine va_get (D := (dC, dI)) (ci := 3) (v := .int 0) (C := "SieveDesk$Grammar") (T := F_G) (N := 14) hx hb ht i_G hown hK hP 9 rfl rfl 2 (by decide) (ht _ k_162) (fun _ h9 => h9) rfl d_G_expect_39 ?_
  refine lv_iconst (v := 1) hx hb d_G_expect_42 (by decide) ?_
  refine lv_iadd hx hb d_G_expect_43 ?_
  refine lv_ev (show (0 : Int32) + 1 = 1 by decide) ?_
  refine va_put (D := (dC, dI)) (ci := 3) (v := .int 1) (ty := .int) (C := "SieveDesk$Grammar") (T := F_G) (N := 14) hx hb ht i_G ty_G ty_G_ok n_G hown hK hP hD hS 9 rfl rfl 2 (by decide) (ht _ k_162) (fun _ h9 => h9) rfl (ty_G_ok 2 (by decide)) rfl rfl (Nat.le_of_ble_eq_true rfl) d_G_expect_44 (fun H locs hP hD hS => ?_)
  have hP : va_P (dC, dI) cls (WE h g 0 (-1) 1 0 0 0 1 0 5 (.ref (k 0)) (.ref (k 0)) 0 0 0 0 0 0 0 (fun _ => 0) (upd (fun _ => 0) 0 5) (upd (fun _ => 0) 0 0) (va_up (fun _ => none) 0 (some (k 0))) (upd (fun _ => 0) 0 0) (fun _ => 0) (upd (fun _ => 0) 0 (vp_nar .char 46))) H := hP
  have hD : va_D A (WE h g 0 (-1) 1 0 0 0 1 0 5 (.ref (k 0)) (.ref (k 0)) 0 0 0 0 0 0 0 (fun _ => 0) (upd (fun _ => 0) 0 5) (upd (fun _ => 0) 0 0) (va_up (fun _ => none) 0 (some (k 0))) (upd (fun _ => 0) 0 0) (fun _ => 0) (upd (fun _ => 0) 0 (vp_nar .char 46))) := hD
  refine lv_iinc (v := 1) (lv' := [(2, .int 1), (0, .ref (h 9)), (1, .ref (k 2))]) hx hb d_G_expect_47 hl (k := 0) rfl (by decide) (by decide) rfl (fun ls hl => ?_)
  refine lv_goto (tgt := 7) hx hb d_G_expect_50 (by decide) ?_
  refine lv_iload_n hx hb d_G_expect_7 rfl (lv_at hl 0 rfl) ?_
  refine lv_if_lt (tgt := 53) hx hb d_G_expect_8 (by decide) (fun cn => absurd cn (by decide)) (fun _ => ?_)
  refine lv_aload_n hx hb d_G_expect_11 rfl (lv_at hl 1 rfl) ?_
  refine va_get (D := (dC, dI)) (ci := 3) (v := .int 1) (C := "SieveDesk$Grammar") (T := F_G) (N := 14) hx hb ht i_G hown hK hP 9 rfl rfl 2 (by decide) (ht _ k_162) (fun _ h9 => h9) rfl d_G_expect_12 ?_
  refine lv_aload_n hx hb d_G_expect_15 rfl (lv_at hl 1 rfl) ?_
  refine va_get (D := (dC, dI)) (ci := 3) (v := .ref (h 10)) (C := "SieveDesk$Grammar") (T := F_G) (N := 14) hx hb ht i_G hown hK hP 9 rfl rfl 1 (by decide) (ht _ k_161) (fun _ h9 => h9) rfl d_G_expect_16 ?_
  refine va_alen (v := 200) hx hb hK hP 10 6 rfl rfl rfl d_G_expect_19 ?_
  refine lv_icmp_ge (tgt := 47) hx hb d_G_expect_20 (by decide) (fun cn => absurd cn (by decide)) (fun _ => ?_)
  refine lv_aload_n hx hb d_G_expect_23 rfl (lv_at hl 1 rfl) ?_
  refine va_get (D := (dC, dI)) (ci := 3) (v := .ref (h 10)) (C := "SieveDesk$Grammar") (T := F_G) (N := 14) hx hb ht i_G hown hK hP 9 rfl rfl 1 (by decide) (ht _ k_161) (fun _ h9 => h9) rfl d_G_expect_24 ?_
  refine lv_aload_n hx hb d_G_expect_27 rfl (lv_at hl 1 rfl) ?_
  refine va_get (D := (dC, dI)) (ci := 3) (v := .int 1) (C := "SieveDesk$Grammar") (T := F_G) (N := 14) hx hb ht i_G hown hK hP 9 rfl rfl 2 (by decide) (ht _ k_162) (fun _ h9 => h9) rfl d_G_expect_28 ?_
  refine lv_aload_n hx hb d_G_expect_31 rfl (lv_at hl 2 rfl) ?_
  refine lv_iload_n hx hb d_G_expect_32 rfl (lv_at hl 0 rfl) ?_
  refine vp_callSi (W.runV (As := [.int 1]) (rest := [.int 1, .ref (h 10)]) ⟨hx, hb, hml, hown, ht⟩ (c_JS_charAt_1 l k) (cwV 1 ht (g_V k_476 k_295 k_296 k_81 k_297) rfl rfl rfl (by decide +kernel) ⟨(Nat.le_of_ble_eq_true rfl), (Nat.le_of_ble_eq_true rfl)⟩) ⟨fb_J, oo_recv (hE.2.2.2.2.2.2.2.2.1.1 0 (by decide)).1 hS, pre_J hE hS⟩ rfl rfl hl.1 rfl (lv_room (Nat.le_of_ble_eq_true rfl)) d_G_expect_33 ⟨(Nat.le_of_ble_eq_true rfl), (Nat.le_of_ble_eq_true rfl)⟩) (fun r_3 hw => ?_)
  subst hw
  refine va_cast hx hb hK hP hD hS 10 6 rfl rfl (by unfold vp_in; decide) d_G_expect_36 (fun H locs hP hD hS => ?_)
  have hP : va_P (dC, dI) cls (WE h g 0 (-1) 1 0 0 0 1 0 5 (.ref (k 0)) (.ref (k 0)) 0 0 0 0 0 0 0 (fun _ => 0) (upd (fun _ => 0) 0 5) (upd (fun _ => 0) 0 0) (va_up (fun _ => none) 0 (some (k 0))) (upd (fun _ => 0) 0 0) (fun _ => 0) (upd (upd (fun _ => 0) 0 (vp_nar .char 46)) 1 (vp_nar .char 99))) H := hP
  have hD : va_D A (WE h g 0 (-1) 1 0 0 0 1 0 5 (.ref (k 0)) (.ref (k 0)) 0 0 0 0 0 0 0 (fun _ => 0) (upd (fun _ => 0) 0 5) (upd (fun _ => 0) 0 0) (va_up (fun _ => none) 0 (some (k 0))) (upd (fun _ => 0) 0 0) (fun _ => 0) (upd (upd (fun _ => 0) 0 (vp_nar .char 46)) 1 (vp_nar .char 99))) := hD
  refine lv_aload_n hx hb d_G_expect_37 rfl (lv_at hl 1 rfl) ?_
  refine lv_dup hx hb d_G_expect_38 rfl ?_
  refine va_get (D := (dC, dI)) (ci := 3) (v := .int 1) (C := "SieveDesk$Grammar") (T := F_G) (N := 14) hx hb ht i_G hown hK hP 9 rfl rfl 2 (by decide) (ht _ k_162) (fun _ h9 => h9) rfl d_G_expect_39 ?_
  refine lv_iconst (v := 1) hx hb d_G_expect_42 (by decide) ?_
  refine lv_iadd hx hb d_G_expect_43 ?_
  refine lv_ev (show (1 : Int32) + 1 = 2 by decide) ?_
  refine va_put (D := (dC, dI)) (ci := 3) (v := .int 2) (ty := .int) (C := "SieveDesk$Grammar") (T := F_G) (N := 14) hx hb ht i_G ty_G ty_G_ok n_G hown hK hP hD hS 9 rfl rfl 2 (by decide) (ht _ k_162) (fun _ h9 => h9) rfl (ty_G_ok 2 (by decide)) rfl rfl (Nat.le_of_ble_eq_true rfl) d_G_expect_44 (fun H locs hP hD hS => ?_)
  have hP : va_P (dC, dI) cls (WE h g 0 (-1) 1 0 0 0 2 0 5 (.ref (k 0)) (.ref (k 0)) 0 0 0 0 0 0 0 (fun _ => 0) (upd (fun _ => 0) 0 5) (upd (fun _ => 0) 0 0) (va_up (fun _ => none) 0 (some (k 0))) (upd (fun _ => 0) 0 0) (fun _ => 0) (upd (upd (fun _ => 0) 0 (vp_nar .char 46)) 1 (vp_nar .char 99))) H := hP
  have hD : va_D A (WE h g 0 (-1) 1 0 0 0 2 0 5 (.ref (k 0)) (.ref (k 0)) 0 0 0 0 0 0 0 (fun _ => 0) (upd (fun _ => 0) 0 5) (upd (fun _ => 0) 0 0) (va_up (fun _ => none) 0 (some (k 0))) (upd (fun _ => 0) 0 0) (fun _ => 0) (upd (upd (fun _ => 0) 0 (vp_nar .char 46)) 1 (vp_nar .char 99))) := hD
  refine lv_iinc (v := 0) (lv' := [(2, .int 0), (0, .ref (h 9)), (1, .ref (k 2))]) hx hb d_G_expect_47 hl (k := 0) rfl (by decide) (by decide) rfl (fun ls hl => ?_)
  refine lv_goto (tgt := 7) hx hb d_G_expect_50 (by decide) ?_
  refine lv_iload_n hx hb d_G_expect_7 rfl (lv_at hl 0 rfl) ?_
  refine lv_if_lt (tgt := 53) hx hb d_G_expect_8 (by decide) (fun cn => absurd cn (by decide)) (fun _ => ?_)
  refine lv_aload_n hx hb d_G_expect_11 rfl (lv_at hl 1 rfl) ?_
  refine va_get (D := (dC, dI)) (ci := 3) (v := .int 2) (C := "SieveDesk$Grammar") (T := F_G) (N := 14) hx hb ht i_G hown hK hP 9 rfl rfl 2 (by decide) (ht _ k_162) (fun _ h9 => h9) rfl d_G_expect_12 ?_
  refine lv_aload_n hx hb d_G_expect_15 rfl (lv_at hl 1 rfl) ?_
  refine va_get (D := (dC, dI)) (ci := 3) (v := .ref (h 10)) (C := "SieveDesk$Grammar") (T := F_G) (N := 14) hx hb ht i_G hown hK hP 9 rfl rfl 1 (by decide) (ht _ k_161) (fun _ h9 => h9) rfl d_G_expect_16 ?_
  refine va_alen (v := 200) hx hb hK hP 10 6 rfl rfl rfl d_G_expect_19 ?_
  refine lv_icmp_ge (tgt := 47) hx hb d_G_expect_20 (by decide) (fun cn => absurd cn (by decide)) (fun _ => ?_)
  refine lv_aload_n hx hb d_G_expect_23 rfl (lv_at hl 1 rfl) ?_
  refine va_get (D := (dC, dI)) (ci := 3) (v := .ref (h 10)) (C := "SieveDesk$Grammar") (T := F_G) (N := 14) hx hb ht i_G hown hK hP 9 rfl rfl 1 (by decide) (ht _ k_161) (fun _ h9 => h9) rfl d_G_expect_24 ?_
  refine lv_aload_n hx hb d_G_expect_27 rfl (lv_at hl 1 rfl) ?_
  refine va_get (D := (dC, dI)) (ci := 3) (v := .int 2) (C := "SieveDesk$Grammar") (T := F_G) (N := 14) hx hb ht i_G hown hK hP 9 rfl rfl 2 (by decide) (ht _ k_162) (fun _ h9 => h9) rfl d_G_expect_28 ?_
  refine lv_aload_n hx hb d_G_expect_31 rfl (lv_at hl 2 rfl) ?_
  refine lv_iload_n hx hb d_G_expect_32 rfl (lv_at hl 0 rfl) ?_
  refine vp_callSi (W.runV (As := [.int 0]) (rest := [.int 2, .ref (h 10)]) ⟨hx, hb, hml, hown, ht⟩ (c_JS_charAt_0 l k) (cwV 1 ht (g_V k_476 k_295 k_296 k_81 k_297) rfl rfl rfl (by decide +kernel) ⟨(Nat.le_of_ble_eq_true rfl), (Nat.le_of_ble_eq_true rfl)⟩) ⟨fb_J, oo_recv (hE.2.2.2.2.2.2.2.2.1.1 0 (by decide)).1 hS, pre_J hE hS⟩ rfl rfl hl.1 rfl (lv_room (Nat.le_of_ble_eq_true rfl)) d_G_expect_33 ⟨(Nat.le_of_ble_eq_true rfl), (Nat.le_of_ble_eq_true rfl)⟩) (fun r_4 hw => ?_)
  subst hw
  refine va_cast hx hb hK hP hD hS 10 6 rfl rfl (by unfold vp_in; decide) d_G_expect_36 (fun H locs hP hD hS => ?_)
  have hP : va_P (dC, dI) cls (WE h g 0 (-1) 1 0 0 0 2 0 5 (.ref (k 0)) (.ref (k 0)) 0 0 0 0 0 0 0 (fun _ => 0) (upd (fun _ => 0) 0 5) (upd (fun _ => 0) 0 0) (va_up (fun _ => none) 0 (some (k 0))) (upd (fun _ => 0) 0 0) (fun _ => 0) (upd (upd (upd (fun _ => 0) 0 (vp_nar .char 46)) 1 (vp_nar .char 99)) 2 (vp_nar .char 113))) H := hP
  have hD : va_D A (WE h g 0 (-1) 1 0 0 0 2 0 5 (.ref (k 0)) (.ref (k 0)) 0 0 0 0 0 0 0 (fun _ => 0) (upd (fun _ => 0) 0 5) (upd (fun _ => 0) 0 0) (va_up (fun _ => none) 0 (some (k 0))) (upd (fun _ => 0) 0 0) (fun _ => 0) (upd (upd (upd (fun _ => 0) 0 (vp_nar .char 46)) 1 (vp_nar .char 99)) 2 (vp_nar .char 113))) := hD
  refine lv_aload_n hx hb d_G_expect_37 rfl (lv_at hl 1 rfl) ?_
  refine lv_dup hx hb d_G_expect_38 rfl ?_
  refine va_get (D := (dC, dI)) (ci := 3) (v := .int 2) (C := "SieveDesk$Grammar") (T := F_G) (N := 14) hx hb ht i_G hown hK hP 9 rfl rfl 2 (by decide) (ht _ k_162) (fun _ h9 => h9) rfl d_G_expect_39 ?_
  refine lv_iconst (v := 1) hx hb d_G_expect_42 (by decide) ?_
  refine lv_iadd hx hb d_G_expect_43 ?_
  refine lv_ev (show (2 : Int32) + 1 = 3 by decide) ?_
  refine va_put (D := (dC, dI)) (ci := 3) (v := .int 3) (ty := .int) (C := "SieveDesk$Grammar") (T := F_G) (N := 14) hx hb ht i_G ty_G ty_G_ok n_G hown hK hP hD hS 9 rfl rfl 2 (by decide) (ht _ k_162) (fun _ h9 => h9) rfl (ty_G_ok 2 (by decide)) rfl rfl (Nat.le_of_ble_eq_true rfl) d_G_expect_44 (fun H locs hP hD hS => ?_)
  have hP : va_P (dC, dI) cls (WE h g 0 (-1) 1 0 0 0 3 0 5 (.ref (k 0)) (.ref (k 0)) 0 0 0 0 0 0 0 (fun _ => 0) (upd (fun _ => 0) 0 5) (upd (fun _ => 0) 0 0) (va_up (fun _ => none) 0 (some (k 0))) (upd (fun _ => 0) 0 0) (fun _ => 0) (upd (upd (upd (fun _ => 0) 0 (vp_nar .char 46)) 1 (vp_nar .char 99)) 2 (vp_nar .char 113))) H := hP
  have hD : va_D A (WE h g 0 (-1) 1 0 0 0 3 0 5 (.ref (k 0)) (.ref (k 0)) 0 0 0 0 0 0 0 (fun _ => 0) (upd (fun _ => 0) 0 5) (upd (fun _ => 0) 0 0) (va_up (fun _ => none) 0 (some (k 0))) (upd (fun _ => 0) 0 0) (fun _ => 0) (upd (upd (upd (fun _ => 0) 0 (vp_nar .char 46)) 1 (vp_nar .char 99)) 2 (vp_nar .char 113))) := hD
  refine lv_iinc (v := (-1)) (lv' := [(2, .int (-1)), (0, .ref (h 9)), (1, .ref (k 2))]) hx hb d_G_expect_47 hl (k := 0) rfl (by decide) (by decide) rfl (fun ls hl => ?_)
  refine lv_goto (tgt := 7) hx hb d_G_expect_50 (by decide) ?_
  refine lv_iload_n hx hb d_G_expect_7 rfl (lv_at hl 0 rfl) ?_
  refine lv_if_lt (tgt := 53) hx hb d_G_expect_8 (by decide) (fun _ => ?_) (fun cn => absurd (by decide) cn)
  exact W.vret hx hb hr (fun t het hW => ⟨⟨(), rfl, trivial, by rw [het]; exact hP, va_K.moved hW.alike hK, hD⟩, hS.F het⟩) hS.2.2 d_G_expect_53
set_option maxHeartbeats 4000000 in
set_option maxRecDepth 100000 in
theorem c_G_takeCommands (l : Launch) (dC : Nat → ClassId) (dI : Nat → Nat → Nat) (k : Nat → Nat) (h : Nat → Nat) (g : Nat → ClassId) (sz : Nat) : Met l y_G_takeCommands (.code y_G_takeCommands b_G_takeCommands 1 (some .boolean) :: TT) ({ frames := 0, cells := 0, slots := 0, locals := 0 }) (va_Pc [.ref (h 9)] (PX dC dI k (TE g) (WE h g 0 (-1) 1 0 0 0 1 0 5 (.ref (k 0)) (.ref (k 0)) 0 0 0 0 0 0 0 (fun _ => 0) (upd (fun _ => 0) 0 5) (upd (fun _ => 0) 0 0) (va_up (fun _ => none) 0 (some (k 0))) (upd (fun _ => 0) 0 0) (fun _ => 0) (upd (upd (upd (fun _ => 0) 0 (vp_nar .char 46)) 1 (vp_nar .char 99)) 2 (vp_nar .char 113))) sz)) (va_Qi (fun (r : Int32) (_ : Unit) => r = 1) (fun _ t => BX dC dI (TE g) (va_A (WE h g 0 (-1) 1 0 0 0 1 0 5 (.ref (k 0)) (.ref (k 0)) 0 0 0 0 0 0 0 (fun _ => 0) (upd (fun _ => 0) 0 5) (upd (fun _ => 0) 0 0) (va_up (fun _ => none) 0 (some (k 0))) (upd (fun _ => 0) 0 0) (fun _ => 0) (upd (upd (upd (fun _ => 0) 0 (vp_nar .char 46)) 1 (vp_nar .char 99)) 2 (vp_nar .char 113))) sz) (WE h g 0 (-1) 1 0 0 0 1 0 5 (.ref (k 0)) (.ref (k 0)) 0 0 0 0 0 0 0 (fun _ => 0) (upd (fun _ => 0) 0 5) (upd (fun _ => 0) 0 0) (va_up (fun _ => none) 0 (some (k 0))) (upd (fun _ => 0) 0 0) (fun _ => 0) (upd (upd (upd (fun _ => 0) 0 (vp_nar .char 46)) 1 (vp_nar .char 99)) 2 (vp_nar .char 113))) t) (va_A (WE h g 0 (-1) 1 0 0 0 1 0 5 (.ref (k 0)) (.ref (k 0)) 0 0 0 0 0 0 0 (fun _ => 0) (upd (fun _ => 0) 0 5) (upd (fun _ => 0) 0 0) (va_up (fun _ => none) 0 (some (k 0))) (upd (fun _ => 0) 0 0) (fun _ => 0) (upd (upd (upd (fun _ => 0) 0 (vp_nar .char 46)) 1 (vp_nar .char 99)) 2 (vp_nar .char 113))) sz)) 0 0 (va_A (WE h g 0 (-1) 1 0 0 0 1 0 5 (.ref (k 0)) (.ref (k 0)) 0 0 0 0 0 0 0 (fun _ => 0) (upd (fun _ => 0) 0 5) (upd (fun _ => 0) 0 0) (va_up (fun _ => none) 0 (some (k 0))) (upd (fun _ => 0) 0 0) (fun _ => 0) (upd (upd (upd (fun _ => 0) 0 (vp_nar .char 46)) 1 (vp_nar .char 99)) 2 (vp_nar .char 113))) sz) := by
  refine Met.ofW (cc := b_G_takeCommands) (maxL := 1) (ret := (some .boolean)) (by decide) rfl ?_
  intro p e s m args below meth c s₁ B hml hv
  obtain ⟨rfl, hsz, hE, hP, hK, hD0⟩ := hv
  have hx := B.exec
  have hb := B.bytes
  have hr := B.returns
  have ht : ∀ w ∈ TT, w.before _ s = true := fun w hw => atoms_spec (ws := .code y_G_takeCommands b_G_takeCommands 1 (some .boolean) :: TT) B.pre w (List.mem_cons_of_mem _ hw)
  have hown : s.vm.findClass "SieveDesk$Grammar" = some m.cls := findClass_of_methodNamed B.named
  have hlocks := B.notSynchronized
  subst hsz
  have hD := hD0.self (sz := s.heap.size)
  generalize hAe : va_A (WE h g 0 (-1) 1 0 0 0 1 0 5 (.ref (k 0)) (.ref (k 0)) 0 0 0 0 0 0 0 (fun _ => 0) (upd (fun _ => 0) 0 5) (upd (fun _ => 0) 0 0) (va_up (fun _ => none) 0 (some (k 0))) (upd (fun _ => 0) 0 0) (fun _ => 0) (upd (upd (upd (fun _ => 0) 0 (vp_nar .char 46)) 1 (vp_nar .char 99)) 2 (vp_nar .char 113))) s.heap.size = A at hE hD ⊢
  have hA : ∀ q : Nat, s.heap.size ≤ q → A q := fun q h9 => by rw [← hAe]; exact Or.inr h9
  have hS : va_S A s.heap s.heap [] := va_S.rf
  have hl := lv_entry ([.ref (h 9)]) (n := 1) (Nat.le_of_ble_eq_true rfl)
  rw [lg_entry_eq]
  generalize (lg_sl ([.ref (h 9)]) ++ List.replicate (1 - (lg_sl ([.ref (h 9)])).length) Slot.unset).toArray = ls at hl ⊢
  have hl : lv_has ls 1 [(0, .ref (h 9))] := hl
  refine lv_aload_n hx hb d_G_takeCommands_0 rfl (lv_at hl 0 rfl) ?_
  refine va_get (D := (dC, dI)) (ci := 3) (v := .ref (k 0)) (C := "SieveDesk$Grammar") (T := F_G) (N := 14) hx hb ht i_G hown hK hP 9 rfl rfl 5 (by decide) (ht _ k_165) (fun _ h9 => h9) rfl d_G_takeCommands_1 ?_
  refine vk_getfN hx hb hE.2.2.2.2.2.2.1 hS hown (nw_use n_873 (hE.1 _ n_873)) (fun _ h9 => h9) d_G_takeCommands_4 ?_
  refine lv_iconst (v := 1) hx hb d_G_takeCommands_7 (by decide) ?_
  refine lv_icmp_eq (tgt := 13) hx hb d_G_takeCommands_8 (by decide) (fun cn => absurd cn (by decide)) (fun _ => ?_)
  refine lv_iconst (v := 1) hx hb d_G_takeCommands_11 (by decide) ?_
  exact W.zret (v := 1) hx hb hr rfl (fun t het hW => ⟨⟨1, (), rfl, rfl, by rw [het]; exact hP, va_K.moved hW.alike hK, hD⟩, hS.F het⟩) hS.2.2 d_G_takeCommands_12
set_option maxHeartbeats 4000000 in
set_option maxRecDepth 100000 in
theorem c_G_take_113 (l : Launch) (dC : Nat → ClassId) (dI : Nat → Nat → Nat) (k : Nat → Nat) (h : Nat → Nat) (g : Nat → ClassId) (sz : Nat) : Met l y_G_take (.code y_G_take b_G_take 2 (some .boolean) :: TT) ({ frames := 0, cells := 0, slots := 0, locals := 0 }) (va_Pc [.ref (h 9), .int 113] (PX dC dI k (TE g) (WE h g 0 (-1) 1 0 0 0 2 0 5 (.ref (k 0)) (.ref (k 0)) 0 0 0 0 0 0 0 (fun _ => 0) (upd (fun _ => 0) 0 5) (upd (fun _ => 0) 0 0) (va_up (fun _ => none) 0 (some (k 0))) (upd (fun _ => 0) 0 0) (fun _ => 0) (upd (upd (upd (fun _ => 0) 0 (vp_nar .char 46)) 1 (vp_nar .char 99)) 2 (vp_nar .char 113))) sz)) (va_Qi (fun (r : Int32) (_ : Unit) => r = 1) (fun _ t => BX dC dI (TE g) (va_A (WE h g 0 (-1) 1 0 0 0 2 0 5 (.ref (k 0)) (.ref (k 0)) 0 0 0 0 0 0 0 (fun _ => 0) (upd (fun _ => 0) 0 5) (upd (fun _ => 0) 0 0) (va_up (fun _ => none) 0 (some (k 0))) (upd (fun _ => 0) 0 0) (fun _ => 0) (upd (upd (upd (fun _ => 0) 0 (vp_nar .char 46)) 1 (vp_nar .char 99)) 2 (vp_nar .char 113))) sz) (WE h g 0 (-1) 1 0 0 0 2 0 5 (.ref (k 0)) (.ref (k 0)) 0 0 0 0 0 0 0 (fun _ => 0) (upd (fun _ => 0) 0 5) (upd (fun _ => 0) 0 0) (va_up (fun _ => none) 0 (some (k 0))) (upd (fun _ => 0) 0 0) (fun _ => 0) (upd (upd (upd (fun _ => 0) 0 (vp_nar .char 46)) 1 (vp_nar .char 99)) 2 (vp_nar .char 113))) t) (va_A (WE h g 0 (-1) 1 0 0 0 2 0 5 (.ref (k 0)) (.ref (k 0)) 0 0 0 0 0 0 0 (fun _ => 0) (upd (fun _ => 0) 0 5) (upd (fun _ => 0) 0 0) (va_up (fun _ => none) 0 (some (k 0))) (upd (fun _ => 0) 0 0) (fun _ => 0) (upd (upd (upd (fun _ => 0) 0 (vp_nar .char 46)) 1 (vp_nar .char 99)) 2 (vp_nar .char 113))) sz)) 0 0 (va_A (WE h g 0 (-1) 1 0 0 0 2 0 5 (.ref (k 0)) (.ref (k 0)) 0 0 0 0 0 0 0 (fun _ => 0) (upd (fun _ => 0) 0 5) (upd (fun _ => 0) 0 0) (va_up (fun _ => none) 0 (some (k 0))) (upd (fun _ => 0) 0 0) (fun _ => 0) (upd (upd (upd (fun _ => 0) 0 (vp_nar .char 46)) 1 (vp_nar .char 99)) 2 (vp_nar .char 113))) sz) := by
  refine Met.ofW (cc := b_G_take) (maxL := 2) (ret := (some .boolean)) (by decide) rfl ?_
  intro p e s m args below meth c s₁ B hml hv
  obtain ⟨rfl, hsz, hE, hP, hK, hD0⟩ := hv
  have hx := B.exec
  have hb := B.bytes
  have hr := B.returns
  have ht : ∀ w ∈ TT, w.before _ s = true := fun w hw => atoms_spec (ws := .code y_G_take b_G_take 2 (some .boolean) :: TT) B.pre w (List.mem_cons_of_mem _ hw)
  have hown : s.vm.findClass "SieveDesk$Grammar" = some m.cls := findClass_of_methodNamed B.named
  have hlocks := B.notSynchronized
  subst hsz
  have hD := hD0.self (sz := s.heap.size)
  generalize hAe : va_A (WE h g 0 (-1) 1 0 0 0 2 0 5 (.ref (k 0)) (.ref (k 0)) 0 0 0 0 0 0 0 (fun _ => 0) (upd (fun _ => 0) 0 5) (upd (fun _ => 0) 0 0) (va_up (fun _ => none) 0 (some (k 0))) (upd (fun _ => 0) 0 0) (fun _ => 0) (upd (upd (upd (fun _ => 0) 0 (vp_nar .char 46)) 1 (vp_nar .char 99)) 2 (vp_nar .char 113))) s.heap.size = A at hE hD ⊢
  have hA : ∀ q : Nat, s.heap.size ≤ q → A q := fun q h9 => by rw [← hAe]; exact Or.inr h9
  have hS : va_S A s.heap s.heap [] := va_S.rf
  have hl := lv_entry ([.ref (h 9), .int 113]) (n := 2) (Nat.le_of_ble_eq_true rfl)
  rw [lg_entry_eq]
  generalize (lg_sl ([.ref (h 9), .int 113]) ++ List.replicate (2 - (lg_sl ([.ref (h 9), .int 113])).length) Slot.unset).toArray = ls at hl ⊢
  have hl : lv_has ls 2 [(0, .ref (h 9)), (1, .int 113)] := hl
  refine lv_iload_n hx hb d_G_take_0 rfl (lv_at hl 1 rfl) ?_
  refine lv_tableIn (off := 307) (tgt := 308) hx hb d_G_take_1 (by decide) (by decide) (by decide) (by decide) ?_
  refine lv_aload_n hx hb d_G_take_308 rfl (lv_at hl 0 rfl) ?_
  refine va_get (D := (dC, dI)) (ci := 3) (v := .ref (k 0)) (C := "SieveDesk$Grammar") (T := F_G) (N := 14) hx hb ht i_G hown hK hP 9 rfl rfl 5 (by decide) (ht _ k_165) (fun _ h9 => h9) rfl d_G_take_309 ?_
  refine va_gets hx hb hE.2.2.2.1 hS hown (ht _ k_481) (fun _ h9 => h9) d_G_take_312 ?_
  refine lv_acmp_ne (rx := (some (k 0))) (ry := (some (k 1))) (tgt := 329) hx hb d_G_take_315 (by decide) (fun _ => ?_) (fun cn => absurd cn (fun e9 => hE.2.2.2.2.1 (Option.some.inj e9)))
  refine lv_iconst (v := 1) hx hb d_G_take_329 (by decide) ?_
  refine lv_goto (tgt := 334) hx hb d_G_take_330 (by decide) ?_
  exact W.zret (v := 1) hx hb hr rfl (fun t het hW => ⟨⟨1, (), rfl, rfl, by rw [het]; exact hP, va_K.moved hW.alike hK, hD⟩, hS.F het⟩) hS.2.2 d_G_take_334
set_option maxHeartbeats 4000000 in
set_option maxRecDepth 100000 in
theorem c_G_take_99 (l : Launch) (dC : Nat → ClassId) (dI : Nat → Nat → Nat) (k : Nat → Nat) (h : Nat → Nat) (g : Nat → ClassId) (sz : Nat) : Met l y_G_take (.code y_G_take b_G_take 2 (some .boolean) :: TT) ({ frames := 1, cells := 0, slots := 0, locals := 20 }) (va_Pc [.ref (h 9), .int 99] (PX dC dI k (TE g) (WE h g 0 (-1) 1 0 0 0 1 0 5 (.ref (k 0)) (.ref (k 0)) 0 0 0 0 0 0 0 (fun _ => 0) (upd (fun _ => 0) 0 5) (upd (fun _ => 0) 0 0) (va_up (fun _ => none) 0 (some (k 0))) (upd (fun _ => 0) 0 0) (fun _ => 0) (upd (upd (upd (fun _ => 0) 0 (vp_nar .char 46)) 1 (vp_nar .char 99)) 2 (vp_nar .char 113))) sz)) (va_Qi (fun (r : Int32) (_ : Unit) => r = 1) (fun _ t => BX dC dI (TE g) (va_A (WE h g 0 (-1) 1 0 0 0 1 0 5 (.ref (k 0)) (.ref (k 0)) 0 0 0 0 0 0 0 (fun _ => 0) (upd (fun _ => 0) 0 5) (upd (fun _ => 0) 0 0) (va_up (fun _ => none) 0 (some (k 0))) (upd (fun _ => 0) 0 0) (fun _ => 0) (upd (upd (upd (fun _ => 0) 0 (vp_nar .char 46)) 1 (vp_nar .char 99)) 2 (vp_nar .char 113))) sz) (WE h g 0 (-1) 1 0 0 0 1 0 5 (.ref (k 0)) (.ref (k 0)) 0 0 0 0 0 0 0 (fun _ => 0) (upd (fun _ => 0) 0 5) (upd (fun _ => 0) 0 0) (va_up (fun _ => none) 0 (some (k 0))) (upd (fun _ => 0) 0 0) (fun _ => 0) (upd (upd (upd (fun _ => 0) 0 (vp_nar .char 46)) 1 (vp_nar .char 99)) 2 (vp_nar .char 113))) t) (va_A (WE h g 0 (-1) 1 0 0 0 1 0 5 (.ref (k 0)) (.ref (k 0)) 0 0 0 0 0 0 0 (fun _ => 0) (upd (fun _ => 0) 0 5) (upd (fun _ => 0) 0 0) (va_up (fun _ => none) 0 (some (k 0))) (upd (fun _ => 0) 0 0) (fun _ => 0) (upd (upd (upd (fun _ => 0) 0 (vp_nar .char 46)) 1 (vp_nar .char 99)) 2 (vp_nar .char 113))) sz)) 0 0 (va_A (WE h g 0 (-1) 1 0 0 0 1 0 5 (.ref (k 0)) (.ref (k 0)) 0 0 0 0 0 0 0 (fun _ => 0) (upd (fun _ => 0) 0 5) (upd (fun _ => 0) 0 0) (va_up (fun _ => none) 0 (some (k 0))) (upd (fun _ => 0) 0 0) (fun _ => 0) (upd (upd (upd (fun _ => 0) 0 (vp_nar .char 46)) 1 (vp_nar .char 99)) 2 (vp_nar .char 113))) sz) := by
  refine Met.ofW (cc := b_G_take) (maxL := 2) (ret := (some .boolean)) (by decide) rfl ?_
  intro p e s m args below meth c s₁ B hml hv
  obtain ⟨rfl, hsz, hE, hP, hK, hD0⟩ := hv
  have hx := B.exec
  have hb := B.bytes
  have hr := B.returns
  have ht : ∀ w ∈ TT, w.before _ s = true := fun w hw => atoms_spec (ws := .code y_G_take b_G_take 2 (some .boolean) :: TT) B.pre w (List.mem_cons_of_mem _ hw)
  have hown : s.vm.findClass "SieveDesk$Grammar" = some m.cls := findClass_of_methodNamed B.named
  have hlocks := B.notSynchronized
  subst hsz
  have hD := hD0.self (sz := s.heap.size)
  generalize hAe : va_A (WE h g 0 (-1) 1 0 0 0 1 0 5 (.ref (k 0)) (.ref (k 0)) 0 0 0 0 0 0 0 (fun _ => 0) (upd (fun _ => 0) 0 5) (upd (fun _ => 0) 0 0) (va_up (fun _ => none) 0 (some (k 0))) (upd (fun _ => 0) 0 0) (fun _ => 0) (upd (upd (upd (fun _ => 0) 0 (vp_nar .char 46)) 1 (vp_nar .char 99)) 2 (vp_nar .char 113))) s.heap.size = A at hE hD ⊢
  have hA : ∀ q : Nat, s.heap.size ≤ q → A q := fun q h9 => by rw [← hAe]; exact Or.inr h9
  have hS : va_S A s.heap s.heap [] := va_S.rf
  have hl := lv_entry ([.ref (h 9), .int 99]) (n := 2) (Nat.le_of_ble_eq_true rfl)
  rw [lg_entry_eq]
  generalize (lg_sl ([.ref (h 9), .int 99]) ++ List.replicate (2 - (lg_sl ([.ref (h 9), .int 99])).length) Slot.unset).toArray = ls at hl ⊢
  have hl : lv_has ls 2 [(0, .ref (h 9)), (1, .int 99)] := hl
  refine lv_iload_n hx hb d_G_take_0 rfl (lv_at hl 1 rfl) ?_
  refine lv_tableIn (off := 334) (tgt := 335) hx hb d_G_take_1 (by decide) (by decide) (by decide) (by decide) ?_
  refine lv_aload_n hx hb d_G_take_335 rfl (lv_at hl 0 rfl) ?_
  have hFc := va_free (wc := (WE h g 0 (-1) 1 0 0 0 1 0 5 (.ref (k 0)) (.ref (k 0)) 0 0 0 0 0 0 0 (fun _ => 0) (upd (fun _ => 0) 0 5) (upd (fun _ => 0) 0 0) (va_up (fun _ => none) 0 (some (k 0))) (upd (fun _ => 0) 0 0) (fun _ => 0) (upd (upd (upd (fun _ => 0) 0 (vp_nar .char 46)) 1 (vp_nar .char 99)) 2 (vp_nar .char 113)))) hD hS hA [0, 1, 2, 3, 4, 5, 6, 7, 8, 9, 10] rfl
  refine va_calli (va_runV (As := []) (rest := []) ⟨hx, hb, hml, hown, ht⟩ (c_G_takeCommands l dC dI k h g _) (cwV 0 ht (g_V k_487 k_489 k_25 k_77 k_490) rfl rfl rfl (by decide +kernel) ⟨(Nat.le_of_ble_eq_true rfl), (Nat.le_of_ble_eq_true rfl)⟩) ⟨fb_X, va_recv hK hP (ci := 3) (q0 := 9) rfl rfl, pre_X hE hS hFc hP hK hD⟩ rfl rfl hl.1 rfl (lv_room (Nat.le_of_ble_eq_true rfl)) d_G_take_336 ⟨(Nat.le_of_ble_eq_true rfl), (Nat.le_of_ble_eq_true rfl)⟩) hS (fun q _ h9 => hFc q h9) hFc (fun r_1 u t H locs het hvm hw hB hz1 hk1 hS => ?_)
  obtain ⟨hP1, hK1, hD1⟩ := hB
  rw [het] at hP1
  have hP : va_P (dC, dI) cls (WE h g 0 (-1) 1 0 0 0 1 0 5 (.ref (k 0)) (.ref (k 0)) 0 0 0 0 0 0 0 (fun _ => 0) (upd (fun _ => 0) 0 5) (upd (fun _ => 0) 0 0) (va_up (fun _ => none) 0 (some (k 0))) (upd (fun _ => 0) 0 0) (fun _ => 0) (upd (upd (upd (fun _ => 0) 0 (vp_nar .char 46)) 1 (vp_nar .char 99)) 2 (vp_nar .char 113))) H := hP1
  have hD : va_D A (WE h g 0 (-1) 1 0 0 0 1 0 5 (.ref (k 0)) (.ref (k 0)) 0 0 0 0 0 0 0 (fun _ => 0) (upd (fun _ => 0) 0 5) (upd (fun _ => 0) 0 0) (va_up (fun _ => none) 0 (some (k 0))) (upd (fun _ => 0) 0 0) (fun _ => 0) (upd (upd (upd (fun _ => 0) 0 (vp_nar .char 46)) 1 (vp_nar .char 99)) 2 (vp_nar .char 113))) := hD1.weaken (fun _ _ _ h9 => hFc _ h9)
  subst hw
  exact W.zret (v := 1) hx hb hr rfl (fun t het hW => ⟨⟨1, (), rfl, rfl, by rw [het]; exact hP, va_K.moved hW.alike hK, hD⟩, hS.F het⟩) hS.2.2 d_G_take_339
set_option maxHeartbeats 4000000 in
set_option maxRecDepth 100000 in
theorem c_G_take_46 (l : Launch) (dC : Nat → ClassId) (dI : Nat → Nat → Nat) (k : Nat → Nat) (h : Nat → Nat) (g : Nat → ClassId) (sz : Nat) : Met l y_G_take (.code y_G_take b_G_take 2 (some .boolean) :: TT) ({ frames := 0, cells := 0, slots := 0, locals := 0 }) (va_Pc [.ref (h 9), .int 46] (PX dC dI k (TE g) (WE h g 0 (-1) 1 0 0 0 0 0 5 (.ref (k 0)) (.ref (k 0)) 0 0 0 0 0 0 0 (fun _ => 0) (upd (fun _ => 0) 0 5) (upd (fun _ => 0) 0 0) (va_up (fun _ => none) 0 (some (k 0))) (upd (fun _ => 0) 0 0) (fun _ => 0) (upd (upd (upd (fun _ => 0) 0 (vp_nar .char 46)) 1 (vp_nar .char 99)) 2 (vp_nar .char 113))) sz)) (va_Qi (fun (r : Int32) (_ : Unit) => r = 1) (fun _ t => BX dC dI (TE g) (va_A (WE h g 0 (-1) 1 0 0 0 0 0 5 (.ref (k 0)) (.ref (k 0)) 0 0 0 0 0 0 0 (fun _ => 0) (upd (fun _ => 0) 0 5) (upd (fun _ => 0) 0 0) (va_up (fun _ => none) 0 (some (k 0))) (upd (fun _ => 0) 0 0) (fun _ => 0) (upd (upd (upd (fun _ => 0) 0 (vp_nar .char 46)) 1 (vp_nar .char 99)) 2 (vp_nar .char 113))) sz) (WE h g 0 (-1) 1 0 0 0 0 0 5 (.ref (k 0)) (.ref (k 0)) 0 0 0 0 0 0 0 (fun _ => 0) (upd (fun _ => 0) 0 5) (upd (fun _ => 0) 0 0) (va_up (fun _ => none) 0 (some (k 0))) (upd (fun _ => 0) 0 0) (fun _ => 0) (upd (upd (upd (fun _ => 0) 0 (vp_nar .char 46)) 1 (vp_nar .char 99)) 2 (vp_nar .char 113))) t) (va_A (WE h g 0 (-1) 1 0 0 0 0 0 5 (.ref (k 0)) (.ref (k 0)) 0 0 0 0 0 0 0 (fun _ => 0) (upd (fun _ => 0) 0 5) (upd (fun _ => 0) 0 0) (va_up (fun _ => none) 0 (some (k 0))) (upd (fun _ => 0) 0 0) (fun _ => 0) (upd (upd (upd (fun _ => 0) 0 (vp_nar .char 46)) 1 (vp_nar .char 99)) 2 (vp_nar .char 113))) sz)) 0 0 (va_A (WE h g 0 (-1) 1 0 0 0 0 0 5 (.ref (k 0)) (.ref (k 0)) 0 0 0 0 0 0 0 (fun _ => 0) (upd (fun _ => 0) 0 5) (upd (fun _ => 0) 0 0) (va_up (fun _ => none) 0 (some (k 0))) (upd (fun _ => 0) 0 0) (fun _ => 0) (upd (upd (upd (fun _ => 0) 0 (vp_nar .char 46)) 1 (vp_nar .char 99)) 2 (vp_nar .char 113))) sz) := by
  refine Met.ofW (cc := b_G_take) (maxL := 2) (ret := (some .boolean)) (by decide) rfl ?_
  intro p e s m args below meth c s₁ B hml hv
  obtain ⟨rfl, hsz, hE, hP, hK, hD0⟩ := hv
  have hx := B.exec
  have hb := B.bytes
  have hr := B.returns
  have ht : ∀ w ∈ TT, w.before _ s = true := fun w hw => atoms_spec (ws := .code y_G_take b_G_take 2 (some .boolean) :: TT) B.pre w (List.mem_cons_of_mem _ hw)
  have hown : s.vm.findClass "SieveDesk$Grammar" = some m.cls := findClass_of_methodNamed B.named
  have hlocks := B.notSynchronized
  subst hsz
  have hD := hD0.self (sz := s.heap.size)
  generalize hAe : va_A (WE h g 0 (-1) 1 0 0 0 0 0 5 (.ref (k 0)) (.ref (k 0)) 0 0 0 0 0 0 0 (fun _ => 0) (upd (fun _ => 0) 0 5) (upd (fun _ => 0) 0 0) (va_up (fun _ => none) 0 (some (k 0))) (upd (fun _ => 0) 0 0) (fun _ => 0) (upd (upd (upd (fun _ => 0) 0 (vp_nar .char 46)) 1 (vp_nar .char 99)) 2 (vp_nar .char 113))) s.heap.size = A at hE hD ⊢
  have hA : ∀ q : Nat, s.heap.size ≤ q → A q := fun q h9 => by rw [← hAe]; exact Or.inr h9
  have hS : va_S A s.heap s.heap [] := va_S.rf
  have hl := lv_entry ([.ref (h 9), .int 46]) (n := 2) (Nat.le_of_ble_eq_true rfl)
  rw [lg_entry_eq]
  generalize (lg_sl ([.ref (h 9), .int 46]) ++ List.replicate (2 - (lg_sl ([.ref (h 9), .int 46])).length) Slot.unset).toArray = ls at hl ⊢
  have hl : lv_has ls 2 [(0, .ref (h 9)), (1, .int 46)] := hl
  refine lv_iload_n hx hb d_G_take_0 rfl (lv_at hl 1 rfl) ?_
  refine lv_tableIn (off := 518) (tgt := 519) hx hb d_G_take_1 (by decide) (by decide) (by decide) (by decide) ?_
  refine lv_aload_n hx hb d_G_take_519 rfl (lv_at hl 0 rfl) ?_
  refine va_get (D := (dC, dI)) (ci := 3) (v := .int 5) (C := "SieveDesk$Grammar") (T := F_G) (N := 14) hx hb ht i_G hown hK hP 9 rfl rfl 4 (by decide) (ht _ k_164) (fun _ h9 => h9) rfl d_G_take_520 ?_
  refine lv_iconst (v := 5) hx hb d_G_take_523 (by decide) ?_
  refine lv_icmp_ne (tgt := 531) hx hb d_G_take_524 (by decide) (fun cn => absurd (by decide) cn) (fun _ => ?_)
  refine lv_iconst (v := 1) hx hb d_G_take_527 (by decide) ?_
  refine lv_goto (tgt := 532) hx hb d_G_take_528 (by decide) ?_
  exact W.zret (v := 1) hx hb hr rfl (fun t het hW => ⟨⟨1, (), rfl, rfl, by rw [het]; exact hP, va_K.moved hW.alike hK, hD⟩, hS.F het⟩) hS.2.2 d_G_take_532
set_option maxHeartbeats 4000000 in
set_option maxRecDepth 100000 in
theorem c_G_reads (l : Launch) (dC : Nat → ClassId) (dI : Nat → Nat → Nat) (k : Nat → Nat) (h : Nat → Nat) (g : Nat → ClassId) (sz : Nat) : Met l y_G_reads (.code y_G_reads b_G_reads 2 (some .boolean) :: TT) ({ frames := 5, cells := 0, slots := 0, locals := 107 }) (va_Pc [.ref (h 9)] (PX dC dI k (TE g) (WE h g 0 (-1) 1 0 0 0 0 0 0 (.ref (k 0)) (.ref (k 0)) 0 0 0 0 0 0 0 (fun _ => 0) (upd (fun _ => 0) 0 5) (upd (fun _ => 0) 0 0) (va_up (fun _ => none) 0 (some (k 0))) (upd (fun _ => 0) 0 0) (fun _ => 0) (fun _ => 0)) sz)) (va_Qi (fun (r : Int32) (_ : Unit) => r = 1) (fun _ t => BX dC dI (TE g) (va_A (WE h g 0 (-1) 1 0 0 0 0 0 0 (.ref (k 0)) (.ref (k 0)) 0 0 0 0 0 0 0 (fun _ => 0) (upd (fun _ => 0) 0 5) (upd (fun _ => 0) 0 0) (va_up (fun _ => none) 0 (some (k 0))) (upd (fun _ => 0) 0 0) (fun _ => 0) (fun _ => 0)) sz) (WE h g 0 (-1) 1 0 0 0 0 0 5 (.ref (k 0)) (.ref (k 0)) 0 0 0 0 0 0 0 (fun _ => 0) (upd (fun _ => 0) 0 5) (upd (fun _ => 0) 0 0) (va_up (fun _ => none) 0 (some (k 0))) (upd (fun _ => 0) 0 0) (fun _ => 0) (upd (upd (upd (fun _ => 0) 0 (vp_nar .char 46)) 1 (vp_nar .char 99)) 2 (vp_nar .char 113))) t) (va_A (WE h g 0 (-1) 1 0 0 0 0 0 0 (.ref (k 0)) (.ref (k 0)) 0 0 0 0 0 0 0 (fun _ => 0) (upd (fun _ => 0) 0 5) (upd (fun _ => 0) 0 0) (va_up (fun _ => none) 0 (some (k 0))) (upd (fun _ => 0) 0 0) (fun _ => 0) (fun _ => 0)) sz)) 0 0 (va_A (WE h g 0 (-1) 1 0 0 0 0 0 0 (.ref (k 0)) (.ref (k 0)) 0 0 0 0 0 0 0 (fun _ => 0) (upd (fun _ => 0) 0 5) (upd (fun _ => 0) 0 0) (va_up (fun _ => none) 0 (some (k 0))) (upd (fun _ => 0) 0 0) (fun _ => 0) (fun _ => 0)) sz) := by
  refine Met.ofW (cc := b_G_reads) (maxL := 2) (ret := (some .boolean)) (by decide) rfl ?_
  intro p e s m args below meth c s₁ B hml hv
  obtain ⟨rfl, hsz, hE, hP, hK, hD0⟩ := hv
  have hx := B.exec
  have hb := B.bytes
  have hr := B.returns
  have ht : ∀ w ∈ TT, w.before _ s = true := fun w hw => atoms_spec (ws := .code y_G_reads b_G_reads 2 (some .boolean) :: TT) B.pre w (List.mem_cons_of_mem _ hw)
  have hown : s.vm.findClass "SieveDesk$Grammar" = some m.cls := findClass_of_methodNamed B.named
  have hlocks := B.notSynchronized
  subst hsz
  have hD := hD0.self (sz := s.heap.size)
  generalize hAe : va_A (WE h g 0 (-1) 1 0 0 0 0 0 0 (.ref (k 0)) (.ref (k 0)) 0 0 0 0 0 0 0 (fun _ => 0) (upd (fun _ => 0) 0 5) (upd (fun _ => 0) 0 0) (va_up (fun _ => none) 0 (some (k 0))) (upd (fun _ => 0) 0 0) (fun _ => 0) (fun _ => 0)) s.heap.size = A at hE hD ⊢
  have hA : ∀ q : Nat, s.heap.size ≤ q → A q := fun q h9 => by rw [← hAe]; exact Or.inr h9
  have hS : va_S A s.heap s.heap [] := va_S.rf
  have hl := lv_entry ([.ref (h 9)]) (n := 2) (Nat.le_of_ble_eq_true rfl)
  rw [lg_entry_eq]
  generalize (lg_sl ([.ref (h 9)]) ++ List.replicate (2 - (lg_sl ([.ref (h 9)])).length) Slot.unset).toArray = ls at hl ⊢
  have hl : lv_has ls 2 [(0, .ref (h 9))] := hl
  refine lv_aload_n hx hb d_G_reads_0 rfl (lv_at hl 0 rfl) ?_
  refine lv_iconst (v := 0) hx hb d_G_reads_1 (by decide) ?_
  refine va_put (D := (dC, dI)) (ci := 3) (v := .int 0) (ty := .int) (C := "SieveDesk$Grammar") (T := F_G) (N := 14) hx hb ht i_G ty_G ty_G_ok n_G hown hK hP hD hS 9 rfl rfl 8 (by decide) (ht _ k_168) (fun _ h9 => h9) rfl (ty_G_ok 8 (by decide)) rfl rfl (Nat.le_of_ble_eq_true rfl) d_G_reads_2 (fun H locs hP hD hS => ?_)
  have hP : va_P (dC, dI) cls (WE h g 0 (-1) 1 0 0 0 0 0 0 (.ref (k 0)) (.ref (k 0)) 0 0 0 0 0 0 0 (fun _ => 0) (upd (fun _ => 0) 0 5) (upd (fun _ => 0) 0 0) (va_up (fun _ => none) 0 (some (k 0))) (upd (fun _ => 0) 0 0) (fun _ => 0) (fun _ => 0)) H := hP
  have hD : va_D A (WE h g 0 (-1) 1 0 0 0 0 0 0 (.ref (k 0)) (.ref (k 0)) 0 0 0 0 0 0 0 (fun _ => 0) (upd (fun _ => 0) 0 5) (upd (fun _ => 0) 0 0) (va_up (fun _ => none) 0 (some (k 0))) (upd (fun _ => 0) 0 0) (fun _ => 0) (fun _ => 0)) := hD
  refine lv_aload_n hx hb d_G_reads_5 rfl (lv_at hl 0 rfl) ?_
  refine lv_iconst (v := 0) hx hb d_G_reads_6 (by decide) ?_
  refine va_put (D := (dC, dI)) (ci := 3) (v := .int 0) (ty := .int) (C := "SieveDesk$Grammar") (T := F_G) (N := 14) hx hb ht i_G ty_G ty_G_ok n_G hown hK hP hD hS 9 rfl rfl 9 (by decide) (ht _ k_170) (fun _ h9 => h9) rfl (ty_G_ok 9 (by decide)) rfl rfl (Nat.le_of_ble_eq_true rfl) d_G_reads_7 (fun H locs hP hD hS => ?_)
  have hP : va_P (dC, dI) cls (WE h g 0 (-1) 1 0 0 0 0 0 0 (.ref (k 0)) (.ref (k 0)) 0 0 0 0 0 0 0 (fun _ => 0) (upd (fun _ => 0) 0 5) (upd (fun _ => 0) 0 0) (va_up (fun _ => none) 0 (some (k 0))) (upd (fun _ => 0) 0 0) (fun _ => 0) (fun _ => 0)) H := hP
  have hD : va_D A (WE h g 0 (-1) 1 0 0 0 0 0 0 (.ref (k 0)) (.ref (k 0)) 0 0 0 0 0 0 0 (fun _ => 0) (upd (fun _ => 0) 0 5) (upd (fun _ => 0) 0 0) (va_up (fun _ => none) 0 (some (k 0))) (upd (fun _ => 0) 0 0) (fun _ => 0) (fun _ => 0)) := hD
  refine lv_aload_n hx hb d_G_reads_10 rfl (lv_at hl 0 rfl) ?_
  refine lv_iconst (v := 0) hx hb d_G_reads_11 (by decide) ?_
  refine va_put (D := (dC, dI)) (ci := 3) (v := .int 0) (ty := .int) (C := "SieveDesk$Grammar") (T := F_G) (N := 14) hx hb ht i_G ty_G ty_G_ok n_G hown hK hP hD hS 9 rfl rfl 10 (by decide) (ht _ k_172) (fun _ h9 => h9) rfl (ty_G_ok 10 (by decide)) rfl rfl (Nat.le_of_ble_eq_true rfl) d_G_reads_12 (fun H locs hP hD hS => ?_)
  have hP : va_P (dC, dI) cls (WE h g 0 (-1) 1 0 0 0 0 0 0 (.ref (k 0)) (.ref (k 0)) 0 0 0 0 0 0 0 (fun _ => 0) (upd (fun _ => 0) 0 5) (upd (fun _ => 0) 0 0) (va_up (fun _ => none) 0 (some (k 0))) (upd (fun _ => 0) 0 0) (fun _ => 0) (fun _ => 0)) H := hP
  have hD : va_D A (WE h g 0 (-1) 1 0 0 0 0 0 0 (.ref (k 0)) (.ref (k 0)) 0 0 0 0 0 0 0 (fun _ => 0) (upd (fun _ => 0) 0 5) (upd (fun _ => 0) 0 0) (va_up (fun _ => none) 0 (some (k 0))) (upd (fun _ => 0) 0 0) (fun _ => 0) (fun _ => 0)) := hD
  refine lv_aload_n hx hb d_G_reads_15 rfl (lv_at hl 0 rfl) ?_
  refine lv_iconst (v := 0) hx hb d_G_reads_16 (by decide) ?_
  refine va_put (D := (dC, dI)) (ci := 3) (v := .int 0) (ty := .int) (C := "SieveDesk$Grammar") (T := F_G) (N := 14) hx hb ht i_G ty_G ty_G_ok n_G hown hK hP hD hS 9 rfl rfl 11 (by decide) (ht _ k_174) (fun _ h9 => h9) rfl (ty_G_ok 11 (by decide)) rfl rfl (Nat.le_of_ble_eq_true rfl) d_G_reads_17 (fun H locs hP hD hS => ?_)
  have hP : va_P (dC, dI) cls (WE h g 0 (-1) 1 0 0 0 0 0 0 (.ref (k 0)) (.ref (k 0)) 0 0 0 0 0 0 0 (fun _ => 0) (upd (fun _ => 0) 0 5) (upd (fun _ => 0) 0 0) (va_up (fun _ => none) 0 (some (k 0))) (upd (fun _ => 0) 0 0) (fun _ => 0) (fun _ => 0)) H := hP
  have hD : va_D A (WE h g 0 (-1) 1 0 0 0 0 0 0 (.ref (k 0)) (.ref (k 0)) 0 0 0 0 0 0 0 (fun _ => 0) (upd (fun _ => 0) 0 5) (upd (fun _ => 0) 0 0) (va_up (fun _ => none) 0 (some (k 0))) (upd (fun _ => 0) 0 0) (fun _ => 0) (fun _ => 0)) := hD
  refine lv_aload_n hx hb d_G_reads_20 rfl (lv_at hl 0 rfl) ?_
  refine lv_iconst (v := 0) hx hb d_G_reads_21 (by decide) ?_
  refine va_put (D := (dC, dI)) (ci := 3) (v := .int 0) (ty := .int) (C := "SieveDesk$Grammar") (T := F_G) (N := 14) hx hb ht i_G ty_G ty_G_ok n_G hown hK hP hD hS 9 rfl rfl 12 (by decide) (ht _ k_175) (fun _ h9 => h9) rfl (ty_G_ok 12 (by decide)) rfl rfl (Nat.le_of_ble_eq_true rfl) d_G_reads_22 (fun H locs hP hD hS => ?_)
  have hP : va_P (dC, dI) cls (WE h g 0 (-1) 1 0 0 0 0 0 0 (.ref (k 0)) (.ref (k 0)) 0 0 0 0 0 0 0 (fun _ => 0) (upd (fun _ => 0) 0 5) (upd (fun _ => 0) 0 0) (va_up (fun _ => none) 0 (some (k 0))) (upd (fun _ => 0) 0 0) (fun _ => 0) (fun _ => 0)) H := hP
  have hD : va_D A (WE h g 0 (-1) 1 0 0 0 0 0 0 (.ref (k 0)) (.ref (k 0)) 0 0 0 0 0 0 0 (fun _ => 0) (upd (fun _ => 0) 0 5) (upd (fun _ => 0) 0 0) (va_up (fun _ => none) 0 (some (k 0))) (upd (fun _ => 0) 0 0) (fun _ => 0) (fun _ => 0)) := hD
  refine lv_aload_n hx hb d_G_reads_25 rfl (lv_at hl 0 rfl) ?_
  refine lv_iconst (v := 0) hx hb d_G_reads_26 (by decide) ?_
  refine va_put (D := (dC, dI)) (ci := 3) (v := .int 0) (ty := .int) (C := "SieveDesk$Grammar") (T := F_G) (N := 14) hx hb ht i_G ty_G ty_G_ok n_G hown hK hP hD hS 9 rfl rfl 13 (by decide) (ht _ k_176) (fun _ h9 => h9) rfl (ty_G_ok 13 (by decide)) rfl rfl (Nat.le_of_ble_eq_true rfl) d_G_reads_27 (fun H locs hP hD hS => ?_)
  have hP : va_P (dC, dI) cls (WE h g 0 (-1) 1 0 0 0 0 0 0 (.ref (k 0)) (.ref (k 0)) 0 0 0 0 0 0 0 (fun _ => 0) (upd (fun _ => 0) 0 5) (upd (fun _ => 0) 0 0) (va_up (fun _ => none) 0 (some (k 0))) (upd (fun _ => 0) 0 0) (fun _ => 0) (fun _ => 0)) H := hP
  have hD : va_D A (WE h g 0 (-1) 1 0 0 0 0 0 0 (.ref (k 0)) (.ref (k 0)) 0 0 0 0 0 0 0 (fun _ => 0) (upd (fun _ => 0) 0 5) (upd (fun _ => 0) 0 0) (va_up (fun _ => none) 0 (some (k 0))) (upd (fun _ => 0) 0 0) (fun _ => 0) (fun _ => 0)) := hD
  refine lv_aload_n hx hb d_G_reads_30 rfl (lv_at hl 0 rfl) ?_
  refine lv_iconst (v := 0) hx hb d_G_reads_31 (by decide) ?_
  refine va_put (D := (dC, dI)) (ci := 3) (v := .int 0) (ty := .int) (C := "SieveDesk$Grammar") (T := F_G) (N := 14) hx hb ht i_G ty_G ty_G_ok n_G hown hK hP hD hS 9 rfl rfl 2 (by decide) (ht _ k_162) (fun _ h9 => h9) rfl (ty_G_ok 2 (by decide)) rfl rfl (Nat.le_of_ble_eq_true rfl) d_G_reads_32 (fun H locs hP hD hS => ?_)
  have hP : va_P (dC, dI) cls (WE h g 0 (-1) 1 0 0 0 0 0 0 (.ref (k 0)) (.ref (k 0)) 0 0 0 0 0 0 0 (fun _ => 0) (upd (fun _ => 0) 0 5) (upd (fun _ => 0) 0 0) (va_up (fun _ => none) 0 (some (k 0))) (upd (fun _ => 0) 0 0) (fun _ => 0) (fun _ => 0)) H := hP
  have hD : va_D A (WE h g 0 (-1) 1 0 0 0 0 0 0 (.ref (k 0)) (.ref (k 0)) 0 0 0 0 0 0 0 (fun _ => 0) (upd (fun _ => 0) 0 5) (upd (fun _ => 0) 0 0) (va_up (fun _ => none) 0 (some (k 0))) (upd (fun _ => 0) 0 0) (fun _ => 0) (fun _ => 0)) := hD
  refine lv_aload_n hx hb d_G_reads_35 rfl (lv_at hl 0 rfl) ?_
  refine lv_iconst (v := (-1)) hx hb d_G_reads_36 (by decide) ?_
  refine va_put (D := (dC, dI)) (ci := 3) (v := .int (-1)) (ty := .int) (C := "SieveDesk$Grammar") (T := F_G) (N := 14) hx hb ht i_G ty_G ty_G_ok n_G hown hK hP hD hS 9 rfl rfl 3 (by decide) (ht _ k_163) (fun _ h9 => h9) rfl (ty_G_ok 3 (by decide)) rfl rfl (Nat.le_of_ble_eq_true rfl) d_G_reads_37 (fun H locs hP hD hS => ?_)
  have hP : va_P (dC, dI) cls (WE h g 0 (-1) 1 0 0 0 0 (-1) 0 (.ref (k 0)) (.ref (k 0)) 0 0 0 0 0 0 0 (fun _ => 0) (upd (fun _ => 0) 0 5) (upd (fun _ => 0) 0 0) (va_up (fun _ => none) 0 (some (k 0))) (upd (fun _ => 0) 0 0) (fun _ => 0) (fun _ => 0)) H := hP
  have hD : va_D A (WE h g 0 (-1) 1 0 0 0 0 (-1) 0 (.ref (k 0)) (.ref (k 0)) 0 0 0 0 0 0 0 (fun _ => 0) (upd (fun _ => 0) 0 5) (upd (fun _ => 0) 0 0) (va_up (fun _ => none) 0 (some (k 0))) (upd (fun _ => 0) 0 0) (fun _ => 0) (fun _ => 0)) := hD
  refine lv_aload_n hx hb d_G_reads_40 rfl (lv_at hl 0 rfl) ?_
  have hFc := va_free (wc := (WE h g 0 (-1) 1 0 0 0 0 (-1) 0 (.ref (k 0)) (.ref (k 0)) 0 0 0 0 0 0 0 (fun _ => 0) (upd (fun _ => 0) 0 5) (upd (fun _ => 0) 0 0) (va_up (fun _ => none) 0 (some (k 0))) (upd (fun _ => 0) 0 0) (fun _ => 0) (fun _ => 0))) hD hS hA [0, 1, 2, 3, 4, 5, 6, 7, 8, 9, 10] rfl
  refine va_callv (va_runV (As := []) (rest := []) ⟨hx, hb, hml, hown, ht⟩ (c_G_advance l dC dI k h g _) (cwV 0 ht (g_V k_466 k_468 k_21 k_77 k_469) rfl rfl rfl (by decide +kernel) ⟨(Nat.le_of_ble_eq_true rfl), (Nat.le_of_ble_eq_true rfl)⟩) ⟨fb_X, va_recv hK hP (ci := 3) (q0 := 9) rfl rfl, pre_X hE hS hFc hP hK hD⟩ rfl rfl hl.1 rfl (lv_room (Nat.le_of_ble_eq_true rfl)) d_G_reads_41 ⟨(Nat.le_of_ble_eq_true rfl), (Nat.le_of_ble_eq_true rfl)⟩) hS (fun q _ h9 => hFc q h9) hFc (fun u t H locs het hvm hw hB hz1 hk1 hS => ?_)
  obtain ⟨hP1, hK1, hD1⟩ := hB
  rw [het] at hP1
  have hP : va_P (dC, dI) cls (WE h g 0 (-1) 1 0 0 0 0 0 5 (.ref (k 0)) (.ref (k 0)) 0 0 0 0 0 0 0 (fun _ => 0) (upd (fun _ => 0) 0 5) (upd (fun _ => 0) 0 0) (va_up (fun _ => none) 0 (some (k 0))) (upd (fun _ => 0) 0 0) (fun _ => 0) (fun _ => 0)) H := hP1
  have hD : va_D A (WE h g 0 (-1) 1 0 0 0 0 0 5 (.ref (k 0)) (.ref (k 0)) 0 0 0 0 0 0 0 (fun _ => 0) (upd (fun _ => 0) 0 5) (upd (fun _ => 0) 0 0) (va_up (fun _ => none) 0 (some (k 0))) (upd (fun _ => 0) 0 0) (fun _ => 0) (fun _ => 0)) := hD1.weaken (fun _ _ _ h9 => hFc _ h9)
  refine lv_aload_n hx hb d_G_reads_44 rfl (lv_at hl 0 rfl) ?_
  refine va_ldcS hx hb hown hE.2.2.2.2.2.2.2.1 d_G_reads_45 ?_
  have hFc := va_free (wc := (WE h g 0 (-1) 1 0 0 0 0 0 5 (.ref (k 0)) (.ref (k 0)) 0 0 0 0 0 0 0 (fun _ => 0) (upd (fun _ => 0) 0 5) (upd (fun _ => 0) 0 0) (va_up (fun _ => none) 0 (some (k 0))) (upd (fun _ => 0) 0 0) (fun _ => 0) (fun _ => 0))) hD hS hA [0, 1, 2, 3, 4, 5, 6, 7, 8, 9, 10] rfl
  refine va_callv (va_runV (As := [.ref (k 2)]) (rest := []) ⟨hx, hb, hml, hown, ht⟩ (c_G_expect l dC dI k h g _) (cwV 1 ht (g_V k_471 k_473 k_22 k_77 k_474) rfl rfl rfl (by decide +kernel) ⟨(Nat.le_of_ble_eq_true rfl), (Nat.le_of_ble_eq_true rfl)⟩) ⟨fb_X, va_recv hK hP (ci := 3) (q0 := 9) rfl rfl, pre_X hE hS hFc hP hK hD⟩ rfl rfl hl.1 rfl (lv_room (Nat.le_of_ble_eq_true rfl)) d_G_reads_47 ⟨(Nat.le_of_ble_eq_true rfl), (Nat.le_of_ble_eq_true rfl)⟩) hS (fun q _ h9 => hFc q h9) hFc (fun u t H locs het hvm hw hB hz1 hk1 hS => ?_)
  obtain ⟨hP1, hK1, hD1⟩ := hB
  rw [het] at hP1
  have hP : va_P (dC, dI) cls (WE h g 0 (-1) 1 0 0 0 3 0 5 (.ref (k 0)) (.ref (k 0)) 0 0 0 0 0 0 0 (fun _ => 0) (upd (fun _ => 0) 0 5) (upd (fun _ => 0) 0 0) (va_up (fun _ => none) 0 (some (k 0))) (upd (fun _ => 0) 0 0) (fun _ => 0) (upd (upd (upd (fun _ => 0) 0 (vp_nar .char 46)) 1 (vp_nar .char 99)) 2 (vp_nar .char 113))) H := hP1
  have hD : va_D A (WE h g 0 (-1) 1 0 0 0 3 0 5 (.ref (k 0)) (.ref (k 0)) 0 0 0 0 0 0 0 (fun _ => 0) (upd (fun _ => 0) 0 5) (upd (fun _ => 0) 0 0) (va_up (fun _ => none) 0 (some (k 0))) (upd (fun _ => 0) 0 0) (fun _ => 0) (upd (upd (upd (fun _ => 0) 0 (vp_nar .char 46)) 1 (vp_nar .char 99)) 2 (vp_nar .char 113))) := hD1.weaken (fun _ _ _ h9 => hFc _ h9)
  refine lv_iconst (v := 0) hx hb d_G_reads_50 (by decide) ?_
  refine lv_istore_n (lv' := [(1, .int 0), (0, .ref (h 9))]) hx hb d_G_reads_51 rfl hl (by decide) rfl (fun ls hl => ?_)
  refine lv_iload_n hx hb d_G_reads_52 rfl (lv_at hl 0 rfl) ?_
  refine lv_sipush (v := 10000) hx hb d_G_reads_53 (by decide) ?_
  refine lv_icmp_ge (tgt := 100) hx hb d_G_reads_56 (by decide) (fun cn => absurd cn (by decide)) (fun _ => ?_)
  refine lv_aload_n hx hb d_G_reads_59 rfl (lv_at hl 1 rfl) ?_
  refine va_get (D := (dC, dI)) (ci := 3) (v := .int 3) (C := "SieveDesk$Grammar") (T := F_G) (N := 14) hx hb ht i_G hown hK hP 9 rfl rfl 2 (by decide) (ht _ k_162) (fun _ h9 => h9) rfl d_G_reads_60 ?_
  refine lv_if_le (tgt := 100) hx hb d_G_reads_63 (by decide) (fun cn => absurd cn (by decide)) (fun _ => ?_)
  refine lv_aload_n hx hb d_G_reads_66 rfl (lv_at hl 1 rfl) ?_
  refine lv_dup hx hb d_G_reads_67 rfl ?_
  refine va_get (D := (dC, dI)) (ci := 3) (v := .int 3) (C := "SieveDesk$Grammar") (T := F_G) (N := 14) hx hb ht i_G hown hK hP 9 rfl rfl 2 (by decide) (ht _ k_162) (fun _ h9 => h9) rfl d_G_reads_68 ?_
  refine lv_iconst (v := 1) hx hb d_G_reads_71 (by decide) ?_
  refine lv_isub hx hb d_G_reads_72 ?_
  refine lv_ev (show (3 : Int32) - 1 = 2 by decide) ?_
  refine va_put (D := (dC, dI)) (ci := 3) (v := .int 2) (ty := .int) (C := "SieveDesk$Grammar") (T := F_G) (N := 14) hx hb ht i_G ty_G ty_G_ok n_G hown hK hP hD hS 9 rfl rfl 2 (by decide) (ht _ k_162) (fun _ h9 => h9) rfl (ty_G_ok 2 (by decide)) rfl rfl (Nat.le_of_ble_eq_true rfl) d_G_reads_73 (fun H locs hP hD hS => ?_)
  have hP : va_P (dC, dI) cls (WE h g 0 (-1) 1 0 0 0 2 0 5 (.ref (k 0)) (.ref (k 0)) 0 0 0 0 0 0 0 (fun _ => 0) (upd (fun _ => 0) 0 5) (upd (fun _ => 0) 0 0) (va_up (fun _ => none) 0 (some (k 0))) (upd (fun _ => 0) 0 0) (fun _ => 0) (upd (upd (upd (fun _ => 0) 0 (vp_nar .char 46)) 1 (vp_nar .char 99)) 2 (vp_nar .char 113))) H := hP
  have hD : va_D A (WE h g 0 (-1) 1 0 0 0 2 0 5 (.ref (k 0)) (.ref (k 0)) 0 0 0 0 0 0 0 (fun _ => 0) (upd (fun _ => 0) 0 5) (upd (fun _ => 0) 0 0) (va_up (fun _ => none) 0 (some (k 0))) (upd (fun _ => 0) 0 0) (fun _ => 0) (upd (upd (upd (fun _ => 0) 0 (vp_nar .char 46)) 1 (vp_nar .char 99)) 2 (vp_nar .char 113))) := hD
  refine lv_aload_n hx hb d_G_reads_76 rfl (lv_at hl 1 rfl) ?_
  refine lv_aload_n hx hb d_G_reads_77 rfl (lv_at hl 1 rfl) ?_
  refine va_get (D := (dC, dI)) (ci := 3) (v := .ref (h 10)) (C := "SieveDesk$Grammar") (T := F_G) (N := 14) hx hb ht i_G hown hK hP 9 rfl rfl 1 (by decide) (ht _ k_161) (fun _ h9 => h9) rfl d_G_reads_78 ?_
  refine lv_aload_n hx hb d_G_reads_81 rfl (lv_at hl 1 rfl) ?_
  refine va_get (D := (dC, dI)) (ci := 3) (v := .int 2) (C := "SieveDesk$Grammar") (T := F_G) (N := 14) hx hb ht i_G hown hK hP 9 rfl rfl 2 (by decide) (ht _ k_162) (fun _ h9 => h9) rfl d_G_reads_82 ?_
  refine va_cald hx hb hK hP 10 6 rfl rfl (by unfold vp_in; decide) d_G_reads_85 ?_
  refine lv_ev (show (upd (upd (upd (fun _ => 0) 0 (vp_nar .char 46)) 1 (vp_nar .char 99)) 2 (vp_nar .char 113)) (Int32.toNatClampNeg 2) = 113 by decide) ?_
  have hFc := va_free (wc := (WE h g 0 (-1) 1 0 0 0 2 0 5 (.ref (k 0)) (.ref (k 0)) 0 0 0 0 0 0 0 (fun _ => 0) (upd (fun _ => 0) 0 5) (upd (fun _ => 0) 0 0) (va_up (fun _ => none) 0 (some (k 0))) (upd (fun _ => 0) 0 0) (fun _ => 0) (upd (upd (upd (fun _ => 0) 0 (vp_nar .char 46)) 1 (vp_nar .char 99)) 2 (vp_nar .char 113)))) hD hS hA [0, 1, 2, 3, 4, 5, 6, 7, 8, 9, 10] rfl
  refine va_calli (va_runV (As := [.int 113]) (rest := []) ⟨hx, hb, hml, hown, ht⟩ (c_G_take_113 l dC dI k h g _) (cwV 1 ht (g_V k_477 k_479 k_23 k_77 k_480) rfl rfl rfl (by decide +kernel) ⟨(Nat.le_of_ble_eq_true rfl), (Nat.le_of_ble_eq_true rfl)⟩) ⟨fb_X, va_recv hK hP (ci := 3) (q0 := 9) rfl rfl, pre_X hE hS hFc hP hK hD⟩ rfl rfl hl.1 rfl (lv_room (Nat.le_of_ble_eq_true rfl)) d_G_reads_86 ⟨(Nat.le_of_ble_eq_true rfl), (Nat.le_of_ble_eq_true rfl)⟩) hS (fun q _ h9 => hFc q h9) hFc (fun r_3 u t H locs het hvm hw hB hz1 hk1 hS => ?_)
  obtain ⟨hP1, hK1, hD1⟩ := hB
  rw [het] at hP1
  have hP : va_P (dC, dI) cls (WE h g 0 (-1) 1 0 0 0 2 0 5 (.ref (k 0)) (.ref (k 0)) 0 0 0 0 0 0 0 (fun _ => 0) (upd (fun _ => 0) 0 5) (upd (fun _ => 0) 0 0) (va_up (fun _ => none) 0 (some (k 0))) (upd (fun _ => 0) 0 0) (fun _ => 0) (upd (upd (upd (fun _ => 0) 0 (vp_nar .char 46)) 1 (vp_nar .char 99)) 2 (vp_nar .char 113))) H := hP1
  have hD : va_D A (WE h g 0 (-1) 1 0 0 0 2 0 5 (.ref (k 0)) (.ref (k 0)) 0 0 0 0 0 0 0 (fun _ => 0) (upd (fun _ => 0) 0 5) (upd (fun _ => 0) 0 0) (va_up (fun _ => none) 0 (some (k 0))) (upd (fun _ => 0) 0 0) (fun _ => 0) (upd (upd (upd (fun _ => 0) 0 (vp_nar .char 46)) 1 (vp_nar .char 99)) 2 (vp_nar .char 113))) := hD1.weaken (fun _ _ _ h9 => hFc _ h9)
  subst hw
  refine lv_if_ne (tgt := 94) hx hb d_G_reads_89 (by decide) (fun _ => ?_) (fun cn => absurd cn (by decide))
  refine lv_iinc (v := 1) (lv' := [(1, .int 1), (0, .ref (h 9))]) hx hb d_G_reads_94 hl (k := 0) rfl (by decide) (by decide) rfl (fun ls hl => ?_)
  refine lv_goto (tgt := 52) hx hb d_G_reads_97 (by decide) ?_
  refine lv_iload_n hx hb d_G_reads_52 rfl (lv_at hl 0 rfl) ?_
  refine lv_sipush (v := 10000) hx hb d_G_reads_53 (by decide) ?_
  refine lv_icmp_ge (tgt := 100) hx hb d_G_reads_56 (by decide) (fun cn => absurd cn (by decide)) (fun _ => ?_)
  refine lv_aload_n hx hb d_G_reads_59 rfl (lv_at hl 1 rfl) ?_
  refine va_get (D := (dC, dI)) (ci := 3) (v := .int 2) (C := "SieveDesk$Grammar") (T := F_G) (N := 14) hx hb ht i_G hown hK hP 9 rfl rfl 2 (by decide) (ht _ k_162) (fun _ h9 => h9) rfl d_G_reads_60 ?_
  refine lv_if_le (tgt := 100) hx hb d_G_reads_63 (by decide) (fun cn => absurd cn (by decide)) (fun _ => ?_)
  refine lv_aload_n hx hb d_G_reads_66 rfl (lv_at hl 1 rfl) ?_
  refine lv_dup hx hb d_G_reads_67 rfl ?_
  refine va_get (D := (dC, dI)) (ci := 3) (v := .int 2) (C := "SieveDesk$Grammar") (T := F_G) (N := 14) hx hb ht i_G hown hK hP 9 rfl rfl 2 (by decide) (ht _ k_162) (fun _ h9 => h9) rfl d_G_reads_68 ?_
  refine lv_iconst (v := 1) hx hb d_G_reads_71 (by decide) ?_
  refine lv_isub hx hb d_G_reads_72 ?_
  refine lv_ev (show (2 : Int32) - 1 = 1 by decide) ?_
  refine va_put (D := (dC, dI)) (ci := 3) (v := .int 1) (ty := .int) (C := "SieveDesk$Grammar") (T := F_G) (N := 14) hx hb ht i_G ty_G ty_G_ok n_G hown hK hP hD hS 9 rfl rfl 2 (by decide) (ht _ k_162) (fun _ h9 => h9) rfl (ty_G_ok 2 (by decide)) rfl rfl (Nat.le_of_ble_eq_true rfl) d_G_reads_73 (fun H locs hP hD hS => ?_)
  have hP : va_P (dC, dI) cls (WE h g 0 (-1) 1 0 0 0 1 0 5 (.ref (k 0)) (.ref (k 0)) 0 0 0 0 0 0 0 (fun _ => 0) (upd (fun _ => 0) 0 5) (upd (fun _ => 0) 0 0) (va_up (fun _ => none) 0 (some (k 0))) (upd (fun _ => 0) 0 0) (fun _ => 0) (upd (upd (upd (fun _ => 0) 0 (vp_nar .char 46)) 1 (vp_nar .char 99)) 2 (vp_nar .char 113))) H := hP
  have hD : va_D A (WE h g 0 (-1) 1 0 0 0 1 0 5 (.ref (k 0)) (.ref (k 0)) 0 0 0 0 0 0 0 (fun _ => 0) (upd (fun _ => 0) 0 5) (upd (fun _ => 0) 0 0) (va_up (fun _ => none) 0 (some (k 0))) (upd (fun _ => 0) 0 0) (fun _ => 0) (upd (upd (upd (fun _ => 0) 0 (vp_nar .char 46)) 1 (vp_nar .char 99)) 2 (vp_nar .char 113))) := hD
  refine lv_aload_n hx hb d_G_reads_76 rfl (lv_at hl 1 rfl) ?_
  refine lv_aload_n hx hb d_G_reads_77 rfl (lv_at hl 1 rfl) ?_
  refine va_get (D := (dC, dI)) (ci := 3) (v := .ref (h 10)) (C := "SieveDesk$Grammar") (T := F_G) (N := 14) hx hb ht i_G hown hK hP 9 rfl rfl 1 (by decide) (ht _ k_161) (fun _ h9 => h9) rfl d_G_reads_78 ?_
  refine lv_aload_n hx hb d_G_reads_81 rfl (lv_at hl 1 rfl) ?_
  refine va_get (D := (dC, dI)) (ci := 3) (v := .int 1) (C := "SieveDesk$Grammar") (T := F_G) (N := 14) hx hb ht i_G hown hK hP 9 rfl rfl 2 (by decide) (ht _ k_162) (fun _ h9 => h9) rfl d_G_reads_82 ?_
  refine va_cald hx hb hK hP 10 6 rfl rfl (by unfold vp_in; decide) d_G_reads_85 ?_
  refine lv_ev (show (upd (upd (upd (fun _ => 0) 0 (vp_nar .char 46)) 1 (vp_nar .char 99)) 2 (vp_nar .char 113)) (Int32.toNatClampNeg 1) = 99 by decide) ?_
  have hFc := va_free (wc := (WE h g 0 (-1) 1 0 0 0 1 0 5 (.ref (k 0)) (.ref (k 0)) 0 0 0 0 0 0 0 (fun _ => 0) (upd (fun _ => 0) 0 5) (upd (fun _ => 0) 0 0) (va_up (fun _ => none) 0 (some (k 0))) (upd (fun _ => 0) 0 0) (fun _ => 0) (upd (upd (upd (fun _ => 0) 0 (vp_nar .char 46)) 1 (vp_nar .char 99)) 2 (vp_nar .char 113)))) hD hS hA [0, 1, 2, 3, 4, 5, 6, 7, 8, 9, 10] rfl
  refine va_calli (va_runV (As := [.int 99]) (rest := []) ⟨hx, hb, hml, hown, ht⟩ (c_G_take_99 l dC dI k h g _) (cwV 1 ht (g_V k_477 k_479 k_23 k_77 k_480) rfl rfl rfl (by decide +kernel) ⟨(Nat.le_of_ble_eq_true rfl), (Nat.le_of_ble_eq_true rfl)⟩) ⟨fb_X, va_recv hK hP (ci := 3) (q0 := 9) rfl rfl, pre_X hE hS hFc hP hK hD⟩ rfl rfl hl.1 rfl (lv_room (Nat.le_of_ble_eq_true rfl)) d_G_reads_86 ⟨(Nat.le_of_ble_eq_true rfl), (Nat.le_of_ble_eq_true rfl)⟩) hS (fun q _ h9 => hFc q h9) hFc (fun r_4 u t H locs het hvm hw hB hz1 hk1 hS => ?_)
  obtain ⟨hP1, hK1, hD1⟩ := hB
  rw [het] at hP1
  have hP : va_P (dC, dI) cls (WE h g 0 (-1) 1 0 0 0 1 0 5 (.ref (k 0)) (.ref (k 0)) 0 0 0 0 0 0 0 (fun _ => 0) (upd (fun _ => 0) 0 5) (upd (fun _ => 0) 0 0) (va_up (fun _ => none) 0 (some (k 0))) (upd (fun _ => 0) 0 0) (fun _ => 0) (upd (upd (upd (fun _ => 0) 0 (vp_nar .char 46)) 1 (vp_nar .char 99)) 2 (vp_nar .char 113))) H := hP1
  have hD : va_D A (WE h g 0 (-1) 1 0 0 0 1 0 5 (.ref (k 0)) (.ref (k 0)) 0 0 0 0 0 0 0 (fun _ => 0) (upd (fun _ => 0) 0 5) (upd (fun _ => 0) 0 0) (va_up (fun _ => none) 0 (some (k 0))) (upd (fun _ => 0) 0 0) (fun _ => 0) (upd (upd (upd (fun _ => 0) 0 (vp_nar .char 46)) 1 (vp_nar .char 99)) 2 (vp_nar .char 113))) := hD1.weaken (fun _ _ _ h9 => hFc _ h9)
  subst hw
  refine lv_if_ne (tgt := 94) hx hb d_G_reads_89 (by decide) (fun _ => ?_) (fun cn => absurd cn (by decide))
  refine lv_iinc (v := 2) (lv' := [(1, .int 2), (0, .ref (h 9))]) hx hb d_G_reads_94 hl (k := 0) rfl (by decide) (by decide) rfl (fun ls hl => ?_)
  refine lv_goto (tgt := 52) hx hb d_G_reads_97 (by decide) ?_
  refine lv_iload_n hx hb d_G_reads_52 rfl (lv_at hl 0 rfl) ?_
  refine lv_sipush (v := 10000) hx hb d_G_reads_53 (by decide) ?_
  refine lv_icmp_ge (tgt := 100) hx hb d_G_reads_56 (by decide) (fun cn => absurd cn (by decide)) (fun _ => ?_)
  refine lv_aload_n hx hb d_G_reads_59 rfl (lv_at hl 1 rfl) ?_
  refine va_get (D := (dC, dI)) (ci := 3) (v := .int 1) (C := "SieveDesk$Grammar") (T := F_G) (N := 14) hx hb ht i_G hown hK hP 9 rfl rfl 2 (by decide) (ht _ k_162) (fun _ h9 => h9) rfl d_G_reads_60 ?_
  refine lv_if_le (tgt := 100) hx hb d_G_reads_63 (by decide) (fun cn => absurd cn (by decide)) (fun _ => ?_)
  refine lv_aload_n hx hb d_G_reads_66 rfl (lv_at hl 1 rfl) ?_
  refine lv_dup hx hb d_G_reads_67 rfl ?_
  refine va_get (D := (dC, dI)) (ci := 3) (v := .int 1) (C := "SieveDesk$Grammar") (T := F_G) (N := 14) hx hb ht i_G hown hK hP 9 rfl rfl 2 (by decide) (ht _ k_162) (fun _ h9 => h9) rfl d_G_reads_68 ?_
  refine lv_iconst (v := 1) hx hb d_G_reads_71 (by decide) ?_
  refine lv_isub hx hb d_G_reads_72 ?_
  refine lv_ev (show (1 : Int32) - 1 = 0 by decide) ?_
  refine va_put (D := (dC, dI)) (ci := 3) (v := .int 0) (ty := .int) (C := "SieveDesk$Grammar") (T := F_G) (N := 14) hx hb ht i_G ty_G ty_G_ok n_G hown hK hP hD hS 9 rfl rfl 2 (by decide) (ht _ k_162) (fun _ h9 => h9) rfl (ty_G_ok 2 (by decide)) rfl rfl (Nat.le_of_ble_eq_true rfl) d_G_reads_73 (fun H locs hP hD hS => ?_)
  have hP : va_P (dC, dI) cls (WE h g 0 (-1) 1 0 0 0 0 0 5 (.ref (k 0)) (.ref (k 0)) 0 0 0 0 0 0 0 (fun _ => 0) (upd (fun _ => 0) 0 5) (upd (fun _ => 0) 0 0) (va_up (fun _ => none) 0 (some (k 0))) (upd (fun _ => 0) 0 0) (fun _ => 0) (upd (upd (upd (fun _ => 0) 0 (vp_nar .char 46)) 1 (vp_nar .char 99)) 2 (vp_nar .char 113))) H := hP
  have hD : va_D A (WE h g 0 (-1) 1 0 0 0 0 0 5 (.ref (k 0)) (.ref (k 0)) 0 0 0 0 0 0 0 (fun _ => 0) (upd (fun _ => 0) 0 5) (upd (fun _ => 0) 0 0) (va_up (fun _ => none) 0 (some (k 0))) (upd (fun _ => 0) 0 0) (fun _ => 0) (upd (upd (upd (fun _ => 0) 0 (vp_nar .char 46)) 1 (vp_nar .char 99)) 2 (vp_nar .char 113))) := hD
  refine lv_aload_n hx hb d_G_reads_76 rfl (lv_at hl 1 rfl) ?_
  refine lv_aload_n hx hb d_G_reads_77 rfl (lv_at hl 1 rfl) ?_
  refine va_get (D := (dC, dI)) (ci := 3) (v := .ref (h 10)) (C := "SieveDesk$Grammar") (T := F_G) (N := 14) hx hb ht i_G hown hK hP 9 rfl rfl 1 (by decide) (ht _ k_161) (fun _ h9 => h9) rfl d_G_reads_78 ?_
  refine lv_aload_n hx hb d_G_reads_81 rfl (lv_at hl 1 rfl) ?_
  refine va_get (D := (dC, dI)) (ci := 3) (v := .int 0) (C := "SieveDesk$Grammar") (T := F_G) (N := 14) hx hb ht i_G hown hK hP 9 rfl rfl 2 (by decide) (ht _ k_162) (fun _ h9 => h9) rfl d_G_reads_82 ?_
  refine va_cald hx hb hK hP 10 6 rfl rfl (by unfold vp_in; decide) d_G_reads_85 ?_
  refine lv_ev (show (upd (upd (upd (fun _ => 0) 0 (vp_nar .char 46)) 1 (vp_nar .char 99)) 2 (vp_nar .char 113)) (Int32.toNatClampNeg 0) = 46 by decide) ?_
  have hFc := va_free (wc := (WE h g 0 (-1) 1 0 0 0 0 0 5 (.ref (k 0)) (.ref (k 0)) 0 0 0 0 0 0 0 (fun _ => 0) (upd (fun _ => 0) 0 5) (upd (fun _ => 0) 0 0) (va_up (fun _ => none) 0 (some (k 0))) (upd (fun _ => 0) 0 0) (fun _ => 0) (upd (upd (upd (fun _ => 0) 0 (vp_nar .char 46)) 1 (vp_nar .char 99)) 2 (vp_nar .char 113)))) hD hS hA [0, 1, 2, 3, 4, 5, 6, 7, 8, 9, 10] rfl
  refine va_calli (va_runV (As := [.int 46]) (rest := []) ⟨hx, hb, hml, hown, ht⟩ (c_G_take_46 l dC dI k h g _) (cwV 1 ht (g_V k_477 k_479 k_23 k_77 k_480) rfl rfl rfl (by decide +kernel) ⟨(Nat.le_of_ble_eq_true rfl), (Nat.le_of_ble_eq_true rfl)⟩) ⟨fb_X, va_recv hK hP (ci := 3) (q0 := 9) rfl rfl, pre_X hE hS hFc hP hK hD⟩ rfl rfl hl.1 rfl (lv_room (Nat.le_of_ble_eq_true rfl)) d_G_reads_86 ⟨(Nat.le_of_ble_eq_true rfl), (Nat.le_of_ble_eq_true rfl)⟩) hS (fun q _ h9 => hFc q h9) hFc (fun r_5 u t H locs het hvm hw hB hz1 hk1 hS => ?_)
  obtain ⟨hP1, hK1, hD1⟩ := hB
  rw [het] at hP1
  have hP : va_P (dC, dI) cls (WE h g 0 (-1) 1 0 0 0 0 0 5 (.ref (k 0)) (.ref (k 0)) 0 0 0 0 0 0 0 (fun _ => 0) (upd (fun _ => 0) 0 5) (upd (fun _ => 0) 0 0) (va_up (fun _ => none) 0 (some (k 0))) (upd (fun _ => 0) 0 0) (fun _ => 0) (upd (upd (upd (fun _ => 0) 0 (vp_nar .char 46)) 1 (vp_nar .char 99)) 2 (vp_nar .char 113))) H := hP1
  have hD : va_D A (WE h g 0 (-1) 1 0 0 0 0 0 5 (.ref (k 0)) (.ref (k 0)) 0 0 0 0 0 0 0 (fun _ => 0) (upd (fun _ => 0) 0 5) (upd (fun _ => 0) 0 0) (va_up (fun _ => none) 0 (some (k 0))) (upd (fun _ => 0) 0 0) (fun _ => 0) (upd (upd (upd (fun _ => 0) 0 (vp_nar .char 46)) 1 (vp_nar .char 99)) 2 (vp_nar .char 113))) := hD1.weaken (fun _ _ _ h9 => hFc _ h9)
  subst hw
  refine lv_if_ne (tgt := 94) hx hb d_G_reads_89 (by decide) (fun _ => ?_) (fun cn => absurd cn (by decide))
  refine lv_iinc (v := 3) (lv' := [(1, .int 3), (0, .ref (h 9))]) hx hb d_G_reads_94 hl (k := 0) rfl (by decide) (by decide) rfl (fun ls hl => ?_)
  refine lv_goto (tgt := 52) hx hb d_G_reads_97 (by decide) ?_
  refine lv_iload_n hx hb d_G_reads_52 rfl (lv_at hl 0 rfl) ?_
  refine lv_sipush (v := 10000) hx hb d_G_reads_53 (by decide) ?_
  refine lv_icmp_ge (tgt := 100) hx hb d_G_reads_56 (by decide) (fun cn => absurd cn (by decide)) (fun _ => ?_)
  refine lv_aload_n hx hb d_G_reads_59 rfl (lv_at hl 1 rfl) ?_
  refine va_get (D := (dC, dI)) (ci := 3) (v := .int 0) (C := "SieveDesk$Grammar") (T := F_G) (N := 14) hx hb ht i_G hown hK hP 9 rfl rfl 2 (by decide) (ht _ k_162) (fun _ h9 => h9) rfl d_G_reads_60 ?_
  refine lv_if_le (tgt := 100) hx hb d_G_reads_63 (by decide) (fun _ => ?_) (fun cn => absurd (by decide) cn)
  refine lv_aload_n hx hb d_G_reads_100 rfl (lv_at hl 1 rfl) ?_
  refine va_get (D := (dC, dI)) (ci := 3) (v := .int 0) (C := "SieveDesk$Grammar") (T := F_G) (N := 14) hx hb ht i_G hown hK hP 9 rfl rfl 2 (by decide) (ht _ k_162) (fun _ h9 => h9) rfl d_G_reads_101 ?_
  refine lv_if_ne (tgt := 111) hx hb d_G_reads_104 (by decide) (fun cn => absurd (by decide) cn) (fun _ => ?_)
  refine lv_iconst (v := 1) hx hb d_G_reads_107 (by decide) ?_
  refine lv_goto (tgt := 112) hx hb d_G_reads_108 (by decide) ?_
  exact W.zret (v := 1) hx hb hr rfl (fun t het hW => ⟨⟨1, (), rfl, rfl, by rw [het]; exact hP, va_K.moved hW.alike hK, hD⟩, hS.F het⟩) hS.2.2 d_G_reads_112
set_option maxHeartbeats 4000000 in
set_option maxRecDepth 100000 in
theorem c_S_check (l : Launch) (dC : Nat → ClassId) (dI : Nat → Nat → Nat) (k : Nat → Nat) (h : Nat → Nat) (g : Nat → ClassId) (sz : Nat) : Met l y_S_check (.code y_S_check b_S_check 3 (some .int) :: TT) ({ frames := 6, cells := 0, slots := 0, locals := 128 }) (va_Pc [.ref (h 0)] (PX dC dI k (TE g) (WE h g 0 (-1) 0 0 0 0 0 0 0 (.ref (k 0)) (.ref (k 0)) 0 0 0 0 0 0 0 (fun _ => 0) (fun _ => 0) (fun _ => 0) (fun _ => none) (fun _ => 0) (fun _ => 0) (fun _ => 0)) sz)) (va_Qi (fun (r : Int32) (_ : Unit) => r = 0) (fun _ t => BX dC dI (TE g) (va_A (WE h g 0 (-1) 0 0 0 0 0 0 0 (.ref (k 0)) (.ref (k 0)) 0 0 0 0 0 0 0 (fun _ => 0) (fun _ => 0) (fun _ => 0) (fun _ => none) (fun _ => 0) (fun _ => 0) (fun _ => 0)) sz) (WE h g 0 (-1) 1 0 0 0 0 0 5 (.ref (k 0)) (.ref (k 0)) 0 0 0 0 0 0 0 (fun _ => 0) (upd (fun _ => 0) 0 5) (upd (fun _ => 0) 0 0) (va_up (fun _ => none) 0 (some (k 0))) (upd (fun _ => 0) 0 0) (fun _ => 0) (upd (upd (upd (fun _ => 0) 0 (vp_nar .char 46)) 1 (vp_nar .char 99)) 2 (vp_nar .char 113))) t) (va_A (WE h g 0 (-1) 0 0 0 0 0 0 0 (.ref (k 0)) (.ref (k 0)) 0 0 0 0 0 0 0 (fun _ => 0) (fun _ => 0) (fun _ => 0) (fun _ => none) (fun _ => 0) (fun _ => 0) (fun _ => 0)) sz)) 0 0 (va_A (WE h g 0 (-1) 0 0 0 0 0 0 0 (.ref (k 0)) (.ref (k 0)) 0 0 0 0 0 0 0 (fun _ => 0) (fun _ => 0) (fun _ => 0) (fun _ => none) (fun _ => 0) (fun _ => 0) (fun _ => 0)) sz) := by
  refine Met.ofW (cc := b_S_check) (maxL := 3) (ret := (some .int)) (by decide) rfl ?_
  intro p e s m args below meth c s₁ B hml hv
  obtain ⟨rfl, hsz, hE, hP, hK, hD0⟩ := hv
  have hx := B.exec
  have hb := B.bytes
  have hr := B.returns
  have ht : ∀ w ∈ TT, w.before _ s = true := fun w hw => atoms_spec (ws := .code y_S_check b_S_check 3 (some .int) :: TT) B.pre w (List.mem_cons_of_mem _ hw)
  have hown : s.vm.findClass "SieveDesk" = some m.cls := findClass_of_methodNamed B.named
  have hlocks := B.notSynchronized
  subst hsz
  have hD := hD0.self (sz := s.heap.size)
  generalize hAe : va_A (WE h g 0 (-1) 0 0 0 0 0 0 0 (.ref (k 0)) (.ref (k 0)) 0 0 0 0 0 0 0 (fun _ => 0) (fun _ => 0) (fun _ => 0) (fun _ => none) (fun _ => 0) (fun _ => 0) (fun _ => 0)) s.heap.size = A at hE hD ⊢
  have hA : ∀ q : Nat, s.heap.size ≤ q → A q := fun q h9 => by rw [← hAe]; exact Or.inr h9
  have hS : va_S A s.heap s.heap [] := va_S.rf
  have hl := lv_entry ([.ref (h 0)]) (n := 3) (Nat.le_of_ble_eq_true rfl)
  rw [lg_entry_eq]
  generalize (lg_sl ([.ref (h 0)]) ++ List.replicate (3 - (lg_sl ([.ref (h 0)])).length) Slot.unset).toArray = ls at hl ⊢
  have hl : lv_has ls 3 [(0, .ref (h 0))] := hl
  refine lv_aload_n hx hb d_S_check_0 rfl (lv_at hl 0 rfl) ?_
  refine va_get (D := (dC, dI)) (ci := 0) (v := .ref (h 2)) (C := "SieveDesk") (T := F_S) (N := 5) hx hb ht i_S hown hK hP 0 rfl rfl 1 (by decide) (ht _ k_208) (fun _ h9 => h9) rfl d_S_check_1 ?_
  refine lv_aload_n hx hb d_S_check_4 rfl (lv_at hl 0 rfl) ?_
  refine va_get (D := (dC, dI)) (ci := 0) (v := .int 0) (C := "SieveDesk") (T := F_S) (N := 5) hx hb ht i_S hown hK hP 0 rfl rfl 3 (by decide) (ht _ k_210) (fun _ h9 => h9) rfl d_S_check_5 ?_
  have hFc := va_free (wc := (WE h g 0 (-1) 0 0 0 0 0 0 0 (.ref (k 0)) (.ref (k 0)) 0 0 0 0 0 0 0 (fun _ => 0) (fun _ => 0) (fun _ => 0) (fun _ => none) (fun _ => 0) (fun _ => 0) (fun _ => 0))) hD hS hA [0, 1, 2, 3, 4, 5, 6, 7, 8, 9, 10] rfl
  refine va_callv (va_runVN (As := [.int 0]) (rest := []) ⟨hx, hb, hml, hown, ht⟩ (c_T_scan l dC dI k h g _) ⟨va_cnB 1 ht (g_C k_234) rfl rfl rfl (hE.1 _ n_231) (ht _ k_75) (by decide +kernel) ⟨(Nat.le_of_ble_eq_true rfl), (Nat.le_of_ble_eq_true rfl)⟩, (ht _ k_233), (ht _ k_0)⟩ ⟨fb_X, va_recv hK hP (ci := 1) (q0 := 2) rfl rfl, pre_X hE hS hFc hP hK hD⟩ rfl rfl hl.1 rfl (lv_room (Nat.le_of_ble_eq_true rfl)) d_S_check_8 ⟨(Nat.le_of_ble_eq_true rfl), (Nat.le_of_ble_eq_true rfl)⟩) hS (fun q _ h9 => hFc q h9) hFc (fun u t H locs het hvm hw hB hz1 hk1 hS => ?_)
  obtain ⟨hP1, hK1, hD1⟩ := hB
  rw [het] at hP1
  have hP : va_P (dC, dI) cls (WE h g 0 (-1) 1 0 0 0 0 0 0 (.ref (k 0)) (.ref (k 0)) 0 0 0 0 0 0 0 (fun _ => 0) (upd (fun _ => 0) 0 5) (upd (fun _ => 0) 0 0) (va_up (fun _ => none) 0 (some (k 0))) (upd (fun _ => 0) 0 0) (fun _ => 0) (fun _ => 0)) H := hP1
  have hD : va_D A (WE h g 0 (-1) 1 0 0 0 0 0 0 (.ref (k 0)) (.ref (k 0)) 0 0 0 0 0 0 0 (fun _ => 0) (upd (fun _ => 0) 0 5) (upd (fun _ => 0) 0 0) (va_up (fun _ => none) 0 (some (k 0))) (upd (fun _ => 0) 0 0) (fun _ => 0) (fun _ => 0)) := hD1.weaken (fun _ _ _ h9 => hFc _ h9)
  refine lv_aload_n hx hb d_S_check_11 rfl (lv_at hl 0 rfl) ?_
  refine va_get (D := (dC, dI)) (ci := 0) (v := .ref (h 9)) (C := "SieveDesk") (T := F_S) (N := 5) hx hb ht i_S hown hK hP 0 rfl rfl 2 (by decide) (ht _ k_209) (fun _ h9 => h9) rfl d_S_check_12 ?_
  have hFc := va_free (wc := (WE h g 0 (-1) 1 0 0 0 0 0 0 (.ref (k 0)) (.ref (k 0)) 0 0 0 0 0 0 0 (fun _ => 0) (upd (fun _ => 0) 0 5) (upd (fun _ => 0) 0 0) (va_up (fun _ => none) 0 (some (k 0))) (upd (fun _ => 0) 0 0) (fun _ => 0) (fun _ => 0))) hD hS hA [0, 1, 2, 3, 4, 5, 6, 7, 8, 9, 10] rfl
  refine va_calli (va_runVN (As := []) (rest := []) ⟨hx, hb, hml, hown, ht⟩ (c_G_reads l dC dI k h g _) ⟨va_cnB 0 ht (g_C k_465) rfl rfl rfl (hE.1 _ n_462) (ht _ k_77) (by decide +kernel) ⟨(Nat.le_of_ble_eq_true rfl), (Nat.le_of_ble_eq_true rfl)⟩, (ht _ k_464), (ht _ k_20)⟩ ⟨fb_X, va_recv hK hP (ci := 3) (q0 := 9) rfl rfl, pre_X hE hS hFc hP hK hD⟩ rfl rfl hl.1 rfl (lv_room (Nat.le_of_ble_eq_true rfl)) d_S_check_15 ⟨(Nat.le_of_ble_eq_true rfl), (Nat.le_of_ble_eq_true rfl)⟩) hS (fun q _ h9 => hFc q h9) hFc (fun r_2 u t H locs het hvm hw hB hz1 hk1 hS => ?_)
  obtain ⟨hP1, hK1, hD1⟩ := hB
  rw [het] at hP1
  have hP : va_P (dC, dI) cls (WE h g 0 (-1) 1 0 0 0 0 0 5 (.ref (k 0)) (.ref (k 0)) 0 0 0 0 0 0 0 (fun _ => 0) (upd (fun _ => 0) 0 5) (upd (fun _ => 0) 0 0) (va_up (fun _ => none) 0 (some (k 0))) (upd (fun _ => 0) 0 0) (fun _ => 0) (upd (upd (upd (fun _ => 0) 0 (vp_nar .char 46)) 1 (vp_nar .char 99)) 2 (vp_nar .char 113))) H := hP1
  have hD : va_D A (WE h g 0 (-1) 1 0 0 0 0 0 5 (.ref (k 0)) (.ref (k 0)) 0 0 0 0 0 0 0 (fun _ => 0) (upd (fun _ => 0) 0 5) (upd (fun _ => 0) 0 0) (va_up (fun _ => none) 0 (some (k 0))) (upd (fun _ => 0) 0 0) (fun _ => 0) (upd (upd (upd (fun _ => 0) 0 (vp_nar .char 46)) 1 (vp_nar .char 99)) 2 (vp_nar .char 113))) := hD1.weaken (fun _ _ _ h9 => hFc _ h9)
  subst hw
  refine lv_istore_n (lv' := [(1, .int 1), (0, .ref (h 0))]) hx hb d_S_check_18 rfl hl (by decide) rfl (fun ls hl => ?_)
  refine lv_aload_n hx hb d_S_check_19 rfl (lv_at hl 1 rfl) ?_
  refine lv_iload_n hx hb d_S_check_20 rfl (lv_at hl 0 rfl) ?_
  refine lv_if_eq (tgt := 28) hx hb d_S_check_21 (by decide) (fun cn => absurd cn (by decide)) (fun _ => ?_)
  refine lv_iconst (v := (-1)) hx hb d_S_check_24 (by decide) ?_
  refine lv_goto (tgt := 35) hx hb d_S_check_25 (by decide) ?_
  refine va_put (D := (dC, dI)) (ci := 0) (v := .int (-1)) (ty := .int) (C := "SieveDesk") (T := F_S) (N := 5) hx hb ht i_S ty_S ty_S_ok n_S hown hK hP hD hS 0 rfl rfl 4 (by decide) (ht _ k_211) (fun _ h9 => h9) rfl (ty_S_ok 4 (by decide)) rfl rfl (Nat.le_of_ble_eq_true rfl) d_S_check_35 (fun H locs hP hD hS => ?_)
  have hP : va_P (dC, dI) cls (WE h g 0 (-1) 1 0 0 0 0 0 5 (.ref (k 0)) (.ref (k 0)) 0 0 0 0 0 0 0 (fun _ => 0) (upd (fun _ => 0) 0 5) (upd (fun _ => 0) 0 0) (va_up (fun _ => none) 0 (some (k 0))) (upd (fun _ => 0) 0 0) (fun _ => 0) (upd (upd (upd (fun _ => 0) 0 (vp_nar .char 46)) 1 (vp_nar .char 99)) 2 (vp_nar .char 113))) H := hP
  have hD : va_D A (WE h g 0 (-1) 1 0 0 0 0 0 5 (.ref (k 0)) (.ref (k 0)) 0 0 0 0 0 0 0 (fun _ => 0) (upd (fun _ => 0) 0 5) (upd (fun _ => 0) 0 0) (va_up (fun _ => none) 0 (some (k 0))) (upd (fun _ => 0) 0 0) (fun _ => 0) (upd (upd (upd (fun _ => 0) 0 (vp_nar .char 46)) 1 (vp_nar .char 99)) 2 (vp_nar .char 113))) := hD
  refine lv_iload_n hx hb d_S_check_38 rfl (lv_at hl 0 rfl) ?_
  refine lv_if_eq (tgt := 46) hx hb d_S_check_39 (by decide) (fun cn => absurd cn (by decide)) (fun _ => ?_)
  refine lv_iconst (v := 0) hx hb d_S_check_42 (by decide) ?_
  refine lv_goto (tgt := 54) hx hb d_S_check_43 (by decide) ?_
  refine lv_istore_n (lv' := [(2, .int 0), (1, .int 1), (0, .ref (h 0))]) hx hb d_S_check_54 rfl hl (by decide) rfl (fun ls hl => ?_)
  refine lv_aload_n hx hb d_S_check_55 rfl (lv_at hl 2 rfl) ?_
  refine lv_iconst (v := 0) hx hb d_S_check_56 (by decide) ?_
  refine va_put (D := (dC, dI)) (ci := 0) (v := .int 0) (ty := .int) (C := "SieveDesk") (T := F_S) (N := 5) hx hb ht i_S ty_S ty_S_ok n_S hown hK hP hD hS 0 rfl rfl 3 (by decide) (ht _ k_210) (fun _ h9 => h9) rfl (ty_S_ok 3 (by decide)) rfl rfl (Nat.le_of_ble_eq_true rfl) d_S_check_57 (fun H locs hP hD hS => ?_)
  have hP : va_P (dC, dI) cls (WE h g 0 (-1) 1 0 0 0 0 0 5 (.ref (k 0)) (.ref (k 0)) 0 0 0 0 0 0 0 (fun _ => 0) (upd (fun _ => 0) 0 5) (upd (fun _ => 0) 0 0) (va_up (fun _ => none) 0 (some (k 0))) (upd (fun _ => 0) 0 0) (fun _ => 0) (upd (upd (upd (fun _ => 0) 0 (vp_nar .char 46)) 1 (vp_nar .char 99)) 2 (vp_nar .char 113))) H := hP
  have hD : va_D A (WE h g 0 (-1) 1 0 0 0 0 0 5 (.ref (k 0)) (.ref (k 0)) 0 0 0 0 0 0 0 (fun _ => 0) (upd (fun _ => 0) 0 5) (upd (fun _ => 0) 0 0) (va_up (fun _ => none) 0 (some (k 0))) (upd (fun _ => 0) 0 0) (fun _ => 0) (upd (upd (upd (fun _ => 0) 0 (vp_nar .char 46)) 1 (vp_nar .char 99)) 2 (vp_nar .char 113))) := hD
  refine lv_iload_n hx hb d_S_check_60 rfl (lv_at hl 0 rfl) ?_
  exact W.iret (v := 0) hx hb hr (fun t het hW => ⟨⟨0, (), rfl, rfl, by rw [het]; exact hP, va_K.moved hW.alike hK, hD⟩, hS.F het⟩) hS.2.2 d_S_check_61

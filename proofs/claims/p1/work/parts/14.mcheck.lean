set_option maxHeartbeats 4000000 in
set_option maxRecDepth 100000 in
theorem c_M_peek (l : Launch) (dC : Nat → ClassId) (dI : Nat → Nat → Nat) (k : Nat → Nat) (h : Nat → Nat) (g : Nat → ClassId) (wo : Nat → Int64) (wz : Nat → Int32) (sz : Nat) : Met l y_M_peek (.code y_M_peek b_M_peek 2 (some .int) :: TT) ({ frames := 0, cells := 0, slots := 0, locals := 0 }) (va_Pc [.ref (h 0), .int 0] (PX dC dI k (TM g) (ME h g 0 0 0 0 0 (-1) 0 0 0 0 0 0 0 wo wz (fun _ => 0) (fun _ => 0) (fun _ => 0) (fun _ => 0)) sz)) (va_Qi (fun (r : Int32) (_ : Unit) => r = (-1)) (fun _ t => BX dC dI (TM g) (va_A (ME h g 0 0 0 0 0 (-1) 0 0 0 0 0 0 0 wo wz (fun _ => 0) (fun _ => 0) (fun _ => 0) (fun _ => 0)) sz) (ME h g 0 0 0 0 0 (-1) 0 0 0 0 0 0 0 wo wz (fun _ => 0) (fun _ => 0) (fun _ => 0) (fun _ => 0)) t) (va_A (ME h g 0 0 0 0 0 (-1) 0 0 0 0 0 0 0 wo wz (fun _ => 0) (fun _ => 0) (fun _ => 0) (fun _ => 0)) sz)) 0 0 (va_A (ME h g 0 0 0 0 0 (-1) 0 0 0 0 0 0 0 wo wz (fun _ => 0) (fun _ => 0) (fun _ => 0) (fun _ => 0)) sz) := by
  refine Met.ofW (cc := b_M_peek) (maxL := 2) (ret := (some .int)) (by decide) rfl ?_
  intro p e s m args below meth c s₁ B hml hv
  obtain ⟨rfl, hsz, hE, hP, hK, hD0⟩ := hv
  have hx := B.exec
  have hb := B.bytes
  have hr := B.returns
  have ht : ∀ w ∈ TT, w.before _ s = true := fun w hw => atoms_spec (ws := .code y_M_peek b_M_peek 2 (some .int) :: TT) B.pre w (List.mem_cons_of_mem _ hw)
  have hown : s.vm.findClass "SieveDeskModel" = some m.cls := findClass_of_methodNamed B.named
  have hlocks := B.notSynchronized
  subst hsz
  have hD := hD0.self (sz := s.heap.size)
  generalize hAe : va_A (ME h g 0 0 0 0 0 (-1) 0 0 0 0 0 0 0 wo wz (fun _ => 0) (fun _ => 0) (fun _ => 0) (fun _ => 0)) s.heap.size = A at hE hD ⊢
  have hA : ∀ q : Nat, s.heap.size ≤ q → A q := fun q h9 => by rw [← hAe]; exact Or.inr h9
  have hS : va_S A s.heap s.heap [] := va_S.rf
  have hl := lv_entry ([.ref (h 0), .int 0]) (n := 2) (Nat.le_of_ble_eq_true rfl)
  rw [lg_entry_eq]
  generalize (lg_sl ([.ref (h 0), .int 0]) ++ List.replicate (2 - (lg_sl ([.ref (h 0), .int 0])).length) Slot.unset).toArray = ls at hl ⊢
  have hl : lv_has ls 2 [(0, .ref (h 0)), (1, .int 0)] := hl
  refine lv_aload_n hx hb d_M_peek_0 rfl (lv_at hl 0 rfl) ?_
  refine va_get (D := (dC, dI)) (ci := 4) (v := .int 0) (C := "SieveDeskModel") (T := F_M) (N := 19) hx hb ht i_M hown hK hP 0 rfl rfl 4 (by decide) (ht _ k_631) (fun _ h9 => h9) rfl d_M_peek_1 ?_
  refine lv_iload_n hx hb d_M_peek_4 rfl (lv_at hl 1 rfl) ?_
  refine lv_iadd hx hb d_M_peek_5 ?_
  refine lv_ev (show (0 : Int32) + 0 = 0 by decide) ?_
  refine lv_aload_n hx hb d_M_peek_6 rfl (lv_at hl 0 rfl) ?_
  refine va_get (D := (dC, dI)) (ci := 4) (v := .int 0) (C := "SieveDeskModel") (T := F_M) (N := 19) hx hb ht i_M hown hK hP 0 rfl rfl 3 (by decide) (ht _ k_630) (fun _ h9 => h9) rfl d_M_peek_7 ?_
  refine lv_icmp_ge (tgt := 27) hx hb d_M_peek_10 (by decide) (fun _ => ?_) (fun cn => absurd (by decide) cn)
  refine lv_iconst (v := (-1)) hx hb d_M_peek_27 (by decide) ?_
  exact W.iret (v := (-1)) hx hb hr (fun t het hW => ⟨⟨(-1), (), rfl, rfl, by rw [het]; exact hP, va_K.moved hW.alike hK, hD⟩, hS.F het⟩) hS.2.2 d_M_peek_28
set_option maxHeartbeats 4000000 in
set_option maxRecDepth 100000 in
theorem c_M_skip (l : Launch) (dC : Nat → ClassId) (dI : Nat → Nat → Nat) (k : Nat → Nat) (h : Nat → Nat) (g : Nat → ClassId) (wo : Nat → Int64) (wz : Nat → Int32) (sz : Nat) : Met l y_M_skip (.code y_M_skip b_M_skip 4 (some .boolean) :: TT) ({ frames := 1, cells := 0, slots := 0, locals := 21 }) (va_Pc [.ref (h 0)] (PX dC dI k (TM g) (ME h g 0 0 0 0 0 (-1) 0 0 0 0 0 0 0 wo wz (fun _ => 0) (fun _ => 0) (fun _ => 0) (fun _ => 0)) sz)) (va_Qi (fun (r : Int32) (_ : Unit) => r = 1) (fun _ t => BX dC dI (TM g) (va_A (ME h g 0 0 0 0 0 (-1) 0 0 0 0 0 0 0 wo wz (fun _ => 0) (fun _ => 0) (fun _ => 0) (fun _ => 0)) sz) (ME h g 0 0 0 0 0 (-1) 0 0 0 0 0 0 0 wo wz (fun _ => 0) (fun _ => 0) (fun _ => 0) (fun _ => 0)) t) (va_A (ME h g 0 0 0 0 0 (-1) 0 0 0 0 0 0 0 wo wz (fun _ => 0) (fun _ => 0) (fun _ => 0) (fun _ => 0)) sz)) 0 0 (va_A (ME h g 0 0 0 0 0 (-1) 0 0 0 0 0 0 0 wo wz (fun _ => 0) (fun _ => 0) (fun _ => 0) (fun _ => 0)) sz) := by
  refine Met.ofW (cc := b_M_skip) (maxL := 4) (ret := (some .boolean)) (by decide) rfl ?_
  intro p e s m args below meth c s₁ B hml hv
  obtain ⟨rfl, hsz, hE, hP, hK, hD0⟩ := hv
  have hx := B.exec
  have hb := B.bytes
  have hr := B.returns
  have ht : ∀ w ∈ TT, w.before _ s = true := fun w hw => atoms_spec (ws := .code y_M_skip b_M_skip 4 (some .boolean) :: TT) B.pre w (List.mem_cons_of_mem _ hw)
  have hown : s.vm.findClass "SieveDeskModel" = some m.cls := findClass_of_methodNamed B.named
  have hlocks := B.notSynchronized
  subst hsz
  have hD := hD0.self (sz := s.heap.size)
  generalize hAe : va_A (ME h g 0 0 0 0 0 (-1) 0 0 0 0 0 0 0 wo wz (fun _ => 0) (fun _ => 0) (fun _ => 0) (fun _ => 0)) s.heap.size = A at hE hD ⊢
  have hA : ∀ q : Nat, s.heap.size ≤ q → A q := fun q h9 => by rw [← hAe]; exact Or.inr h9
  have hS : va_S A s.heap s.heap [] := va_S.rf
  have hl := lv_entry ([.ref (h 0)]) (n := 4) (Nat.le_of_ble_eq_true rfl)
  rw [lg_entry_eq]
  generalize (lg_sl ([.ref (h 0)]) ++ List.replicate (4 - (lg_sl ([.ref (h 0)])).length) Slot.unset).toArray = ls at hl ⊢
  have hl : lv_has ls 4 [(0, .ref (h 0))] := hl
  refine lv_iconst (v := 1) hx hb d_M_skip_0 (by decide) ?_
  refine lv_istore_n (lv' := [(1, .int 1), (0, .ref (h 0))]) hx hb d_M_skip_1 rfl hl (by decide) rfl (fun ls hl => ?_)
  refine lv_iload_n hx hb d_M_skip_2 rfl (lv_at hl 0 rfl) ?_
  refine lv_if_eq (tgt := 177) hx hb d_M_skip_3 (by decide) (fun cn => absurd cn (by decide)) (fun _ => ?_)
  refine lv_aload_n hx hb d_M_skip_6 rfl (lv_at hl 1 rfl) ?_
  refine lv_iconst (v := 0) hx hb d_M_skip_7 (by decide) ?_
  have hFc := va_free (wc := (ME h g 0 0 0 0 0 (-1) 0 0 0 0 0 0 0 wo wz (fun _ => 0) (fun _ => 0) (fun _ => 0) (fun _ => 0))) hD hS hA [0, 1, 2, 3, 4, 5, 6] rfl
  refine va_calli (va_runV (As := [.int 0]) (rest := []) ⟨hx, hb, hml, hown, ht⟩ (c_M_peek l dC dI k h g wo wz _) (cwV 1 ht (g_V k_702 k_704 k_39 k_80 k_705) rfl rfl rfl (by decide +kernel) ⟨(Nat.le_of_ble_eq_true rfl), (Nat.le_of_ble_eq_true rfl)⟩) ⟨fb_X, va_recv hK hP (ci := 4) (q0 := 0) rfl rfl, pre_X hE hS hFc hP hK hD⟩ rfl rfl hl.1 rfl (lv_room (Nat.le_of_ble_eq_true rfl)) d_M_skip_8 ⟨(Nat.le_of_ble_eq_true rfl), (Nat.le_of_ble_eq_true rfl)⟩) hS (fun q _ h9 => hFc q h9) hFc (fun r_1 u t H locs het hvm hw hB hz1 hk1 hS => ?_)
  obtain ⟨hP1, hK1, hD1⟩ := hB
  rw [het] at hP1
  have hP : va_P (dC, dI) cls (ME h g 0 0 0 0 0 (-1) 0 0 0 0 0 0 0 wo wz (fun _ => 0) (fun _ => 0) (fun _ => 0) (fun _ => 0)) H := hP1
  have hD : va_D A (ME h g 0 0 0 0 0 (-1) 0 0 0 0 0 0 0 wo wz (fun _ => 0) (fun _ => 0) (fun _ => 0) (fun _ => 0)) := hD1.weaken (fun _ _ _ h9 => hFc _ h9)
  subst hw
  refine lv_istore_n (lv' := [(2, .int (-1)), (1, .int 1), (0, .ref (h 0))]) hx hb d_M_skip_11 rfl hl (by decide) rfl (fun ls hl => ?_)
  refine lv_iload_n hx hb d_M_skip_12 rfl (lv_at hl 0 rfl) ?_
  refine lv_bipush (v := 9) hx hb d_M_skip_13 (by decide) ?_
  refine lv_icmp_eq (tgt := 36) hx hb d_M_skip_15 (by decide) (fun cn => absurd cn (by decide)) (fun _ => ?_)
  refine lv_iload_n hx hb d_M_skip_18 rfl (lv_at hl 0 rfl) ?_
  refine lv_bipush (v := 10) hx hb d_M_skip_19 (by decide) ?_
  refine lv_icmp_eq (tgt := 36) hx hb d_M_skip_21 (by decide) (fun cn => absurd cn (by decide)) (fun _ => ?_)
  refine lv_iload_n hx hb d_M_skip_24 rfl (lv_at hl 0 rfl) ?_
  refine lv_bipush (v := 13) hx hb d_M_skip_25 (by decide) ?_
  refine lv_icmp_eq (tgt := 36) hx hb d_M_skip_27 (by decide) (fun cn => absurd cn (by decide)) (fun _ => ?_)
  refine lv_iload_n hx hb d_M_skip_30 rfl (lv_at hl 0 rfl) ?_
  refine lv_bipush (v := 32) hx hb d_M_skip_31 (by decide) ?_
  refine lv_icmp_ne (tgt := 49) hx hb d_M_skip_33 (by decide) (fun _ => ?_) (fun cn => absurd cn (by decide))
  refine lv_iload_n hx hb d_M_skip_49 rfl (lv_at hl 0 rfl) ?_
  refine lv_bipush (v := 35) hx hb d_M_skip_50 (by decide) ?_
  refine lv_icmp_ne (tgt := 86) hx hb d_M_skip_52 (by decide) (fun _ => ?_) (fun cn => absurd cn (by decide))
  refine lv_iload_n hx hb d_M_skip_86 rfl (lv_at hl 0 rfl) ?_
  refine lv_bipush (v := 47) hx hb d_M_skip_87 (by decide) ?_
  refine lv_icmp_ne (tgt := 172) hx hb d_M_skip_89 (by decide) (fun _ => ?_) (fun cn => absurd cn (by decide))
  refine lv_iconst (v := 0) hx hb d_M_skip_172 (by decide) ?_
  refine lv_istore_n (lv' := [(1, .int 0), (2, .int (-1)), (0, .ref (h 0))]) hx hb d_M_skip_173 rfl hl (by decide) rfl (fun ls hl => ?_)
  refine lv_goto (tgt := 2) hx hb d_M_skip_174 (by decide) ?_
  refine lv_iload_n hx hb d_M_skip_2 rfl (lv_at hl 0 rfl) ?_
  refine lv_if_eq (tgt := 177) hx hb d_M_skip_3 (by decide) (fun _ => ?_) (fun cn => absurd (by decide) cn)
  refine lv_iconst (v := 1) hx hb d_M_skip_177 (by decide) ?_
  exact W.zret (v := 1) hx hb hr rfl (fun t het hW => ⟨⟨1, (), rfl, rfl, by rw [het]; exact hP, va_K.moved hW.alike hK, hD⟩, hS.F het⟩) hS.2.2 d_M_skip_178
set_option maxHeartbeats 4000000 in
set_option maxRecDepth 100000 in
theorem c_M_begin (l : Launch) (dC : Nat → ClassId) (dI : Nat → Nat → Nat) (k : Nat → Nat) (h : Nat → Nat) (g : Nat → ClassId) (wo : Nat → Int64) (wz : Nat → Int32) (sz : Nat) : Met l y_M_begin (.code y_M_begin b_M_begin 2 none :: TT) ({ frames := 0, cells := 0, slots := 0, locals := 0 }) (va_Pc [.ref (h 0)] (PX dC dI k (TM g) (ME h g 0 0 0 0 0 (-1) 0 0 0 0 0 0 0 wo wz (fun _ => 0) (fun _ => 0) (fun _ => 0) (fun _ => 0)) sz)) (va_Qv (fun _ : Unit => True) (fun _ t => BX dC dI (TM g) (va_A (ME h g 0 0 0 0 0 (-1) 0 0 0 0 0 0 0 wo wz (fun _ => 0) (fun _ => 0) (fun _ => 0) (fun _ => 0)) sz) (ME h g 0 0 0 0 0 (-1) 0 0 0 0 0 0 0 wo wz (fun _ => 0) (vp_updL (vp_updL (vp_updL (vp_updL (fun _ => 0) 0 0) 1 0) 2 0) 3 0) (fun _ => 0) (fun _ => 0)) t) (va_A (ME h g 0 0 0 0 0 (-1) 0 0 0 0 0 0 0 wo wz (fun _ => 0) (fun _ => 0) (fun _ => 0) (fun _ => 0)) sz)) 0 0 (va_A (ME h g 0 0 0 0 0 (-1) 0 0 0 0 0 0 0 wo wz (fun _ => 0) (fun _ => 0) (fun _ => 0) (fun _ => 0)) sz) := by
  refine Met.ofW (cc := b_M_begin) (maxL := 2) (ret := none) (by decide) rfl ?_
  intro p e s m args below meth c s₁ B hml hv
  obtain ⟨rfl, hsz, hE, hP, hK, hD0⟩ := hv
  have hx := B.exec
  have hb := B.bytes
  have hr := B.returns
  have ht : ∀ w ∈ TT, w.before _ s = true := fun w hw => atoms_spec (ws := .code y_M_begin b_M_begin 2 none :: TT) B.pre w (List.mem_cons_of_mem _ hw)
  have hown : s.vm.findClass "SieveDeskModel" = some m.cls := findClass_of_methodNamed B.named
  have hlocks := B.notSynchronized
  subst hsz
  have hD := hD0.self (sz := s.heap.size)
  generalize hAe : va_A (ME h g 0 0 0 0 0 (-1) 0 0 0 0 0 0 0 wo wz (fun _ => 0) (fun _ => 0) (fun _ => 0) (fun _ => 0)) s.heap.size = A at hE hD ⊢
  have hA : ∀ q : Nat, s.heap.size ≤ q → A q := fun q h9 => by rw [← hAe]; exact Or.inr h9
  have hS : va_S A s.heap s.heap [] := va_S.rf
  have hl := lv_entry ([.ref (h 0)]) (n := 2) (Nat.le_of_ble_eq_true rfl)
  rw [lg_entry_eq]
  generalize (lg_sl ([.ref (h 0)]) ++ List.replicate (2 - (lg_sl ([.ref (h 0)])).length) Slot.unset).toArray = ls at hl ⊢
  have hl : lv_has ls 2 [(0, .ref (h 0))] := hl
  refine lv_aload_n hx hb d_M_begin_0 rfl (lv_at hl 0 rfl) ?_
  refine lv_iconst (v := 0) hx hb d_M_begin_1 (by decide) ?_
  refine va_put (D := (dC, dI)) (ci := 4) (v := .int 0) (ty := .int) (C := "SieveDeskModel") (T := F_M) (N := 19) hx hb ht i_M ty_M ty_M_ok n_M hown hK hP hD hS 0 rfl rfl 7 (by decide) (ht _ k_634) (fun _ h9 => h9) rfl (ty_M_ok 7 (by decide)) rfl rfl (Nat.le_of_ble_eq_true rfl) d_M_begin_2 (fun H locs hP hD hS => ?_)
  have hP : va_P (dC, dI) cls (ME h g 0 0 0 0 0 (-1) 0 0 0 0 0 0 0 wo wz (fun _ => 0) (fun _ => 0) (fun _ => 0) (fun _ => 0)) H := hP
  have hD : va_D A (ME h g 0 0 0 0 0 (-1) 0 0 0 0 0 0 0 wo wz (fun _ => 0) (fun _ => 0) (fun _ => 0) (fun _ => 0)) := hD
  refine lv_iconst (v := 0) hx hb d_M_begin_5 (by decide) ?_
  refine lv_istore_n (lv' := [(1, .int 0), (0, .ref (h 0))]) hx hb d_M_begin_6 rfl hl (by decide) rfl (fun ls hl => ?_)
  refine lv_iload_n hx hb d_M_begin_7 rfl (lv_at hl 0 rfl) ?_
  refine lv_iconst (v := 4) hx hb d_M_begin_8 (by decide) ?_
  refine lv_icmp_ge (tgt := 25) hx hb d_M_begin_9 (by decide) (fun cn => absurd cn (by decide)) (fun _ => ?_)
  refine lv_aload_n hx hb d_M_begin_12 rfl (lv_at hl 1 rfl) ?_
  refine va_get (D := (dC, dI)) (ci := 4) (v := .ref (h 4)) (C := "SieveDeskModel") (T := F_M) (N := 19) hx hb ht i_M hown hK hP 0 rfl rfl 8 (by decide) (ht _ k_635) (fun _ h9 => h9) rfl d_M_begin_13 ?_
  refine lv_iload_n hx hb d_M_begin_16 rfl (lv_at hl 0 rfl) ?_
  refine lv_lconst (v := 0) hx hb d_M_begin_17 (by decide) ?_
  refine va_last hx hb hK hP hD hS 4 3 rfl rfl (by unfold vp_in; decide) d_M_begin_18 (fun H locs hP hD hS => ?_)
  have hP : va_P (dC, dI) cls (ME h g 0 0 0 0 0 (-1) 0 0 0 0 0 0 0 wo wz (fun _ => 0) (vp_updL (fun _ => 0) 0 0) (fun _ => 0) (fun _ => 0)) H := hP
  have hD : va_D A (ME h g 0 0 0 0 0 (-1) 0 0 0 0 0 0 0 wo wz (fun _ => 0) (vp_updL (fun _ => 0) 0 0) (fun _ => 0) (fun _ => 0)) := hD
  refine lv_iinc (v := 1) (lv' := [(1, .int 1), (0, .ref (h 0))]) hx hb d_M_begin_19 hl (k := 0) rfl (by decide) (by decide) rfl (fun ls hl => ?_)
  refine lv_goto (tgt := 7) hx hb d_M_begin_22 (by decide) ?_
  refine lv_iload_n hx hb d_M_begin_7 rfl (lv_at hl 0 rfl) ?_
  refine lv_iconst (v := 4) hx hb d_M_begin_8 (by decide) ?_
  refine lv_icmp_ge (tgt := 25) hx hb d_M_begin_9 (by decide) (fun cn => absurd cn (by decide)) (fun _ => ?_)
  refine lv_aload_n hx hb d_M_begin_12 rfl (lv_at hl 1 rfl) ?_
  refine va_get (D := (dC, dI)) (ci := 4) (v := .ref (h 4)) (C := "SieveDeskModel") (T := F_M) (N := 19) hx hb ht i_M hown hK hP 0 rfl rfl 8 (by decide) (ht _ k_635) (fun _ h9 => h9) rfl d_M_begin_13 ?_
  refine lv_iload_n hx hb d_M_begin_16 rfl (lv_at hl 0 rfl) ?_
  refine lv_lconst (v := 0) hx hb d_M_begin_17 (by decide) ?_
  refine va_last hx hb hK hP hD hS 4 3 rfl rfl (by unfold vp_in; decide) d_M_begin_18 (fun H locs hP hD hS => ?_)
  have hP : va_P (dC, dI) cls (ME h g 0 0 0 0 0 (-1) 0 0 0 0 0 0 0 wo wz (fun _ => 0) (vp_updL (vp_updL (fun _ => 0) 0 0) 1 0) (fun _ => 0) (fun _ => 0)) H := hP
  have hD : va_D A (ME h g 0 0 0 0 0 (-1) 0 0 0 0 0 0 0 wo wz (fun _ => 0) (vp_updL (vp_updL (fun _ => 0) 0 0) 1 0) (fun _ => 0) (fun _ => 0)) := hD
  refine lv_iinc (v := 2) (lv' := [(1, .int 2), (0, .ref (h 0))]) hx hb d_M_begin_19 hl (k := 0) rfl (by decide) (by decide) rfl (fun ls hl => ?_)
  refine lv_goto (tgt := 7) hx hb d_M_begin_22 (by decide) ?_
  refine lv_iload_n hx hb d_M_begin_7 rfl (lv_at hl 0 rfl) ?_
  refine lv_iconst (v := 4) hx hb d_M_begin_8 (by decide) ?_
  refine lv_icmp_ge (tgt := 25) hx hb d_M_begin_9 (by decide) (fun cn => absurd cn (by decide)) (fun _ => ?_)
  refine lv_aload_n hx hb d_M_begin_12 rfl (lv_at hl 1 rfl) ?_
  refine va_get (D := (dC, dI)) (ci := 4) (v := .ref (h 4)) (C := "SieveDeskModel") (T := F_M) (N := 19) hx hb ht i_M hown hK hP 0 rfl rfl 8 (by decide) (ht _ k_635) (fun _ h9 => h9) rfl d_M_begin_13 ?_
  refine lv_iload_n hx hb d_M_begin_16 rfl (lv_at hl 0 rfl) ?_
  refine lv_lconst (v := 0) hx hb d_M_begin_17 (by decide) ?_
  refine va_last hx hb hK hP hD hS 4 3 rfl rfl (by unfold vp_in; decide) d_M_begin_18 (fun H locs hP hD hS => ?_)
  have hP : va_P (dC, dI) cls (ME h g 0 0 0 0 0 (-1) 0 0 0 0 0 0 0 wo wz (fun _ => 0) (vp_updL (vp_updL (vp_updL (fun _ => 0) 0 0) 1 0) 2 0) (fun _ => 0) (fun _ => 0)) H := hP
  have hD : va_D A (ME h g 0 0 0 0 0 (-1) 0 0 0 0 0 0 0 wo wz (fun _ => 0) (vp_updL (vp_updL (vp_updL (fun _ => 0) 0 0) 1 0) 2 0) (fun _ => 0) (fun _ => 0)) := hD
  refine lv_iinc (v := 3) (lv' := [(1, .int 3), (0, .ref (h 0))]) hx hb d_M_begin_19 hl (k := 0) rfl (by decide) (by decide) rfl (fun ls hl => ?_)
  refine lv_goto (tgt := 7) hx hb d_M_begin_22 (by decide) ?_
  refine lv_iload_n hx hb d_M_begin_7 rfl (lv_at hl 0 rfl) ?_
  refine lv_iconst (v := 4) hx hb d_M_begin_8 (by decide) ?_
  refine lv_icmp_ge (tgt := 25) hx hb d_M_begin_9 (by decide) (fun cn => absurd cn (by decide)) (fun _ => ?_)
  refine lv_aload_n hx hb d_M_begin_12 rfl (lv_at hl 1 rfl) ?_
  refine va_get (D := (dC, dI)) (ci := 4) (v := .ref (h 4)) (C := "SieveDeskModel") (T := F_M) (N := 19) hx hb ht i_M hown hK hP 0 rfl rfl 8 (by decide) (ht _ k_635) (fun _ h9 => h9) rfl d_M_begin_13 ?_
  refine lv_iload_n hx hb d_M_begin_16 rfl (lv_at hl 0 rfl) ?_
  refine lv_lconst (v := 0) hx hb d_M_begin_17 (by decide) ?_
  refine va_last hx hb hK hP hD hS 4 3 rfl rfl (by unfold vp_in; decide) d_M_begin_18 (fun H locs hP hD hS => ?_)
  have hP : va_P (dC, dI) cls (ME h g 0 0 0 0 0 (-1) 0 0 0 0 0 0 0 wo wz (fun _ => 0) (vp_updL (vp_updL (vp_updL (vp_updL (fun _ => 0) 0 0) 1 0) 2 0) 3 0) (fun _ => 0) (fun _ => 0)) H := hP
  have hD : va_D A (ME h g 0 0 0 0 0 (-1) 0 0 0 0 0 0 0 wo wz (fun _ => 0) (vp_updL (vp_updL (vp_updL (vp_updL (fun _ => 0) 0 0) 1 0) 2 0) 3 0) (fun _ => 0) (fun _ => 0)) := hD
  refine lv_iinc (v := 4) (lv' := [(1, .int 4), (0, .ref (h 0))]) hx hb d_M_begin_19 hl (k := 0) rfl (by decide) (by decide) rfl (fun ls hl => ?_)
  refine lv_goto (tgt := 7) hx hb d_M_begin_22 (by decide) ?_
  refine lv_iload_n hx hb d_M_begin_7 rfl (lv_at hl 0 rfl) ?_
  refine lv_iconst (v := 4) hx hb d_M_begin_8 (by decide) ?_
  refine lv_icmp_ge (tgt := 25) hx hb d_M_begin_9 (by decide) (fun _ => ?_) (fun cn => absurd (by decide) cn)
  exact W.vret hx hb hr (fun t het hW => ⟨⟨(), rfl, trivial, by rw [het]; exact hP, va_K.moved hW.alike hK, hD⟩, hS.F het⟩) hS.2.2 d_M_begin_25
set_option maxHeartbeats 4000000 in
set_option maxRecDepth 100000 in
theorem c_M_token (l : Launch) (dC : Nat → ClassId) (dI : Nat → Nat → Nat) (k : Nat → Nat) (h : Nat → Nat) (g : Nat → ClassId) (wo : Nat → Int64) (wz : Nat → Int32) (sz : Nat) : Met l y_M_token (.code y_M_token b_M_token 3 (some .int) :: TT) ({ frames := 1, cells := 0, slots := 0, locals := 21 }) (va_Pc [.ref (h 0)] (PX dC dI k (TM g) (ME h g 0 0 0 0 0 (-1) 0 0 0 0 0 0 0 wo wz (fun _ => 0) (fun _ => 0) (fun _ => 0) (fun _ => 0)) sz)) (va_Qi (fun (r : Int32) (_ : Unit) => r = 0) (fun _ t => BX dC dI (TM g) (va_A (ME h g 0 0 0 0 0 (-1) 0 0 0 0 0 0 0 wo wz (fun _ => 0) (fun _ => 0) (fun _ => 0) (fun _ => 0)) sz) (ME h g 0 0 0 0 0 (-1) 0 0 0 0 0 0 0 wo wz (fun _ => 0) (vp_updL (vp_updL (vp_updL (vp_updL (fun _ => 0) 0 0) 1 0) 2 0) 3 0) (fun _ => 0) (fun _ => 0)) t) (va_A (ME h g 0 0 0 0 0 (-1) 0 0 0 0 0 0 0 wo wz (fun _ => 0) (fun _ => 0) (fun _ => 0) (fun _ => 0)) sz)) 0 0 (va_A (ME h g 0 0 0 0 0 (-1) 0 0 0 0 0 0 0 wo wz (fun _ => 0) (fun _ => 0) (fun _ => 0) (fun _ => 0)) sz) := by
  refine Met.ofW (cc := b_M_token) (maxL := 3) (ret := (some .int)) (by decide) rfl ?_
  intro p e s m args below meth c s₁ B hml hv
  obtain ⟨rfl, hsz, hE, hP, hK, hD0⟩ := hv
  have hx := B.exec
  have hb := B.bytes
  have hr := B.returns
  have ht : ∀ w ∈ TT, w.before _ s = true := fun w hw => atoms_spec (ws := .code y_M_token b_M_token 3 (some .int) :: TT) B.pre w (List.mem_cons_of_mem _ hw)
  have hown : s.vm.findClass "SieveDeskModel" = some m.cls := findClass_of_methodNamed B.named
  have hlocks := B.notSynchronized
  subst hsz
  have hD := hD0.self (sz := s.heap.size)
  generalize hAe : va_A (ME h g 0 0 0 0 0 (-1) 0 0 0 0 0 0 0 wo wz (fun _ => 0) (fun _ => 0) (fun _ => 0) (fun _ => 0)) s.heap.size = A at hE hD ⊢
  have hA : ∀ q : Nat, s.heap.size ≤ q → A q := fun q h9 => by rw [← hAe]; exact Or.inr h9
  have hS : va_S A s.heap s.heap [] := va_S.rf
  have hl := lv_entry ([.ref (h 0)]) (n := 3) (Nat.le_of_ble_eq_true rfl)
  rw [lg_entry_eq]
  generalize (lg_sl ([.ref (h 0)]) ++ List.replicate (3 - (lg_sl ([.ref (h 0)])).length) Slot.unset).toArray = ls at hl ⊢
  have hl : lv_has ls 3 [(0, .ref (h 0))] := hl
  refine lv_aload_n hx hb d_M_token_0 rfl (lv_at hl 0 rfl) ?_
  refine lv_iconst (v := 0) hx hb d_M_token_1 (by decide) ?_
  have hFc := va_free (wc := (ME h g 0 0 0 0 0 (-1) 0 0 0 0 0 0 0 wo wz (fun _ => 0) (fun _ => 0) (fun _ => 0) (fun _ => 0))) hD hS hA [0, 1, 2, 3, 4, 5, 6] rfl
  refine va_calli (va_runV (As := [.int 0]) (rest := []) ⟨hx, hb, hml, hown, ht⟩ (c_M_peek l dC dI k h g wo wz _) (cwV 1 ht (g_V k_702 k_704 k_39 k_80 k_705) rfl rfl rfl (by decide +kernel) ⟨(Nat.le_of_ble_eq_true rfl), (Nat.le_of_ble_eq_true rfl)⟩) ⟨fb_X, va_recv hK hP (ci := 4) (q0 := 0) rfl rfl, pre_X hE hS hFc hP hK hD⟩ rfl rfl hl.1 rfl (lv_room (Nat.le_of_ble_eq_true rfl)) d_M_token_2 ⟨(Nat.le_of_ble_eq_true rfl), (Nat.le_of_ble_eq_true rfl)⟩) hS (fun q _ h9 => hFc q h9) hFc (fun r_1 u t H locs het hvm hw hB hz1 hk1 hS => ?_)
  obtain ⟨hP1, hK1, hD1⟩ := hB
  rw [het] at hP1
  have hP : va_P (dC, dI) cls (ME h g 0 0 0 0 0 (-1) 0 0 0 0 0 0 0 wo wz (fun _ => 0) (fun _ => 0) (fun _ => 0) (fun _ => 0)) H := hP1
  have hD : va_D A (ME h g 0 0 0 0 0 (-1) 0 0 0 0 0 0 0 wo wz (fun _ => 0) (fun _ => 0) (fun _ => 0) (fun _ => 0)) := hD1.weaken (fun _ _ _ h9 => hFc _ h9)
  subst hw
  refine lv_istore_n (lv' := [(1, .int (-1)), (0, .ref (h 0))]) hx hb d_M_token_5 rfl hl (by decide) rfl (fun ls hl => ?_)
  refine lv_aload_n hx hb d_M_token_6 rfl (lv_at hl 1 rfl) ?_
  have hFc := va_free (wc := (ME h g 0 0 0 0 0 (-1) 0 0 0 0 0 0 0 wo wz (fun _ => 0) (fun _ => 0) (fun _ => 0) (fun _ => 0))) hD hS hA [0, 1, 2, 3, 4, 5, 6] rfl
  refine va_callv (va_runV (As := []) (rest := []) ⟨hx, hb, hml, hown, ht⟩ (c_M_begin l dC dI k h g wo wz _) (cwV 0 ht (g_V k_710 k_712 k_41 k_80 k_713) rfl rfl rfl (by decide +kernel) ⟨(Nat.le_of_ble_eq_true rfl), (Nat.le_of_ble_eq_true rfl)⟩) ⟨fb_X, va_recv hK hP (ci := 4) (q0 := 0) rfl rfl, pre_X hE hS hFc hP hK hD⟩ rfl rfl hl.1 rfl (lv_room (Nat.le_of_ble_eq_true rfl)) d_M_token_7 ⟨(Nat.le_of_ble_eq_true rfl), (Nat.le_of_ble_eq_true rfl)⟩) hS (fun q _ h9 => hFc q h9) hFc (fun u t H locs het hvm hw hB hz1 hk1 hS => ?_)
  obtain ⟨hP1, hK1, hD1⟩ := hB
  rw [het] at hP1
  have hP : va_P (dC, dI) cls (ME h g 0 0 0 0 0 (-1) 0 0 0 0 0 0 0 wo wz (fun _ => 0) (vp_updL (vp_updL (vp_updL (vp_updL (fun _ => 0) 0 0) 1 0) 2 0) 3 0) (fun _ => 0) (fun _ => 0)) H := hP1
  have hD : va_D A (ME h g 0 0 0 0 0 (-1) 0 0 0 0 0 0 0 wo wz (fun _ => 0) (vp_updL (vp_updL (vp_updL (vp_updL (fun _ => 0) 0 0) 1 0) 2 0) 3 0) (fun _ => 0) (fun _ => 0)) := hD1.weaken (fun _ _ _ h9 => hFc _ h9)
  refine lv_iload_n hx hb d_M_token_10 rfl (lv_at hl 0 rfl) ?_
  refine lv_if_ge (tgt := 16) hx hb d_M_token_11 (by decide) (fun cn => absurd cn (by decide)) (fun _ => ?_)
  refine lv_iconst (v := 0) hx hb d_M_token_14 (by decide) ?_
  exact W.iret (v := 0) hx hb hr (fun t het hW => ⟨⟨0, (), rfl, rfl, by rw [het]; exact hP, va_K.moved hW.alike hK, hD⟩, hS.F het⟩) hS.2.2 d_M_token_15
set_option maxHeartbeats 4000000 in
set_option maxRecDepth 100000 in
theorem c_M_next (l : Launch) (dC : Nat → ClassId) (dI : Nat → Nat → Nat) (k : Nat → Nat) (h : Nat → Nat) (g : Nat → ClassId) (wo : Nat → Int64) (wz : Nat → Int32) (sz : Nat) : Met l y_M_next (.code y_M_next b_M_next 2 none :: TT) ({ frames := 2, cells := 0, slots := 0, locals := 44 }) (va_Pc [.ref (h 0)] (PX dC dI k (TM g) (ME h g 0 0 0 0 0 (-1) 0 0 0 0 0 0 0 wo wz (fun _ => 0) (fun _ => 0) (fun _ => 0) (fun _ => 0)) sz)) (va_Qv (fun _ : Unit => True) (fun _ t => BX dC dI (TM g) (va_A (ME h g 0 0 0 0 0 (-1) 0 0 0 0 0 0 0 wo wz (fun _ => 0) (fun _ => 0) (fun _ => 0) (fun _ => 0)) sz) (ME h g 0 0 0 0 0 (-1) 0 0 0 0 0 0 0 wo wz (fun _ => 0) (vp_updL (vp_updL (vp_updL (vp_updL (fun _ => 0) 0 0) 1 0) 2 0) 3 0) (fun _ => 0) (fun _ => 0)) t) (va_A (ME h g 0 0 0 0 0 (-1) 0 0 0 0 0 0 0 wo wz (fun _ => 0) (fun _ => 0) (fun _ => 0) (fun _ => 0)) sz)) 0 0 (va_A (ME h g 0 0 0 0 0 (-1) 0 0 0 0 0 0 0 wo wz (fun _ => 0) (fun _ => 0) (fun _ => 0) (fun _ => 0)) sz) := by
  refine Met.ofW (cc := b_M_next) (maxL := 2) (ret := none) (by decide) rfl ?_
  intro p e s m args below meth c s₁ B hml hv
  obtain ⟨rfl, hsz, hE, hP, hK, hD0⟩ := hv
  have hx := B.exec
  have hb := B.bytes
  have hr := B.returns
  have ht : ∀ w ∈ TT, w.before _ s = true := fun w hw => atoms_spec (ws := .code y_M_next b_M_next 2 none :: TT) B.pre w (List.mem_cons_of_mem _ hw)
  have hown : s.vm.findClass "SieveDeskModel" = some m.cls := findClass_of_methodNamed B.named
  have hlocks := B.notSynchronized
  subst hsz
  have hD := hD0.self (sz := s.heap.size)
  generalize hAe : va_A (ME h g 0 0 0 0 0 (-1) 0 0 0 0 0 0 0 wo wz (fun _ => 0) (fun _ => 0) (fun _ => 0) (fun _ => 0)) s.heap.size = A at hE hD ⊢
  have hA : ∀ q : Nat, s.heap.size ≤ q → A q := fun q h9 => by rw [← hAe]; exact Or.inr h9
  have hS : va_S A s.heap s.heap [] := va_S.rf
  have hl := lv_entry ([.ref (h 0)]) (n := 2) (Nat.le_of_ble_eq_true rfl)
  rw [lg_entry_eq]
  generalize (lg_sl ([.ref (h 0)]) ++ List.replicate (2 - (lg_sl ([.ref (h 0)])).length) Slot.unset).toArray = ls at hl ⊢
  have hl : lv_has ls 2 [(0, .ref (h 0))] := hl
  refine lv_aload_n hx hb d_M_next_0 rfl (lv_at hl 0 rfl) ?_
  refine va_get (D := (dC, dI)) (ci := 4) (v := .int (-1)) (C := "SieveDeskModel") (T := F_M) (N := 19) hx hb ht i_M hown hK hP 0 rfl rfl 10 (by decide) (ht _ k_637) (fun _ h9 => h9) rfl d_M_next_1 ?_
  refine lv_if_lt (tgt := 8) hx hb d_M_next_4 (by decide) (fun _ => ?_) (fun cn => absurd (by decide) cn)
  refine lv_aload_n hx hb d_M_next_8 rfl (lv_at hl 0 rfl) ?_
  have hFc := va_free (wc := (ME h g 0 0 0 0 0 (-1) 0 0 0 0 0 0 0 wo wz (fun _ => 0) (fun _ => 0) (fun _ => 0) (fun _ => 0))) hD hS hA [0, 1, 2, 3, 4, 5, 6] rfl
  refine va_calli (va_runV (As := []) (rest := []) ⟨hx, hb, hml, hown, ht⟩ (c_M_skip l dC dI k h g wo wz _) (cwV 0 ht (g_V k_698 k_700 k_38 k_80 k_701) rfl rfl rfl (by decide +kernel) ⟨(Nat.le_of_ble_eq_true rfl), (Nat.le_of_ble_eq_true rfl)⟩) ⟨fb_X, va_recv hK hP (ci := 4) (q0 := 0) rfl rfl, pre_X hE hS hFc hP hK hD⟩ rfl rfl hl.1 rfl (lv_room (Nat.le_of_ble_eq_true rfl)) d_M_next_9 ⟨(Nat.le_of_ble_eq_true rfl), (Nat.le_of_ble_eq_true rfl)⟩) hS (fun q _ h9 => hFc q h9) hFc (fun r_1 u t H locs het hvm hw hB hz1 hk1 hS => ?_)
  obtain ⟨hP1, hK1, hD1⟩ := hB
  rw [het] at hP1
  have hP : va_P (dC, dI) cls (ME h g 0 0 0 0 0 (-1) 0 0 0 0 0 0 0 wo wz (fun _ => 0) (fun _ => 0) (fun _ => 0) (fun _ => 0)) H := hP1
  have hD : va_D A (ME h g 0 0 0 0 0 (-1) 0 0 0 0 0 0 0 wo wz (fun _ => 0) (fun _ => 0) (fun _ => 0) (fun _ => 0)) := hD1.weaken (fun _ _ _ h9 => hFc _ h9)
  subst hw
  refine lv_istore_n (lv' := [(1, .int 1), (0, .ref (h 0))]) hx hb d_M_next_12 rfl hl (by decide) rfl (fun ls hl => ?_)
  refine lv_aload_n hx hb d_M_next_13 rfl (lv_at hl 1 rfl) ?_
  refine lv_aload_n hx hb d_M_next_14 rfl (lv_at hl 1 rfl) ?_
  refine va_get (D := (dC, dI)) (ci := 4) (v := .int 0) (C := "SieveDeskModel") (T := F_M) (N := 19) hx hb ht i_M hown hK hP 0 rfl rfl 4 (by decide) (ht _ k_631) (fun _ h9 => h9) rfl d_M_next_15 ?_
  refine va_put (D := (dC, dI)) (ci := 4) (v := .int 0) (ty := .int) (C := "SieveDeskModel") (T := F_M) (N := 19) hx hb ht i_M ty_M ty_M_ok n_M hown hK hP hD hS 0 rfl rfl 6 (by decide) (ht _ k_633) (fun _ h9 => h9) rfl (ty_M_ok 6 (by decide)) rfl rfl (Nat.le_of_ble_eq_true rfl) d_M_next_18 (fun H locs hP hD hS => ?_)
  have hP : va_P (dC, dI) cls (ME h g 0 0 0 0 0 (-1) 0 0 0 0 0 0 0 wo wz (fun _ => 0) (fun _ => 0) (fun _ => 0) (fun _ => 0)) H := hP
  have hD : va_D A (ME h g 0 0 0 0 0 (-1) 0 0 0 0 0 0 0 wo wz (fun _ => 0) (fun _ => 0) (fun _ => 0) (fun _ => 0)) := hD
  refine lv_aload_n hx hb d_M_next_21 rfl (lv_at hl 1 rfl) ?_
  refine lv_iload_n hx hb d_M_next_22 rfl (lv_at hl 0 rfl) ?_
  refine lv_if_eq (tgt := 33) hx hb d_M_next_23 (by decide) (fun cn => absurd cn (by decide)) (fun _ => ?_)
  refine lv_aload_n hx hb d_M_next_26 rfl (lv_at hl 1 rfl) ?_
  have hFc := va_free (wc := (ME h g 0 0 0 0 0 (-1) 0 0 0 0 0 0 0 wo wz (fun _ => 0) (fun _ => 0) (fun _ => 0) (fun _ => 0))) hD hS hA [0, 1, 2, 3, 4, 5, 6] rfl
  refine va_calli (va_runV (As := []) (rest := [.ref (h 0)]) ⟨hx, hb, hml, hown, ht⟩ (c_M_token l dC dI k h g wo wz _) (cwV 0 ht (g_V k_706 k_708 k_40 k_80 k_709) rfl rfl rfl (by decide +kernel) ⟨(Nat.le_of_ble_eq_true rfl), (Nat.le_of_ble_eq_true rfl)⟩) ⟨fb_X, va_recv hK hP (ci := 4) (q0 := 0) rfl rfl, pre_X hE hS hFc hP hK hD⟩ rfl rfl hl.1 rfl (lv_room (Nat.le_of_ble_eq_true rfl)) d_M_next_27 ⟨(Nat.le_of_ble_eq_true rfl), (Nat.le_of_ble_eq_true rfl)⟩) hS (fun q _ h9 => hFc q h9) hFc (fun r_2 u t H locs het hvm hw hB hz1 hk1 hS => ?_)
  obtain ⟨hP1, hK1, hD1⟩ := hB
  rw [het] at hP1
  have hP : va_P (dC, dI) cls (ME h g 0 0 0 0 0 (-1) 0 0 0 0 0 0 0 wo wz (fun _ => 0) (vp_updL (vp_updL (vp_updL (vp_updL (fun _ => 0) 0 0) 1 0) 2 0) 3 0) (fun _ => 0) (fun _ => 0)) H := hP1
  have hD : va_D A (ME h g 0 0 0 0 0 (-1) 0 0 0 0 0 0 0 wo wz (fun _ => 0) (vp_updL (vp_updL (vp_updL (vp_updL (fun _ => 0) 0 0) 1 0) 2 0) 3 0) (fun _ => 0) (fun _ => 0)) := hD1.weaken (fun _ _ _ h9 => hFc _ h9)
  subst hw
  refine lv_goto (tgt := 34) hx hb d_M_next_30 (by decide) ?_
  refine va_put (D := (dC, dI)) (ci := 4) (v := .int 0) (ty := .int) (C := "SieveDeskModel") (T := F_M) (N := 19) hx hb ht i_M ty_M ty_M_ok n_M hown hK hP hD hS 0 rfl rfl 5 (by decide) (ht _ k_632) (fun _ h9 => h9) rfl (ty_M_ok 5 (by decide)) rfl rfl (Nat.le_of_ble_eq_true rfl) d_M_next_34 (fun H locs hP hD hS => ?_)
  have hP : va_P (dC, dI) cls (ME h g 0 0 0 0 0 (-1) 0 0 0 0 0 0 0 wo wz (fun _ => 0) (vp_updL (vp_updL (vp_updL (vp_updL (fun _ => 0) 0 0) 1 0) 2 0) 3 0) (fun _ => 0) (fun _ => 0)) H := hP
  have hD : va_D A (ME h g 0 0 0 0 0 (-1) 0 0 0 0 0 0 0 wo wz (fun _ => 0) (vp_updL (vp_updL (vp_updL (vp_updL (fun _ => 0) 0 0) 1 0) 2 0) 3 0) (fun _ => 0) (fun _ => 0)) := hD
  refine lv_aload_n hx hb d_M_next_37 rfl (lv_at hl 1 rfl) ?_
  refine va_get (D := (dC, dI)) (ci := 4) (v := .int 0) (C := "SieveDeskModel") (T := F_M) (N := 19) hx hb ht i_M hown hK hP 0 rfl rfl 5 (by decide) (ht _ k_632) (fun _ h9 => h9) rfl d_M_next_38 ?_
  refine lv_iconst (v := 5) hx hb d_M_next_41 (by decide) ?_
  refine lv_icmp_ne (tgt := 49) hx hb d_M_next_42 (by decide) (fun _ => ?_) (fun cn => absurd cn (by decide))
  exact W.vret hx hb hr (fun t het hW => ⟨⟨(), rfl, trivial, by rw [het]; exact hP, va_K.moved hW.alike hK, hD⟩, hS.F het⟩) hS.2.2 d_M_next_49
set_option maxHeartbeats 4000000 in
set_option maxRecDepth 100000 in
theorem c_M_is (l : Launch) (dC : Nat → ClassId) (dI : Nat → Nat → Nat) (k : Nat → Nat) (h : Nat → Nat) (g : Nat → ClassId) (wo : Nat → Int64) (wz : Nat → Int32) (sz : Nat) : Met l y_M_is (.code y_M_is b_M_is 2 (some .boolean) :: TT) ({ frames := 0, cells := 0, slots := 0, locals := 0 }) (va_Pc [.ref (h 0), .int 1] (PX dC dI k (TM g) (ME h g 0 0 0 0 0 (-1) 0 0 0 0 0 0 0 wo wz (fun _ => 0) (vp_updL (vp_updL (vp_updL (vp_updL (fun _ => 0) 0 0) 1 0) 2 0) 3 0) (fun _ => 0) (fun _ => 0)) sz)) (va_Qi (fun (r : Int32) (_ : Unit) => r = 0) (fun _ t => BX dC dI (TM g) (va_A (ME h g 0 0 0 0 0 (-1) 0 0 0 0 0 0 0 wo wz (fun _ => 0) (vp_updL (vp_updL (vp_updL (vp_updL (fun _ => 0) 0 0) 1 0) 2 0) 3 0) (fun _ => 0) (fun _ => 0)) sz) (ME h g 0 0 0 0 0 (-1) 0 0 0 0 0 0 0 wo wz (fun _ => 0) (vp_updL (vp_updL (vp_updL (vp_updL (fun _ => 0) 0 0) 1 0) 2 0) 3 0) (fun _ => 0) (fun _ => 0)) t) (va_A (ME h g 0 0 0 0 0 (-1) 0 0 0 0 0 0 0 wo wz (fun _ => 0) (vp_updL (vp_updL (vp_updL (vp_updL (fun _ => 0) 0 0) 1 0) 2 0) 3 0) (fun _ => 0) (fun _ => 0)) sz)) 0 0 (va_A (ME h g 0 0 0 0 0 (-1) 0 0 0 0 0 0 0 wo wz (fun _ => 0) (vp_updL (vp_updL (vp_updL (vp_updL (fun _ => 0) 0 0) 1 0) 2 0) 3 0) (fun _ => 0) (fun _ => 0)) sz) := by
  refine Met.ofW (cc := b_M_is) (maxL := 2) (ret := (some .boolean)) (by decide) rfl ?_
  intro p e s m args below meth c s₁ B hml hv
  obtain ⟨rfl, hsz, hE, hP, hK, hD0⟩ := hv
  have hx := B.exec
  have hb := B.bytes
  have hr := B.returns
  have ht : ∀ w ∈ TT, w.before _ s = true := fun w hw => atoms_spec (ws := .code y_M_is b_M_is 2 (some .boolean) :: TT) B.pre w (List.mem_cons_of_mem _ hw)
  have hown : s.vm.findClass "SieveDeskModel" = some m.cls := findClass_of_methodNamed B.named
  have hlocks := B.notSynchronized
  subst hsz
  have hD := hD0.self (sz := s.heap.size)
  generalize hAe : va_A (ME h g 0 0 0 0 0 (-1) 0 0 0 0 0 0 0 wo wz (fun _ => 0) (vp_updL (vp_updL (vp_updL (vp_updL (fun _ => 0) 0 0) 1 0) 2 0) 3 0) (fun _ => 0) (fun _ => 0)) s.heap.size = A at hE hD ⊢
  have hA : ∀ q : Nat, s.heap.size ≤ q → A q := fun q h9 => by rw [← hAe]; exact Or.inr h9
  have hS : va_S A s.heap s.heap [] := va_S.rf
  have hl := lv_entry ([.ref (h 0), .int 1]) (n := 2) (Nat.le_of_ble_eq_true rfl)
  rw [lg_entry_eq]
  generalize (lg_sl ([.ref (h 0), .int 1]) ++ List.replicate (2 - (lg_sl ([.ref (h 0), .int 1])).length) Slot.unset).toArray = ls at hl ⊢
  have hl : lv_has ls 2 [(0, .ref (h 0)), (1, .int 1)] := hl
  refine lv_aload_n hx hb d_M_is_0 rfl (lv_at hl 0 rfl) ?_
  refine va_get (D := (dC, dI)) (ci := 4) (v := .int (-1)) (C := "SieveDeskModel") (T := F_M) (N := 19) hx hb ht i_M hown hK hP 0 rfl rfl 10 (by decide) (ht _ k_637) (fun _ h9 => h9) rfl d_M_is_1 ?_
  refine lv_if_ge (tgt := 19) hx hb d_M_is_4 (by decide) (fun cn => absurd cn (by decide)) (fun _ => ?_)
  refine lv_aload_n hx hb d_M_is_7 rfl (lv_at hl 0 rfl) ?_
  refine va_get (D := (dC, dI)) (ci := 4) (v := .int 0) (C := "SieveDeskModel") (T := F_M) (N := 19) hx hb ht i_M hown hK hP 0 rfl rfl 5 (by decide) (ht _ k_632) (fun _ h9 => h9) rfl d_M_is_8 ?_
  refine lv_iload_n hx hb d_M_is_11 rfl (lv_at hl 1 rfl) ?_
  refine lv_icmp_ne (tgt := 19) hx hb d_M_is_12 (by decide) (fun _ => ?_) (fun cn => absurd cn (by decide))
  refine lv_iconst (v := 0) hx hb d_M_is_19 (by decide) ?_
  exact W.zret (v := 0) hx hb hr rfl (fun t het hW => ⟨⟨0, (), rfl, rfl, by rw [het]; exact hP, va_K.moved hW.alike hK, hD⟩, hS.F het⟩) hS.2.2 d_M_is_20
set_option maxHeartbeats 4000000 in
set_option maxRecDepth 100000 in
theorem c_M_isWord (l : Launch) (dC : Nat → ClassId) (dI : Nat → Nat → Nat) (k : Nat → Nat) (h : Nat → Nat) (g : Nat → ClassId) (wo : Nat → Int64) (wz : Nat → Int32) (sz : Nat) : Met l y_M_isWord (.code y_M_isWord b_M_isWord 2 (some .boolean) :: TT) ({ frames := 1, cells := 0, slots := 0, locals := 21 }) (va_Pc [.ref (h 0), .int 0] (PX dC dI k (TM g) (ME h g 0 0 0 0 0 (-1) 0 0 0 0 0 0 0 wo wz (fun _ => 0) (vp_updL (vp_updL (vp_updL (vp_updL (fun _ => 0) 0 0) 1 0) 2 0) 3 0) (fun _ => 0) (fun _ => 0)) sz)) (va_Qi (fun (r : Int32) (_ : Unit) => r = 0) (fun _ t => BX dC dI (TM g) (va_A (ME h g 0 0 0 0 0 (-1) 0 0 0 0 0 0 0 wo wz (fun _ => 0) (vp_updL (vp_updL (vp_updL (vp_updL (fun _ => 0) 0 0) 1 0) 2 0) 3 0) (fun _ => 0) (fun _ => 0)) sz) (ME h g 0 0 0 0 0 (-1) 0 0 0 0 0 0 0 wo wz (fun _ => 0) (vp_updL (vp_updL (vp_updL (vp_updL (fun _ => 0) 0 0) 1 0) 2 0) 3 0) (fun _ => 0) (fun _ => 0)) t) (va_A (ME h g 0 0 0 0 0 (-1) 0 0 0 0 0 0 0 wo wz (fun _ => 0) (vp_updL (vp_updL (vp_updL (vp_updL (fun _ => 0) 0 0) 1 0) 2 0) 3 0) (fun _ => 0) (fun _ => 0)) sz)) 0 0 (va_A (ME h g 0 0 0 0 0 (-1) 0 0 0 0 0 0 0 wo wz (fun _ => 0) (vp_updL (vp_updL (vp_updL (vp_updL (fun _ => 0) 0 0) 1 0) 2 0) 3 0) (fun _ => 0) (fun _ => 0)) sz) := by
  refine Met.ofW (cc := b_M_isWord) (maxL := 2) (ret := (some .boolean)) (by decide) rfl ?_
  intro p e s m args below meth c s₁ B hml hv
  obtain ⟨rfl, hsz, hE, hP, hK, hD0⟩ := hv
  have hx := B.exec
  have hb := B.bytes
  have hr := B.returns
  have ht : ∀ w ∈ TT, w.before _ s = true := fun w hw => atoms_spec (ws := .code y_M_isWord b_M_isWord 2 (some .boolean) :: TT) B.pre w (List.mem_cons_of_mem _ hw)
  have hown : s.vm.findClass "SieveDeskModel" = some m.cls := findClass_of_methodNamed B.named
  have hlocks := B.notSynchronized
  subst hsz
  have hD := hD0.self (sz := s.heap.size)
  generalize hAe : va_A (ME h g 0 0 0 0 0 (-1) 0 0 0 0 0 0 0 wo wz (fun _ => 0) (vp_updL (vp_updL (vp_updL (vp_updL (fun _ => 0) 0 0) 1 0) 2 0) 3 0) (fun _ => 0) (fun _ => 0)) s.heap.size = A at hE hD ⊢
  have hA : ∀ q : Nat, s.heap.size ≤ q → A q := fun q h9 => by rw [← hAe]; exact Or.inr h9
  have hS : va_S A s.heap s.heap [] := va_S.rf
  have hl := lv_entry ([.ref (h 0), .int 0]) (n := 2) (Nat.le_of_ble_eq_true rfl)
  rw [lg_entry_eq]
  generalize (lg_sl ([.ref (h 0), .int 0]) ++ List.replicate (2 - (lg_sl ([.ref (h 0), .int 0])).length) Slot.unset).toArray = ls at hl ⊢
  have hl : lv_has ls 2 [(0, .ref (h 0)), (1, .int 0)] := hl
  refine lv_aload_n hx hb d_M_isWord_0 rfl (lv_at hl 0 rfl) ?_
  refine lv_iconst (v := 1) hx hb d_M_isWord_1 (by decide) ?_
  have hFc := va_free (wc := (ME h g 0 0 0 0 0 (-1) 0 0 0 0 0 0 0 wo wz (fun _ => 0) (vp_updL (vp_updL (vp_updL (vp_updL (fun _ => 0) 0 0) 1 0) 2 0) 3 0) (fun _ => 0) (fun _ => 0))) hD hS hA [0, 1, 2, 3, 4, 5, 6] rfl
  refine va_calli (va_runV (As := [.int 1]) (rest := []) ⟨hx, hb, hml, hown, ht⟩ (c_M_is l dC dI k h g wo wz _) (cwV 1 ht (g_V k_771 k_773 k_52 k_80 k_774) rfl rfl rfl (by decide +kernel) ⟨(Nat.le_of_ble_eq_true rfl), (Nat.le_of_ble_eq_true rfl)⟩) ⟨fb_X, va_recv hK hP (ci := 4) (q0 := 0) rfl rfl, pre_X hE hS hFc hP hK hD⟩ rfl rfl hl.1 rfl (lv_room (Nat.le_of_ble_eq_true rfl)) d_M_isWord_2 ⟨(Nat.le_of_ble_eq_true rfl), (Nat.le_of_ble_eq_true rfl)⟩) hS (fun q _ h9 => hFc q h9) hFc (fun r_1 u t H locs het hvm hw hB hz1 hk1 hS => ?_)
  obtain ⟨hP1, hK1, hD1⟩ := hB
  rw [het] at hP1
  have hP : va_P (dC, dI) cls (ME h g 0 0 0 0 0 (-1) 0 0 0 0 0 0 0 wo wz (fun _ => 0) (vp_updL (vp_updL (vp_updL (vp_updL (fun _ => 0) 0 0) 1 0) 2 0) 3 0) (fun _ => 0) (fun _ => 0)) H := hP1
  have hD : va_D A (ME h g 0 0 0 0 0 (-1) 0 0 0 0 0 0 0 wo wz (fun _ => 0) (vp_updL (vp_updL (vp_updL (vp_updL (fun _ => 0) 0 0) 1 0) 2 0) 3 0) (fun _ => 0) (fun _ => 0)) := hD1.weaken (fun _ _ _ h9 => hFc _ h9)
  subst hw
  refine lv_if_eq (tgt := 20) hx hb d_M_isWord_5 (by decide) (fun _ => ?_) (fun cn => absurd (by decide) cn)
  refine lv_iconst (v := 0) hx hb d_M_isWord_20 (by decide) ?_
  exact W.zret (v := 0) hx hb hr rfl (fun t het hW => ⟨⟨0, (), rfl, rfl, by rw [het]; exact hP, va_K.moved hW.alike hK, hD⟩, hS.F het⟩) hS.2.2 d_M_isWord_21
set_option maxHeartbeats 4000000 in
set_option maxRecDepth 100000 in
theorem c_M_push (l : Launch) (dC : Nat → ClassId) (dI : Nat → Nat → Nat) (k : Nat → Nat) (h : Nat → Nat) (g : Nat → ClassId) (wo : Nat → Int64) (wz : Nat → Int32) (sz : Nat) : Met l y_M_push (.code y_M_push b_M_push 2 none :: TT) ({ frames := 0, cells := 0, slots := 0, locals := 0 }) (va_Pc [.ref (h 0), .int 0] (PX dC dI k (TM g) (ME h g 0 0 0 0 0 (-1) 0 0 0 0 0 0 0 wo wz (fun _ => 0) (vp_updL (vp_updL (vp_updL (vp_updL (fun _ => 0) 0 0) 1 0) 2 0) 3 0) (fun _ => 0) (fun _ => 0)) sz)) (va_Qv (fun _ : Unit => True) (fun _ t => BX dC dI (TM g) (va_A (ME h g 0 0 0 0 0 (-1) 0 0 0 0 0 0 0 wo wz (fun _ => 0) (vp_updL (vp_updL (vp_updL (vp_updL (fun _ => 0) 0 0) 1 0) 2 0) 3 0) (fun _ => 0) (fun _ => 0)) sz) (ME h g 0 0 0 0 0 (-1) 0 0 0 0 0 0 1 wo wz (fun _ => 0) (vp_updL (vp_updL (vp_updL (vp_updL (fun _ => 0) 0 0) 1 0) 2 0) 3 0) (fun _ => 0) (upd (fun _ => 0) 0 0)) t) (va_A (ME h g 0 0 0 0 0 (-1) 0 0 0 0 0 0 0 wo wz (fun _ => 0) (vp_updL (vp_updL (vp_updL (vp_updL (fun _ => 0) 0 0) 1 0) 2 0) 3 0) (fun _ => 0) (fun _ => 0)) sz)) 0 0 (va_A (ME h g 0 0 0 0 0 (-1) 0 0 0 0 0 0 0 wo wz (fun _ => 0) (vp_updL (vp_updL (vp_updL (vp_updL (fun _ => 0) 0 0) 1 0) 2 0) 3 0) (fun _ => 0) (fun _ => 0)) sz) := by
  refine Met.ofW (cc := b_M_push) (maxL := 2) (ret := none) (by decide) rfl ?_
  intro p e s m args below meth c s₁ B hml hv
  obtain ⟨rfl, hsz, hE, hP, hK, hD0⟩ := hv
  have hx := B.exec
  have hb := B.bytes
  have hr := B.returns
  have ht : ∀ w ∈ TT, w.before _ s = true := fun w hw => atoms_spec (ws := .code y_M_push b_M_push 2 none :: TT) B.pre w (List.mem_cons_of_mem _ hw)
  have hown : s.vm.findClass "SieveDeskModel" = some m.cls := findClass_of_methodNamed B.named
  have hlocks := B.notSynchronized
  subst hsz
  have hD := hD0.self (sz := s.heap.size)
  generalize hAe : va_A (ME h g 0 0 0 0 0 (-1) 0 0 0 0 0 0 0 wo wz (fun _ => 0) (vp_updL (vp_updL (vp_updL (vp_updL (fun _ => 0) 0 0) 1 0) 2 0) 3 0) (fun _ => 0) (fun _ => 0)) s.heap.size = A at hE hD ⊢
  have hA : ∀ q : Nat, s.heap.size ≤ q → A q := fun q h9 => by rw [← hAe]; exact Or.inr h9
  have hS : va_S A s.heap s.heap [] := va_S.rf
  have hl := lv_entry ([.ref (h 0), .int 0]) (n := 2) (Nat.le_of_ble_eq_true rfl)
  rw [lg_entry_eq]
  generalize (lg_sl ([.ref (h 0), .int 0]) ++ List.replicate (2 - (lg_sl ([.ref (h 0), .int 0])).length) Slot.unset).toArray = ls at hl ⊢
  have hl : lv_has ls 2 [(0, .ref (h 0)), (1, .int 0)] := hl
  refine lv_aload_n hx hb d_M_push_0 rfl (lv_at hl 0 rfl) ?_
  refine va_get (D := (dC, dI)) (ci := 4) (v := .int (-1)) (C := "SieveDeskModel") (T := F_M) (N := 19) hx hb ht i_M hown hK hP 0 rfl rfl 10 (by decide) (ht _ k_637) (fun _ h9 => h9) rfl d_M_push_1 ?_
  refine lv_if_lt (tgt := 8) hx hb d_M_push_4 (by decide) (fun _ => ?_) (fun cn => absurd (by decide) cn)
  refine lv_aload_n hx hb d_M_push_8 rfl (lv_at hl 0 rfl) ?_
  refine va_get (D := (dC, dI)) (ci := 4) (v := .ref (h 6)) (C := "SieveDeskModel") (T := F_M) (N := 19) hx hb ht i_M hown hK hP 0 rfl rfl 18 (by decide) (ht _ k_645) (fun _ h9 => h9) rfl d_M_push_9 ?_
  refine lv_aload_n hx hb d_M_push_12 rfl (lv_at hl 0 rfl) ?_
  refine va_get (D := (dC, dI)) (ci := 4) (v := .int 0) (C := "SieveDeskModel") (T := F_M) (N := 19) hx hb ht i_M hown hK hP 0 rfl rfl 17 (by decide) (ht _ k_644) (fun _ h9 => h9) rfl d_M_push_13 ?_
  refine lv_iload_n hx hb d_M_push_16 rfl (lv_at hl 1 rfl) ?_
  refine va_iast hx hb hK hP hD hS 6 5 rfl rfl (by unfold vp_in; decide) d_M_push_17 (fun H locs hP hD hS => ?_)
  have hP : va_P (dC, dI) cls (ME h g 0 0 0 0 0 (-1) 0 0 0 0 0 0 0 wo wz (fun _ => 0) (vp_updL (vp_updL (vp_updL (vp_updL (fun _ => 0) 0 0) 1 0) 2 0) 3 0) (fun _ => 0) (upd (fun _ => 0) 0 0)) H := hP
  have hD : va_D A (ME h g 0 0 0 0 0 (-1) 0 0 0 0 0 0 0 wo wz (fun _ => 0) (vp_updL (vp_updL (vp_updL (vp_updL (fun _ => 0) 0 0) 1 0) 2 0) 3 0) (fun _ => 0) (upd (fun _ => 0) 0 0)) := hD
  refine lv_aload_n hx hb d_M_push_18 rfl (lv_at hl 0 rfl) ?_
  refine lv_aload_n hx hb d_M_push_19 rfl (lv_at hl 0 rfl) ?_
  refine va_get (D := (dC, dI)) (ci := 4) (v := .int 0) (C := "SieveDeskModel") (T := F_M) (N := 19) hx hb ht i_M hown hK hP 0 rfl rfl 17 (by decide) (ht _ k_644) (fun _ h9 => h9) rfl d_M_push_20 ?_
  refine lv_iconst (v := 1) hx hb d_M_push_23 (by decide) ?_
  refine lv_iadd hx hb d_M_push_24 ?_
  refine lv_ev (show (0 : Int32) + 1 = 1 by decide) ?_
  refine va_put (D := (dC, dI)) (ci := 4) (v := .int 1) (ty := .int) (C := "SieveDeskModel") (T := F_M) (N := 19) hx hb ht i_M ty_M ty_M_ok n_M hown hK hP hD hS 0 rfl rfl 17 (by decide) (ht _ k_644) (fun _ h9 => h9) rfl (ty_M_ok 17 (by decide)) rfl rfl (Nat.le_of_ble_eq_true rfl) d_M_push_25 (fun H locs hP hD hS => ?_)
  have hP : va_P (dC, dI) cls (ME h g 0 0 0 0 0 (-1) 0 0 0 0 0 0 1 wo wz (fun _ => 0) (vp_updL (vp_updL (vp_updL (vp_updL (fun _ => 0) 0 0) 1 0) 2 0) 3 0) (fun _ => 0) (upd (fun _ => 0) 0 0)) H := hP
  have hD : va_D A (ME h g 0 0 0 0 0 (-1) 0 0 0 0 0 0 1 wo wz (fun _ => 0) (vp_updL (vp_updL (vp_updL (vp_updL (fun _ => 0) 0 0) 1 0) 2 0) 3 0) (fun _ => 0) (upd (fun _ => 0) 0 0)) := hD
  exact W.vret hx hb hr (fun t het hW => ⟨⟨(), rfl, trivial, by rw [het]; exact hP, va_K.moved hW.alike hK, hD⟩, hS.F het⟩) hS.2.2 d_M_push_28
-- is(1) again, over the world behind push
set_option maxHeartbeats 4000000 in
set_option maxRecDepth 100000 in
theorem c_M_is2 (l : Launch) (dC : Nat → ClassId) (dI : Nat → Nat → Nat) (k : Nat → Nat) (h : Nat → Nat) (g : Nat → ClassId) (wo : Nat → Int64) (wz : Nat → Int32) (sz : Nat) : Met l y_M_is (.code y_M_is b_M_is 2 (some .boolean) :: TT) ({ frames := 0, cells := 0, slots := 0, locals := 0 }) (va_Pc [.ref (h 0), .int 1] (PX dC dI k (TM g) (ME h g 0 0 0 0 0 (-1) 0 0 0 0 0 0 0 wo wz (fun _ => 0) (vp_updL (vp_updL (vp_updL (vp_updL (fun _ => 0) 0 0) 1 0) 2 0) 3 0) (fun _ => 0) (upd (fun _ => 0) 0 0)) sz)) (va_Qi (fun (r : Int32) (_ : Unit) => r = 0) (fun _ t => BX dC dI (TM g) (va_A (ME h g 0 0 0 0 0 (-1) 0 0 0 0 0 0 0 wo wz (fun _ => 0) (vp_updL (vp_updL (vp_updL (vp_updL (fun _ => 0) 0 0) 1 0) 2 0) 3 0) (fun _ => 0) (upd (fun _ => 0) 0 0)) sz) (ME h g 0 0 0 0 0 (-1) 0 0 0 0 0 0 0 wo wz (fun _ => 0) (vp_updL (vp_updL (vp_updL (vp_updL (fun _ => 0) 0 0) 1 0) 2 0) 3 0) (fun _ => 0) (upd (fun _ => 0) 0 0)) t) (va_A (ME h g 0 0 0 0 0 (-1) 0 0 0 0 0 0 0 wo wz (fun _ => 0) (vp_updL (vp_updL (vp_updL (vp_updL (fun _ => 0) 0 0) 1 0) 2 0) 3 0) (fun _ => 0) (upd (fun _ => 0) 0 0)) sz)) 0 0 (va_A (ME h g 0 0 0 0 0 (-1) 0 0 0 0 0 0 0 wo wz (fun _ => 0) (vp_updL (vp_updL (vp_updL (vp_updL (fun _ => 0) 0 0) 1 0) 2 0) 3 0) (fun _ => 0) (upd (fun _ => 0) 0 0)) sz) := by
  refine Met.ofW (cc := b_M_is) (maxL := 2) (ret := (some .boolean)) (by decide) rfl ?_
  intro p e s m args below meth c s₁ B hml hv
  obtain ⟨rfl, hsz, hE, hP, hK, hD0⟩ := hv
  have hx := B.exec
  have hb := B.bytes
  have hr := B.returns
  have ht : ∀ w ∈ TT, w.before _ s = true := fun w hw => atoms_spec (ws := .code y_M_is b_M_is 2 (some .boolean) :: TT) B.pre w (List.mem_cons_of_mem _ hw)
  have hown : s.vm.findClass "SieveDeskModel" = some m.cls := findClass_of_methodNamed B.named
  have hlocks := B.notSynchronized
  subst hsz
  have hD := hD0.self (sz := s.heap.size)
  generalize hAe : va_A (ME h g 0 0 0 0 0 (-1) 0 0 0 0 0 0 0 wo wz (fun _ => 0) (vp_updL (vp_updL (vp_updL (vp_updL (fun _ => 0) 0 0) 1 0) 2 0) 3 0) (fun _ => 0) (upd (fun _ => 0) 0 0)) s.heap.size = A at hE hD ⊢
  have hA : ∀ q : Nat, s.heap.size ≤ q → A q := fun q h9 => by rw [← hAe]; exact Or.inr h9
  have hS : va_S A s.heap s.heap [] := va_S.rf
  have hl := lv_entry ([.ref (h 0), .int 1]) (n := 2) (Nat.le_of_ble_eq_true rfl)
  rw [lg_entry_eq]
  generalize (lg_sl ([.ref (h 0), .int 1]) ++ List.replicate (2 - (lg_sl ([.ref (h 0), .int 1])).length) Slot.unset).toArray = ls at hl ⊢
  have hl : lv_has ls 2 [(0, .ref (h 0)), (1, .int 1)] := hl
  refine lv_aload_n hx hb d_M_is_0 rfl (lv_at hl 0 rfl) ?_
  refine va_get (D := (dC, dI)) (ci := 4) (v := .int (-1)) (C := "SieveDeskModel") (T := F_M) (N := 19) hx hb ht i_M hown hK hP 0 rfl rfl 10 (by decide) (ht _ k_637) (fun _ h9 => h9) rfl d_M_is_1 ?_
  refine lv_if_ge (tgt := 19) hx hb d_M_is_4 (by decide) (fun cn => absurd cn (by decide)) (fun _ => ?_)
  refine lv_aload_n hx hb d_M_is_7 rfl (lv_at hl 0 rfl) ?_
  refine va_get (D := (dC, dI)) (ci := 4) (v := .int 0) (C := "SieveDeskModel") (T := F_M) (N := 19) hx hb ht i_M hown hK hP 0 rfl rfl 5 (by decide) (ht _ k_632) (fun _ h9 => h9) rfl d_M_is_8 ?_
  refine lv_iload_n hx hb d_M_is_11 rfl (lv_at hl 1 rfl) ?_
  refine lv_icmp_ne (tgt := 19) hx hb d_M_is_12 (by decide) (fun _ => ?_) (fun cn => absurd cn (by decide))
  refine lv_iconst (v := 0) hx hb d_M_is_19 (by decide) ?_
  exact W.zret (v := 0) hx hb hr rfl (fun t het hW => ⟨⟨0, (), rfl, rfl, by rw [het]; exact hP, va_K.moved hW.alike hK, hD⟩, hS.F het⟩) hS.2.2 d_M_is_20
set_option maxHeartbeats 4000000 in
set_option maxRecDepth 100000 in
theorem c_M_step (l : Launch) (dC : Nat → ClassId) (dI : Nat → Nat → Nat) (k : Nat → Nat) (h : Nat → Nat) (g : Nat → ClassId) (wo : Nat → Int64) (wz : Nat → Int32) (sz : Nat) : Met l y_M_step (.code y_M_step b_M_step 2 none :: TT) ({ frames := 1, cells := 0, slots := 0, locals := 21 }) (va_Pc [.ref (h 0), .int 0] (PX dC dI k (TM g) (ME h g 0 0 0 0 0 (-1) 0 0 0 0 0 0 0 wo wz (fun _ => 0) (vp_updL (vp_updL (vp_updL (vp_updL (fun _ => 0) 0 0) 1 0) 2 0) 3 0) (fun _ => 0) (upd (fun _ => 0) 0 0)) sz)) (va_Qv (fun _ : Unit => True) (fun _ t => BX dC dI (TM g) (va_A (ME h g 0 0 0 0 0 (-1) 0 0 0 0 0 0 0 wo wz (fun _ => 0) (vp_updL (vp_updL (vp_updL (vp_updL (fun _ => 0) 0 0) 1 0) 2 0) 3 0) (fun _ => 0) (upd (fun _ => 0) 0 0)) sz) (ME h g 0 0 0 0 0 (-1) 0 0 0 0 0 0 0 wo wz (fun _ => 0) (vp_updL (vp_updL (vp_updL (vp_updL (fun _ => 0) 0 0) 1 0) 2 0) 3 0) (fun _ => 0) (upd (fun _ => 0) 0 0)) t) (va_A (ME h g 0 0 0 0 0 (-1) 0 0 0 0 0 0 0 wo wz (fun _ => 0) (vp_updL (vp_updL (vp_updL (vp_updL (fun _ => 0) 0 0) 1 0) 2 0) 3 0) (fun _ => 0) (upd (fun _ => 0) 0 0)) sz)) 0 0 (va_A (ME h g 0 0 0 0 0 (-1) 0 0 0 0 0 0 0 wo wz (fun _ => 0) (vp_updL (vp_updL (vp_updL (vp_updL (fun _ => 0) 0 0) 1 0) 2 0) 3 0) (fun _ => 0) (upd (fun _ => 0) 0 0)) sz) := by
  refine Met.ofW (cc := b_M_step) (maxL := 2) (ret := none) (by decide) rfl ?_
  intro p e s m args below meth c s₁ B hml hv
  obtain ⟨rfl, hsz, hE, hP, hK, hD0⟩ := hv
  have hx := B.exec
  have hb := B.bytes
  have hr := B.returns
  have ht : ∀ w ∈ TT, w.before _ s = true := fun w hw => atoms_spec (ws := .code y_M_step b_M_step 2 none :: TT) B.pre w (List.mem_cons_of_mem _ hw)
  have hown : s.vm.findClass "SieveDeskModel" = some m.cls := findClass_of_methodNamed B.named
  have hlocks := B.notSynchronized
  subst hsz
  have hD := hD0.self (sz := s.heap.size)
  generalize hAe : va_A (ME h g 0 0 0 0 0 (-1) 0 0 0 0 0 0 0 wo wz (fun _ => 0) (vp_updL (vp_updL (vp_updL (vp_updL (fun _ => 0) 0 0) 1 0) 2 0) 3 0) (fun _ => 0) (upd (fun _ => 0) 0 0)) s.heap.size = A at hE hD ⊢
  have hA : ∀ q : Nat, s.heap.size ≤ q → A q := fun q h9 => by rw [← hAe]; exact Or.inr h9
  have hS : va_S A s.heap s.heap [] := va_S.rf
  have hl := lv_entry ([.ref (h 0), .int 0]) (n := 2) (Nat.le_of_ble_eq_true rfl)
  rw [lg_entry_eq]
  generalize (lg_sl ([.ref (h 0), .int 0]) ++ List.replicate (2 - (lg_sl ([.ref (h 0), .int 0])).length) Slot.unset).toArray = ls at hl ⊢
  have hl : lv_has ls 2 [(0, .ref (h 0)), (1, .int 0)] := hl
  refine lv_iload_n hx hb d_M_step_0 rfl (lv_at hl 1 rfl) ?_
  refine lv_tableIn (off := 39) (tgt := 40) hx hb d_M_step_1 (by decide) (by decide) (by decide) (by decide) ?_
  refine lv_aload_n hx hb d_M_step_40 rfl (lv_at hl 0 rfl) ?_
  refine lv_iconst (v := 1) hx hb d_M_step_41 (by decide) ?_
  have hFc := va_free (wc := (ME h g 0 0 0 0 0 (-1) 0 0 0 0 0 0 0 wo wz (fun _ => 0) (vp_updL (vp_updL (vp_updL (vp_updL (fun _ => 0) 0 0) 1 0) 2 0) 3 0) (fun _ => 0) (upd (fun _ => 0) 0 0))) hD hS hA [0, 1, 2, 3, 4, 5, 6] rfl
  refine va_calli (va_runV (As := [.int 1]) (rest := []) ⟨hx, hb, hml, hown, ht⟩ (c_M_is2 l dC dI k h g wo wz _) (cwV 1 ht (g_V k_771 k_773 k_52 k_80 k_774) rfl rfl rfl (by decide +kernel) ⟨(Nat.le_of_ble_eq_true rfl), (Nat.le_of_ble_eq_true rfl)⟩) ⟨fb_X, va_recv hK hP (ci := 4) (q0 := 0) rfl rfl, pre_X hE hS hFc hP hK hD⟩ rfl rfl hl.1 rfl (lv_room (Nat.le_of_ble_eq_true rfl)) d_M_step_42 ⟨(Nat.le_of_ble_eq_true rfl), (Nat.le_of_ble_eq_true rfl)⟩) hS (fun q _ h9 => hFc q h9) hFc (fun r_1 u t H locs het hvm hw hB hz1 hk1 hS => ?_)
  obtain ⟨hP1, hK1, hD1⟩ := hB
  rw [het] at hP1
  have hP : va_P (dC, dI) cls (ME h g 0 0 0 0 0 (-1) 0 0 0 0 0 0 0 wo wz (fun _ => 0) (vp_updL (vp_updL (vp_updL (vp_updL (fun _ => 0) 0 0) 1 0) 2 0) 3 0) (fun _ => 0) (upd (fun _ => 0) 0 0)) H := hP1
  have hD : va_D A (ME h g 0 0 0 0 0 (-1) 0 0 0 0 0 0 0 wo wz (fun _ => 0) (vp_updL (vp_updL (vp_updL (vp_updL (fun _ => 0) 0 0) 1 0) 2 0) 3 0) (fun _ => 0) (upd (fun _ => 0) 0 0)) := hD1.weaken (fun _ _ _ h9 => hFc _ h9)
  subst hw
  refine lv_if_eq (tgt := 60) hx hb d_M_step_45 (by decide) (fun _ => ?_) (fun cn => absurd (by decide) cn)
  refine lv_iload_n hx hb d_M_step_60 rfl (lv_at hl 1 rfl) ?_
  refine lv_if_ne (tgt := 78) hx hb d_M_step_61 (by decide) (fun cn => absurd (by decide) cn) (fun _ => ?_)
  refine lv_aload_n hx hb d_M_step_64 rfl (lv_at hl 0 rfl) ?_
  refine va_get (D := (dC, dI)) (ci := 4) (v := .int 0) (C := "SieveDeskModel") (T := F_M) (N := 19) hx hb ht i_M hown hK hP 0 rfl rfl 5 (by decide) (ht _ k_632) (fun _ h9 => h9) rfl d_M_step_65 ?_
  refine lv_if_eq (tgt := 94) hx hb d_M_step_68 (by decide) (fun _ => ?_) (fun cn => absurd (by decide) cn)
  exact W.vret hx hb hr (fun t het hW => ⟨⟨(), rfl, trivial, by rw [het]; exact hP, va_K.moved hW.alike hK, hD⟩, hS.F het⟩) hS.2.2 d_M_step_94
set_option maxHeartbeats 4000000 in
set_option maxRecDepth 100000 in
theorem c_M_check (l : Launch) (dC : Nat → ClassId) (dI : Nat → Nat → Nat) (k : Nat → Nat) (h : Nat → Nat) (g : Nat → ClassId) (wo : Nat → Int64) (wz : Nat → Int32) (sz : Nat) : Met l y_M_check (.code y_M_check b_M_check 2 (some .int) :: TT) ({ frames := 3, cells := 0, slots := 0, locals := 65 }) (va_Pc [.ref (h 0)] (PX dC dI k (TM g) (ME h g 0 0 0 0 0 (-1) 0 0 0 0 0 0 0 wo wz (fun _ => 0) (fun _ => 0) (fun _ => 0) (fun _ => 0)) sz)) (va_Qi (fun (r : Int32) (_ : Unit) => r = 0) (fun _ t => BX dC dI (TM g) (va_A (ME h g 0 0 0 0 0 (-1) 0 0 0 0 0 0 0 wo wz (fun _ => 0) (fun _ => 0) (fun _ => 0) (fun _ => 0)) sz) (ME h g 0 0 0 0 0 (-1) 0 0 0 0 0 0 0 wo wz (fun _ => 0) (vp_updL (vp_updL (vp_updL (vp_updL (fun _ => 0) 0 0) 1 0) 2 0) 3 0) (fun _ => 0) (upd (fun _ => 0) 0 0)) t) (va_A (ME h g 0 0 0 0 0 (-1) 0 0 0 0 0 0 0 wo wz (fun _ => 0) (fun _ => 0) (fun _ => 0) (fun _ => 0)) sz)) 0 0 (va_A (ME h g 0 0 0 0 0 (-1) 0 0 0 0 0 0 0 wo wz (fun _ => 0) (fun _ => 0) (fun _ => 0) (fun _ => 0)) sz) := by
  refine Met.ofW (cc := b_M_check) (maxL := 2) (ret := (some .int)) (by decide) rfl ?_
  intro p e s m args below meth c s₁ B hml hv
  obtain ⟨rfl, hsz, hE, hP, hK, hD0⟩ := hv
  have hx := B.exec
  have hb := B.bytes
  have hr := B.returns
  have ht : ∀ w ∈ TT, w.before _ s = true := fun w hw => atoms_spec (ws := .code y_M_check b_M_check 2 (some .int) :: TT) B.pre w (List.mem_cons_of_mem _ hw)
  have hown : s.vm.findClass "SieveDeskModel" = some m.cls := findClass_of_methodNamed B.named
  have hlocks := B.notSynchronized
  subst hsz
  have hD := hD0.self (sz := s.heap.size)
  generalize hAe : va_A (ME h g 0 0 0 0 0 (-1) 0 0 0 0 0 0 0 wo wz (fun _ => 0) (fun _ => 0) (fun _ => 0) (fun _ => 0)) s.heap.size = A at hE hD ⊢
  have hA : ∀ q : Nat, s.heap.size ≤ q → A q := fun q h9 => by rw [← hAe]; exact Or.inr h9
  have hS : va_S A s.heap s.heap [] := va_S.rf
  have hl := lv_entry ([.ref (h 0)]) (n := 2) (Nat.le_of_ble_eq_true rfl)
  rw [lg_entry_eq]
  generalize (lg_sl ([.ref (h 0)]) ++ List.replicate (2 - (lg_sl ([.ref (h 0)])).length) Slot.unset).toArray = ls at hl ⊢
  have hl : lv_has ls 2 [(0, .ref (h 0))] := hl
  refine lv_aload_n hx hb d_M_check_0 rfl (lv_at hl 0 rfl) ?_
  refine lv_iconst (v := (-1)) hx hb d_M_check_1 (by decide) ?_
  refine va_put (D := (dC, dI)) (ci := 4) (v := .int (-1)) (ty := .int) (C := "SieveDeskModel") (T := F_M) (N := 19) hx hb ht i_M ty_M ty_M_ok n_M hown hK hP hD hS 0 rfl rfl 10 (by decide) (ht _ k_637) (fun _ h9 => h9) rfl (ty_M_ok 10 (by decide)) rfl rfl (Nat.le_of_ble_eq_true rfl) d_M_check_2 (fun H locs hP hD hS => ?_)
  have hP : va_P (dC, dI) cls (ME h g 0 0 0 0 0 (-1) 0 0 0 0 0 0 0 wo wz (fun _ => 0) (fun _ => 0) (fun _ => 0) (fun _ => 0)) H := hP
  have hD : va_D A (ME h g 0 0 0 0 0 (-1) 0 0 0 0 0 0 0 wo wz (fun _ => 0) (fun _ => 0) (fun _ => 0) (fun _ => 0)) := hD
  refine lv_aload_n hx hb d_M_check_5 rfl (lv_at hl 0 rfl) ?_
  refine lv_iconst (v := 0) hx hb d_M_check_6 (by decide) ?_
  refine va_put (D := (dC, dI)) (ci := 4) (v := .int 0) (ty := .int) (C := "SieveDeskModel") (T := F_M) (N := 19) hx hb ht i_M ty_M ty_M_ok n_M hown hK hP hD hS 0 rfl rfl 4 (by decide) (ht _ k_631) (fun _ h9 => h9) rfl (ty_M_ok 4 (by decide)) rfl rfl (Nat.le_of_ble_eq_true rfl) d_M_check_7 (fun H locs hP hD hS => ?_)
  have hP : va_P (dC, dI) cls (ME h g 0 0 0 0 0 (-1) 0 0 0 0 0 0 0 wo wz (fun _ => 0) (fun _ => 0) (fun _ => 0) (fun _ => 0)) H := hP
  have hD : va_D A (ME h g 0 0 0 0 0 (-1) 0 0 0 0 0 0 0 wo wz (fun _ => 0) (fun _ => 0) (fun _ => 0) (fun _ => 0)) := hD
  refine lv_aload_n hx hb d_M_check_10 rfl (lv_at hl 0 rfl) ?_
  refine lv_iconst (v := 0) hx hb d_M_check_11 (by decide) ?_
  refine va_put (D := (dC, dI)) (ci := 4) (v := .int 0) (ty := .int) (C := "SieveDeskModel") (T := F_M) (N := 19) hx hb ht i_M ty_M ty_M_ok n_M hown hK hP hD hS 0 rfl rfl 12 (by decide) (ht _ k_639) (fun _ h9 => h9) rfl (ty_M_ok 12 (by decide)) rfl rfl (Nat.le_of_ble_eq_true rfl) d_M_check_12 (fun H locs hP hD hS => ?_)
  have hP : va_P (dC, dI) cls (ME h g 0 0 0 0 0 (-1) 0 0 0 0 0 0 0 wo wz (fun _ => 0) (fun _ => 0) (fun _ => 0) (fun _ => 0)) H := hP
  have hD : va_D A (ME h g 0 0 0 0 0 (-1) 0 0 0 0 0 0 0 wo wz (fun _ => 0) (fun _ => 0) (fun _ => 0) (fun _ => 0)) := hD
  refine lv_aload_n hx hb d_M_check_15 rfl (lv_at hl 0 rfl) ?_
  refine lv_iconst (v := 0) hx hb d_M_check_16 (by decide) ?_
  refine va_put (D := (dC, dI)) (ci := 4) (v := .int 0) (ty := .int) (C := "SieveDeskModel") (T := F_M) (N := 19) hx hb ht i_M ty_M ty_M_ok n_M hown hK hP hD hS 0 rfl rfl 13 (by decide) (ht _ k_640) (fun _ h9 => h9) rfl (ty_M_ok 13 (by decide)) rfl rfl (Nat.le_of_ble_eq_true rfl) d_M_check_17 (fun H locs hP hD hS => ?_)
  have hP : va_P (dC, dI) cls (ME h g 0 0 0 0 0 (-1) 0 0 0 0 0 0 0 wo wz (fun _ => 0) (fun _ => 0) (fun _ => 0) (fun _ => 0)) H := hP
  have hD : va_D A (ME h g 0 0 0 0 0 (-1) 0 0 0 0 0 0 0 wo wz (fun _ => 0) (fun _ => 0) (fun _ => 0) (fun _ => 0)) := hD
  refine lv_aload_n hx hb d_M_check_20 rfl (lv_at hl 0 rfl) ?_
  refine lv_iconst (v := 0) hx hb d_M_check_21 (by decide) ?_
  refine va_put (D := (dC, dI)) (ci := 4) (v := .int 0) (ty := .int) (C := "SieveDeskModel") (T := F_M) (N := 19) hx hb ht i_M ty_M ty_M_ok n_M hown hK hP hD hS 0 rfl rfl 14 (by decide) (ht _ k_641) (fun _ h9 => h9) rfl (ty_M_ok 14 (by decide)) rfl rfl (Nat.le_of_ble_eq_true rfl) d_M_check_22 (fun H locs hP hD hS => ?_)
  have hP : va_P (dC, dI) cls (ME h g 0 0 0 0 0 (-1) 0 0 0 0 0 0 0 wo wz (fun _ => 0) (fun _ => 0) (fun _ => 0) (fun _ => 0)) H := hP
  have hD : va_D A (ME h g 0 0 0 0 0 (-1) 0 0 0 0 0 0 0 wo wz (fun _ => 0) (fun _ => 0) (fun _ => 0) (fun _ => 0)) := hD
  refine lv_aload_n hx hb d_M_check_25 rfl (lv_at hl 0 rfl) ?_
  refine lv_iconst (v := 0) hx hb d_M_check_26 (by decide) ?_
  refine va_put (D := (dC, dI)) (ci := 4) (v := .int 0) (ty := .int) (C := "SieveDeskModel") (T := F_M) (N := 19) hx hb ht i_M ty_M ty_M_ok n_M hown hK hP hD hS 0 rfl rfl 15 (by decide) (ht _ k_642) (fun _ h9 => h9) rfl (ty_M_ok 15 (by decide)) rfl rfl (Nat.le_of_ble_eq_true rfl) d_M_check_27 (fun H locs hP hD hS => ?_)
  have hP : va_P (dC, dI) cls (ME h g 0 0 0 0 0 (-1) 0 0 0 0 0 0 0 wo wz (fun _ => 0) (fun _ => 0) (fun _ => 0) (fun _ => 0)) H := hP
  have hD : va_D A (ME h g 0 0 0 0 0 (-1) 0 0 0 0 0 0 0 wo wz (fun _ => 0) (fun _ => 0) (fun _ => 0) (fun _ => 0)) := hD
  refine lv_aload_n hx hb d_M_check_30 rfl (lv_at hl 0 rfl) ?_
  refine lv_iconst (v := 0) hx hb d_M_check_31 (by decide) ?_
  refine va_put (D := (dC, dI)) (ci := 4) (v := .int 0) (ty := .int) (C := "SieveDeskModel") (T := F_M) (N := 19) hx hb ht i_M ty_M ty_M_ok n_M hown hK hP hD hS 0 rfl rfl 16 (by decide) (ht _ k_643) (fun _ h9 => h9) rfl (ty_M_ok 16 (by decide)) rfl rfl (Nat.le_of_ble_eq_true rfl) d_M_check_32 (fun H locs hP hD hS => ?_)
  have hP : va_P (dC, dI) cls (ME h g 0 0 0 0 0 (-1) 0 0 0 0 0 0 0 wo wz (fun _ => 0) (fun _ => 0) (fun _ => 0) (fun _ => 0)) H := hP
  have hD : va_D A (ME h g 0 0 0 0 0 (-1) 0 0 0 0 0 0 0 wo wz (fun _ => 0) (fun _ => 0) (fun _ => 0) (fun _ => 0)) := hD
  refine lv_aload_n hx hb d_M_check_35 rfl (lv_at hl 0 rfl) ?_
  refine lv_iconst (v := 0) hx hb d_M_check_36 (by decide) ?_
  refine va_put (D := (dC, dI)) (ci := 4) (v := .int 0) (ty := .int) (C := "SieveDeskModel") (T := F_M) (N := 19) hx hb ht i_M ty_M ty_M_ok n_M hown hK hP hD hS 0 rfl rfl 17 (by decide) (ht _ k_644) (fun _ h9 => h9) rfl (ty_M_ok 17 (by decide)) rfl rfl (Nat.le_of_ble_eq_true rfl) d_M_check_37 (fun H locs hP hD hS => ?_)
  have hP : va_P (dC, dI) cls (ME h g 0 0 0 0 0 (-1) 0 0 0 0 0 0 0 wo wz (fun _ => 0) (fun _ => 0) (fun _ => 0) (fun _ => 0)) H := hP
  have hD : va_D A (ME h g 0 0 0 0 0 (-1) 0 0 0 0 0 0 0 wo wz (fun _ => 0) (fun _ => 0) (fun _ => 0) (fun _ => 0)) := hD
  refine lv_aload_n hx hb d_M_check_40 rfl (lv_at hl 0 rfl) ?_
  have hFc := va_free (wc := (ME h g 0 0 0 0 0 (-1) 0 0 0 0 0 0 0 wo wz (fun _ => 0) (fun _ => 0) (fun _ => 0) (fun _ => 0))) hD hS hA [0, 1, 2, 3, 4, 5, 6] rfl
  refine va_callv (va_runV (As := []) (rest := []) ⟨hx, hb, hml, hown, ht⟩ (c_M_next l dC dI k h g wo wz _) (cwV 0 ht (g_V k_694 k_696 k_37 k_80 k_697) rfl rfl rfl (by decide +kernel) ⟨(Nat.le_of_ble_eq_true rfl), (Nat.le_of_ble_eq_true rfl)⟩) ⟨fb_X, va_recv hK hP (ci := 4) (q0 := 0) rfl rfl, pre_X hE hS hFc hP hK hD⟩ rfl rfl hl.1 rfl (lv_room (Nat.le_of_ble_eq_true rfl)) d_M_check_41 ⟨(Nat.le_of_ble_eq_true rfl), (Nat.le_of_ble_eq_true rfl)⟩) hS (fun q _ h9 => hFc q h9) hFc (fun u t H locs het hvm hw hB hz1 hk1 hS => ?_)
  obtain ⟨hP1, hK1, hD1⟩ := hB
  rw [het] at hP1
  have hP : va_P (dC, dI) cls (ME h g 0 0 0 0 0 (-1) 0 0 0 0 0 0 0 wo wz (fun _ => 0) (vp_updL (vp_updL (vp_updL (vp_updL (fun _ => 0) 0 0) 1 0) 2 0) 3 0) (fun _ => 0) (fun _ => 0)) H := hP1
  have hD : va_D A (ME h g 0 0 0 0 0 (-1) 0 0 0 0 0 0 0 wo wz (fun _ => 0) (vp_updL (vp_updL (vp_updL (vp_updL (fun _ => 0) 0 0) 1 0) 2 0) 3 0) (fun _ => 0) (fun _ => 0)) := hD1.weaken (fun _ _ _ h9 => hFc _ h9)
  refine lv_aload_n hx hb d_M_check_44 rfl (lv_at hl 0 rfl) ?_
  refine lv_iconst (v := 0) hx hb d_M_check_45 (by decide) ?_
  have hFc := va_free (wc := (ME h g 0 0 0 0 0 (-1) 0 0 0 0 0 0 0 wo wz (fun _ => 0) (vp_updL (vp_updL (vp_updL (vp_updL (fun _ => 0) 0 0) 1 0) 2 0) 3 0) (fun _ => 0) (fun _ => 0))) hD hS hA [0, 1, 2, 3, 4, 5, 6] rfl
  refine va_calli (va_runV (As := [.int 0]) (rest := []) ⟨hx, hb, hml, hown, ht⟩ (c_M_isWord l dC dI k h g wo wz _) (cwV 1 ht (g_V k_767 k_769 k_51 k_80 k_770) rfl rfl rfl (by decide +kernel) ⟨(Nat.le_of_ble_eq_true rfl), (Nat.le_of_ble_eq_true rfl)⟩) ⟨fb_X, va_recv hK hP (ci := 4) (q0 := 0) rfl rfl, pre_X hE hS hFc hP hK hD⟩ rfl rfl hl.1 rfl (lv_room (Nat.le_of_ble_eq_true rfl)) d_M_check_46 ⟨(Nat.le_of_ble_eq_true rfl), (Nat.le_of_ble_eq_true rfl)⟩) hS (fun q _ h9 => hFc q h9) hFc (fun r_2 u t H locs het hvm hw hB hz1 hk1 hS => ?_)
  obtain ⟨hP1, hK1, hD1⟩ := hB
  rw [het] at hP1
  have hP : va_P (dC, dI) cls (ME h g 0 0 0 0 0 (-1) 0 0 0 0 0 0 0 wo wz (fun _ => 0) (vp_updL (vp_updL (vp_updL (vp_updL (fun _ => 0) 0 0) 1 0) 2 0) 3 0) (fun _ => 0) (fun _ => 0)) H := hP1
  have hD : va_D A (ME h g 0 0 0 0 0 (-1) 0 0 0 0 0 0 0 wo wz (fun _ => 0) (vp_updL (vp_updL (vp_updL (vp_updL (fun _ => 0) 0 0) 1 0) 2 0) 3 0) (fun _ => 0) (fun _ => 0)) := hD1.weaken (fun _ _ _ h9 => hFc _ h9)
  subst hw
  refine lv_if_eq (tgt := 70) hx hb d_M_check_49 (by decide) (fun _ => ?_) (fun cn => absurd (by decide) cn)
  refine lv_aload_n hx hb d_M_check_70 rfl (lv_at hl 0 rfl) ?_
  refine lv_iconst (v := 0) hx hb d_M_check_71 (by decide) ?_
  have hFc := va_free (wc := (ME h g 0 0 0 0 0 (-1) 0 0 0 0 0 0 0 wo wz (fun _ => 0) (vp_updL (vp_updL (vp_updL (vp_updL (fun _ => 0) 0 0) 1 0) 2 0) 3 0) (fun _ => 0) (fun _ => 0))) hD hS hA [0, 1, 2, 3, 4, 5, 6] rfl
  refine va_callv (va_runV (As := [.int 0]) (rest := []) ⟨hx, hb, hml, hown, ht⟩ (c_M_push l dC dI k h g wo wz _) (cwV 1 ht (g_V k_795 k_797 k_58 k_80 k_798) rfl rfl rfl (by decide +kernel) ⟨(Nat.le_of_ble_eq_true rfl), (Nat.le_of_ble_eq_true rfl)⟩) ⟨fb_X, va_recv hK hP (ci := 4) (q0 := 0) rfl rfl, pre_X hE hS hFc hP hK hD⟩ rfl rfl hl.1 rfl (lv_room (Nat.le_of_ble_eq_true rfl)) d_M_check_72 ⟨(Nat.le_of_ble_eq_true rfl), (Nat.le_of_ble_eq_true rfl)⟩) hS (fun q _ h9 => hFc q h9) hFc (fun u t H locs het hvm hw hB hz1 hk1 hS => ?_)
  obtain ⟨hP1, hK1, hD1⟩ := hB
  rw [het] at hP1
  have hP : va_P (dC, dI) cls (ME h g 0 0 0 0 0 (-1) 0 0 0 0 0 0 1 wo wz (fun _ => 0) (vp_updL (vp_updL (vp_updL (vp_updL (fun _ => 0) 0 0) 1 0) 2 0) 3 0) (fun _ => 0) (upd (fun _ => 0) 0 0)) H := hP1
  have hD : va_D A (ME h g 0 0 0 0 0 (-1) 0 0 0 0 0 0 1 wo wz (fun _ => 0) (vp_updL (vp_updL (vp_updL (vp_updL (fun _ => 0) 0 0) 1 0) 2 0) 3 0) (fun _ => 0) (upd (fun _ => 0) 0 0)) := hD1.weaken (fun _ _ _ h9 => hFc _ h9)
  refine lv_aload_n hx hb d_M_check_75 rfl (lv_at hl 0 rfl) ?_
  refine va_get (D := (dC, dI)) (ci := 4) (v := .int 1) (C := "SieveDeskModel") (T := F_M) (N := 19) hx hb ht i_M hown hK hP 0 rfl rfl 17 (by decide) (ht _ k_644) (fun _ h9 => h9) rfl d_M_check_76 ?_
  refine lv_if_le (tgt := 108) hx hb d_M_check_79 (by decide) (fun cn => absurd cn (by decide)) (fun _ => ?_)
  refine lv_aload_n hx hb d_M_check_82 rfl (lv_at hl 0 rfl) ?_
  refine lv_aload_n hx hb d_M_check_83 rfl (lv_at hl 0 rfl) ?_
  refine va_get (D := (dC, dI)) (ci := 4) (v := .int 1) (C := "SieveDeskModel") (T := F_M) (N := 19) hx hb ht i_M hown hK hP 0 rfl rfl 17 (by decide) (ht _ k_644) (fun _ h9 => h9) rfl d_M_check_84 ?_
  refine lv_iconst (v := 1) hx hb d_M_check_87 (by decide) ?_
  refine lv_isub hx hb d_M_check_88 ?_
  refine lv_ev (show (1 : Int32) - 1 = 0 by decide) ?_
  refine va_put (D := (dC, dI)) (ci := 4) (v := .int 0) (ty := .int) (C := "SieveDeskModel") (T := F_M) (N := 19) hx hb ht i_M ty_M ty_M_ok n_M hown hK hP hD hS 0 rfl rfl 17 (by decide) (ht _ k_644) (fun _ h9 => h9) rfl (ty_M_ok 17 (by decide)) rfl rfl (Nat.le_of_ble_eq_true rfl) d_M_check_89 (fun H locs hP hD hS => ?_)
  have hP : va_P (dC, dI) cls (ME h g 0 0 0 0 0 (-1) 0 0 0 0 0 0 0 wo wz (fun _ => 0) (vp_updL (vp_updL (vp_updL (vp_updL (fun _ => 0) 0 0) 1 0) 2 0) 3 0) (fun _ => 0) (upd (fun _ => 0) 0 0)) H := hP
  have hD : va_D A (ME h g 0 0 0 0 0 (-1) 0 0 0 0 0 0 0 wo wz (fun _ => 0) (vp_updL (vp_updL (vp_updL (vp_updL (fun _ => 0) 0 0) 1 0) 2 0) 3 0) (fun _ => 0) (upd (fun _ => 0) 0 0)) := hD
  refine lv_aload_n hx hb d_M_check_92 rfl (lv_at hl 0 rfl) ?_
  refine lv_aload_n hx hb d_M_check_93 rfl (lv_at hl 0 rfl) ?_
  refine va_get (D := (dC, dI)) (ci := 4) (v := .ref (h 6)) (C := "SieveDeskModel") (T := F_M) (N := 19) hx hb ht i_M hown hK hP 0 rfl rfl 18 (by decide) (ht _ k_645) (fun _ h9 => h9) rfl d_M_check_94 ?_
  refine lv_aload_n hx hb d_M_check_97 rfl (lv_at hl 0 rfl) ?_
  refine va_get (D := (dC, dI)) (ci := 4) (v := .int 0) (C := "SieveDeskModel") (T := F_M) (N := 19) hx hb ht i_M hown hK hP 0 rfl rfl 17 (by decide) (ht _ k_644) (fun _ h9 => h9) rfl d_M_check_98 ?_
  refine va_iald hx hb hK hP 6 5 rfl rfl (by unfold vp_in; decide) d_M_check_101 ?_
  refine lv_ev (show (upd (fun _ => 0) 0 0) (Int32.toNatClampNeg 0) = 0 by decide) ?_
  have hFc := va_free (wc := (ME h g 0 0 0 0 0 (-1) 0 0 0 0 0 0 0 wo wz (fun _ => 0) (vp_updL (vp_updL (vp_updL (vp_updL (fun _ => 0) 0 0) 1 0) 2 0) 3 0) (fun _ => 0) (upd (fun _ => 0) 0 0))) hD hS hA [0, 1, 2, 3, 4, 5, 6] rfl
  refine va_callv (va_runV (As := [.int 0]) (rest := []) ⟨hx, hb, hml, hown, ht⟩ (c_M_step l dC dI k h g wo wz _) (cwV 1 ht (g_V k_799 k_801 k_59 k_80 k_802) rfl rfl rfl (by decide +kernel) ⟨(Nat.le_of_ble_eq_true rfl), (Nat.le_of_ble_eq_true rfl)⟩) ⟨fb_X, va_recv hK hP (ci := 4) (q0 := 0) rfl rfl, pre_X hE hS hFc hP hK hD⟩ rfl rfl hl.1 rfl (lv_room (Nat.le_of_ble_eq_true rfl)) d_M_check_102 ⟨(Nat.le_of_ble_eq_true rfl), (Nat.le_of_ble_eq_true rfl)⟩) hS (fun q _ h9 => hFc q h9) hFc (fun u t H locs het hvm hw hB hz1 hk1 hS => ?_)
  obtain ⟨hP1, hK1, hD1⟩ := hB
  rw [het] at hP1
  have hP : va_P (dC, dI) cls (ME h g 0 0 0 0 0 (-1) 0 0 0 0 0 0 0 wo wz (fun _ => 0) (vp_updL (vp_updL (vp_updL (vp_updL (fun _ => 0) 0 0) 1 0) 2 0) 3 0) (fun _ => 0) (upd (fun _ => 0) 0 0)) H := hP1
  have hD : va_D A (ME h g 0 0 0 0 0 (-1) 0 0 0 0 0 0 0 wo wz (fun _ => 0) (vp_updL (vp_updL (vp_updL (vp_updL (fun _ => 0) 0 0) 1 0) 2 0) 3 0) (fun _ => 0) (upd (fun _ => 0) 0 0)) := hD1.weaken (fun _ _ _ h9 => hFc _ h9)
  refine lv_goto (tgt := 75) hx hb d_M_check_105 (by decide) ?_
  refine lv_aload_n hx hb d_M_check_75 rfl (lv_at hl 0 rfl) ?_
  refine va_get (D := (dC, dI)) (ci := 4) (v := .int 0) (C := "SieveDeskModel") (T := F_M) (N := 19) hx hb ht i_M hown hK hP 0 rfl rfl 17 (by decide) (ht _ k_644) (fun _ h9 => h9) rfl d_M_check_76 ?_
  refine lv_if_le (tgt := 108) hx hb d_M_check_79 (by decide) (fun _ => ?_) (fun cn => absurd (by decide) cn)
  refine lv_aload_n hx hb d_M_check_108 rfl (lv_at hl 0 rfl) ?_
  refine lv_aload_n hx hb d_M_check_109 rfl (lv_at hl 0 rfl) ?_
  refine va_get (D := (dC, dI)) (ci := 4) (v := .int (-1)) (C := "SieveDeskModel") (T := F_M) (N := 19) hx hb ht i_M hown hK hP 0 rfl rfl 10 (by decide) (ht _ k_637) (fun _ h9 => h9) rfl d_M_check_110 ?_
  refine lv_if_ge (tgt := 120) hx hb d_M_check_113 (by decide) (fun cn => absurd cn (by decide)) (fun _ => ?_)
  refine lv_iconst (v := 0) hx hb d_M_check_116 (by decide) ?_
  refine lv_goto (tgt := 121) hx hb d_M_check_117 (by decide) ?_
  refine va_put (D := (dC, dI)) (ci := 4) (v := .int 0) (ty := .int) (C := "SieveDeskModel") (T := F_M) (N := 19) hx hb ht i_M ty_M ty_M_ok n_M hown hK hP hD hS 0 rfl rfl 11 (by decide) (ht _ k_638) (fun _ h9 => h9) rfl (ty_M_ok 11 (by decide)) rfl rfl (Nat.le_of_ble_eq_true rfl) d_M_check_121 (fun H locs hP hD hS => ?_)
  have hP : va_P (dC, dI) cls (ME h g 0 0 0 0 0 (-1) 0 0 0 0 0 0 0 wo wz (fun _ => 0) (vp_updL (vp_updL (vp_updL (vp_updL (fun _ => 0) 0 0) 1 0) 2 0) 3 0) (fun _ => 0) (upd (fun _ => 0) 0 0)) H := hP
  have hD : va_D A (ME h g 0 0 0 0 0 (-1) 0 0 0 0 0 0 0 wo wz (fun _ => 0) (vp_updL (vp_updL (vp_updL (vp_updL (fun _ => 0) 0 0) 1 0) 2 0) 3 0) (fun _ => 0) (upd (fun _ => 0) 0 0)) := hD
  refine lv_iconst (v := 0) hx hb d_M_check_124 (by decide) ?_
  refine lv_istore_n (lv' := [(1, .int 0), (0, .ref (h 0))]) hx hb d_M_check_125 rfl hl (by decide) rfl (fun ls hl => ?_)
  refine lv_iload_n hx hb d_M_check_126 rfl (lv_at hl 0 rfl) ?_
  refine lv_aload_n hx hb d_M_check_127 rfl (lv_at hl 1 rfl) ?_
  refine va_get (D := (dC, dI)) (ci := 4) (v := .int (-1)) (C := "SieveDeskModel") (T := F_M) (N := 19) hx hb ht i_M hown hK hP 0 rfl rfl 10 (by decide) (ht _ k_637) (fun _ h9 => h9) rfl d_M_check_128 ?_
  refine lv_icmp_ge (tgt := 168) hx hb d_M_check_131 (by decide) (fun _ => ?_) (fun cn => absurd (by decide) cn)
  refine lv_aload_n hx hb d_M_check_168 rfl (lv_at hl 1 rfl) ?_
  refine lv_iconst (v := 0) hx hb d_M_check_169 (by decide) ?_
  refine va_put (D := (dC, dI)) (ci := 4) (v := .int 0) (ty := .int) (C := "SieveDeskModel") (T := F_M) (N := 19) hx hb ht i_M ty_M ty_M_ok n_M hown hK hP hD hS 0 rfl rfl 3 (by decide) (ht _ k_630) (fun _ h9 => h9) rfl (ty_M_ok 3 (by decide)) rfl rfl (Nat.le_of_ble_eq_true rfl) d_M_check_170 (fun H locs hP hD hS => ?_)
  have hP : va_P (dC, dI) cls (ME h g 0 0 0 0 0 (-1) 0 0 0 0 0 0 0 wo wz (fun _ => 0) (vp_updL (vp_updL (vp_updL (vp_updL (fun _ => 0) 0 0) 1 0) 2 0) 3 0) (fun _ => 0) (upd (fun _ => 0) 0 0)) H := hP
  have hD : va_D A (ME h g 0 0 0 0 0 (-1) 0 0 0 0 0 0 0 wo wz (fun _ => 0) (vp_updL (vp_updL (vp_updL (vp_updL (fun _ => 0) 0 0) 1 0) 2 0) 3 0) (fun _ => 0) (upd (fun _ => 0) 0 0)) := hD
  refine lv_aload_n hx hb d_M_check_173 rfl (lv_at hl 1 rfl) ?_
  refine va_get (D := (dC, dI)) (ci := 4) (v := .int 0) (C := "SieveDeskModel") (T := F_M) (N := 19) hx hb ht i_M hown hK hP 0 rfl rfl 11 (by decide) (ht _ k_638) (fun _ h9 => h9) rfl d_M_check_174 ?_
  exact W.iret (v := 0) hx hb hr (fun t het hW => ⟨⟨0, (), rfl, rfl, by rw [het]; exact hP, va_K.moved hW.alike hK, hD⟩, hS.F het⟩) hS.2.2 d_M_check_177

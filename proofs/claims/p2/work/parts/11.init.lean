set_option maxHeartbeats 4000000 in
set_option maxRecDepth 100000 in
theorem c_Q_init (l : Launch) (dC : Nat → ClassId) (dI : Nat → Nat → Nat) (k : Nat → Nat) (o : Nat) (sz : Nat) : Met l y_Q_init (.code y_Q_init b_Q_init 1 none :: TT) ({ frames := 1, cells := 1, slots := 200, locals := 12 }) (va_Pc [.ref o] (PX dC dI k [] [(o, .inr (2, [.null, .int 0]))] sz)) (va_Qv (fun u : (Nat → Nat) × (Nat → ClassId) => True) (fun u t => BX dC dI [((u.2 0), .byte)] (va_A [(o, .inr (2, [.null, .int 0]))] sz) [(o, .inr (2, [.ref (u.1 0), .int 0])), ((u.1 0), .inl ((u.2 0), 200, .inl (fun _ => 0)))] t) (va_A [(o, .inr (2, [.null, .int 0]))] sz)) 1 200 (va_A [(o, .inr (2, [.null, .int 0]))] sz) := by
  refine Met.ofW (cc := b_Q_init) (maxL := 1) (ret := none) (by decide) rfl ?_
  intro p e s m args below meth c s₁ B hml hv
  obtain ⟨rfl, hsz, hE, hP, hK, hD0⟩ := hv
  have hx := B.exec
  have hb := B.bytes
  have hr := B.returns
  have ht : ∀ w ∈ TT, w.before _ s = true := fun w hw => atoms_spec (ws := .code y_Q_init b_Q_init 1 none :: TT) B.pre w (List.mem_cons_of_mem _ hw)
  have hown : s.vm.findClass "SieveDesk$Quoted" = some m.cls := findClass_of_methodNamed B.named
  have hlocks := B.notSynchronized
  have hin : meth.name = "<init>" := (name_of_methodNamed B.named B.method).1
  subst hsz
  have hD := hD0.self (sz := s.heap.size)
  generalize hAe : va_A [(o, .inr (2, [.null, .int 0]))] s.heap.size = A at hE hD ⊢
  have hA : ∀ q : Nat, s.heap.size ≤ q → A q := fun q h9 => by rw [← hAe]; exact Or.inr h9
  have hS : va_S A s.heap s.heap [] := va_S.rf
  have hl := lv_entry ([.ref o]) (n := 1) (Nat.le_of_ble_eq_true rfl)
  rw [lg_entry_eq]
  generalize (lg_sl ([.ref o]) ++ List.replicate (1 - (lg_sl ([.ref o])).length) Slot.unset).toArray = ls at hl ⊢
  have hl : lv_has ls 1 [(0, .ref o)] := hl
  refine lv_aload_n hx hb d_Q_init_0 rfl (lv_at hl 0 rfl) ?_
  refine W.objInit hx hb hown (ht _ k_109) (ht _ k_94) (ht _ k_95) rfl (by rw [hml]; exact hl.1) rfl d_Q_init_1 (Nat.le_of_ble_eq_true rfl) (Nat.le_of_ble_eq_true rfl) ?_
  refine W.eq (g2 := F0 m 4 ls []) rfl ?_
  refine lv_aload_n hx hb d_Q_init_4 rfl (lv_at hl 0 rfl) ?_
  refine lv_sipush (v := 200) hx hb d_Q_init_5 (by decide) ?_
  refine va_newa (atype := .byte) (ty := .byte) (N' := 200) (a0 := (200, .inl (fun _ => 0))) hx hb (ht _ k_117) rfl hK hP hD hS hA (fun _ => rfl) (by decide) (by decide) (by decide) (Nat.le_of_ble_eq_true rfl) (Nat.le_of_ble_eq_true rfl) d_Q_init_8 (fun q_1 g_2 H hK hP hD hS => ?_)
  have hP : va_P (dC, dI) cls [(o, .inr (2, [.null, .int 0])), (q_1, .inl (g_2, 200, .inl (fun _ => 0)))] H := hP
  have hD : va_D A [(o, .inr (2, [.null, .int 0])), (q_1, .inl (g_2, 200, .inl (fun _ => 0)))] := hD
  have hK : va_K (dC, dI) cls [(g_2, .byte)] s := hK
  refine W.widen (k := 1) (n := 200) (by decide) (by decide) ?_
  refine va_putF (D := (dC, dI)) (ci := 2) (v := .ref q_1) (ty := .array .byte) (C := "SieveDesk$Quoted") (T := F_Q) (N := 2) hx hb ht i_Q ty_Q ty_Q_ok n_Q hown hK hP hD hS 0 rfl rfl 0 (by decide) (ht _ k_110) (fun _ h9 => h9) rfl hin rfl (ty_Q_ok 0 (by decide)) rfl rfl (Nat.le_of_ble_eq_true rfl) d_Q_init_10 (fun H locs hP hD hS => ?_)
  have hP : va_P (dC, dI) cls [(o, .inr (2, [.ref q_1, .int 0])), (q_1, .inl (g_2, 200, .inl (fun _ => 0)))] H := hP
  have hD : va_D A [(o, .inr (2, [.ref q_1, .int 0])), (q_1, .inl (g_2, 200, .inl (fun _ => 0)))] := hD
  refine lv_aload_n hx hb d_Q_init_13 rfl (lv_at hl 0 rfl) ?_
  refine lv_iconst (v := 0) hx hb d_Q_init_14 (by decide) ?_
  refine va_put (D := (dC, dI)) (ci := 2) (v := .int 0) (ty := .int) (C := "SieveDesk$Quoted") (T := F_Q) (N := 2) hx hb ht i_Q ty_Q ty_Q_ok n_Q hown hK hP hD hS 0 rfl rfl 1 (by decide) (ht _ k_111) (fun _ h9 => h9) rfl (ty_Q_ok 1 (by decide)) rfl rfl (Nat.le_of_ble_eq_true rfl) d_Q_init_15 (fun H locs hP hD hS => ?_)
  have hP : va_P (dC, dI) cls [(o, .inr (2, [.ref q_1, .int 0])), (q_1, .inl (g_2, 200, .inl (fun _ => 0)))] H := hP
  have hD : va_D A [(o, .inr (2, [.ref q_1, .int 0])), (q_1, .inl (g_2, 200, .inl (fun _ => 0)))] := hD
  exact W.vret hx hb hr (fun t het hW => ⟨⟨((fun i => match i with | 0 => q_1 | _ => 0), (fun i => match i with | _ => g_2)), rfl, trivial, by rw [het]; exact hP, va_K.moved hW.alike hK, hD⟩, hS.F het⟩) hS.2.2 d_Q_init_18
set_option maxHeartbeats 4000000 in
set_option maxRecDepth 100000 in
theorem c_T_init (l : Launch) (dC : Nat → ClassId) (dI : Nat → Nat → Nat) (k : Nat → Nat) (o sp : Nat) (sz : Nat) : Met l y_T_init (.code y_T_init b_T_init 2 none :: TT) ({ frames := 2, cells := 6, slots := 1806, locals := 32 }) (va_Pc [.ref o, .ref sp] (PX dC dI k [] [(o, .inr (1, [.null, .null, .null, .null, .null, .null, .int 0, .int 0, .int 0]))] sz)) (va_Qv (fun u : (Nat → Nat) × (Nat → ClassId) => True) (fun u t => BX dC dI [((u.2 0), .int), ((u.2 1), .int), ((u.2 2), .object "SieveDesk$Word"), ((u.2 3), .int), ((u.2 4), .byte)] (va_A [(o, .inr (1, [.null, .null, .null, .null, .null, .null, .int 0, .int 0, .int 0]))] sz) [(o, .inr (1, [.ref sp, .ref (u.1 0), .ref (u.1 1), .ref (u.1 2), .ref (u.1 3), .ref (u.1 4), .int 0, .int 0, .int 0])), ((u.1 0), .inl ((u.2 0), 401, .inl (fun _ => 0))), ((u.1 1), .inl ((u.2 1), 401, .inl (fun _ => 0))), ((u.1 2), .inl ((u.2 2), 401, .inr (.inr (.inr (.inr (fun _ => none)))))), ((u.1 3), .inl ((u.2 3), 401, .inl (fun _ => 0))), ((u.1 4), .inr (2, [.ref (u.1 5), .int 0])), ((u.1 5), .inl ((u.2 4), 200, .inl (fun _ => 0)))] t) (va_A [(o, .inr (1, [.null, .null, .null, .null, .null, .null, .int 0, .int 0, .int 0]))] sz)) 6 1806 (va_A [(o, .inr (1, [.null, .null, .null, .null, .null, .null, .int 0, .int 0, .int 0]))] sz) := by
  refine Met.ofW (cc := b_T_init) (maxL := 2) (ret := none) (by decide) rfl ?_
  intro p e s m args below meth c s₁ B hml hv
  obtain ⟨rfl, hsz, hE, hP, hK, hD0⟩ := hv
  have hx := B.exec
  have hb := B.bytes
  have hr := B.returns
  have ht : ∀ w ∈ TT, w.before _ s = true := fun w hw => atoms_spec (ws := .code y_T_init b_T_init 2 none :: TT) B.pre w (List.mem_cons_of_mem _ hw)
  have hown : s.vm.findClass "SieveDesk$Tokens" = some m.cls := findClass_of_methodNamed B.named
  have hlocks := B.notSynchronized
  have hin : meth.name = "<init>" := (name_of_methodNamed B.named B.method).1
  subst hsz
  have hD := hD0.self (sz := s.heap.size)
  generalize hAe : va_A [(o, .inr (1, [.null, .null, .null, .null, .null, .null, .int 0, .int 0, .int 0]))] s.heap.size = A at hE hD ⊢
  have hA : ∀ q : Nat, s.heap.size ≤ q → A q := fun q h9 => by rw [← hAe]; exact Or.inr h9
  have hS : va_S A s.heap s.heap [] := va_S.rf
  have hl := lv_entry ([.ref o, .ref sp]) (n := 2) (Nat.le_of_ble_eq_true rfl)
  rw [lg_entry_eq]
  generalize (lg_sl ([.ref o, .ref sp]) ++ List.replicate (2 - (lg_sl ([.ref o, .ref sp])).length) Slot.unset).toArray = ls at hl ⊢
  have hl : lv_has ls 2 [(0, .ref o), (1, .ref sp)] := hl
  refine lv_aload_n hx hb d_T_init_0 rfl (lv_at hl 0 rfl) ?_
  refine W.objInit hx hb hown (ht _ k_101) (ht _ k_94) (ht _ k_95) rfl (by rw [hml]; exact hl.1) rfl d_T_init_1 (Nat.le_of_ble_eq_true rfl) (Nat.le_of_ble_eq_true rfl) ?_
  refine W.eq (g2 := F0 m 4 ls []) rfl ?_
  refine lv_aload_n hx hb d_T_init_4 rfl (lv_at hl 0 rfl) ?_
  refine lv_aload_n hx hb d_T_init_5 rfl (lv_at hl 1 rfl) ?_
  refine va_putF (D := (dC, dI)) (ci := 1) (v := .ref sp) (ty := .array .byte) (C := "SieveDesk$Tokens") (T := F_T) (N := 9) hx hb ht i_T ty_T ty_T_ok n_T hown hK hP hD hS 0 rfl rfl 0 (by decide) (ht _ k_119) (fun _ h9 => h9) rfl hin rfl (ty_T_ok 0 (by decide)) rfl rfl (Nat.le_of_ble_eq_true rfl) d_T_init_6 (fun H locs hP hD hS => ?_)
  have hP : va_P (dC, dI) cls [(o, .inr (1, [.ref sp, .null, .null, .null, .null, .null, .int 0, .int 0, .int 0]))] H := hP
  have hD : va_D A [(o, .inr (1, [.ref sp, .null, .null, .null, .null, .null, .int 0, .int 0, .int 0]))] := hD
  refine lv_aload_n hx hb d_T_init_9 rfl (lv_at hl 0 rfl) ?_
  refine lv_sipush (v := 401) hx hb d_T_init_10 (by decide) ?_
  refine va_newa (atype := .int) (ty := .int) (N' := 401) (a0 := (401, .inl (fun _ => 0))) hx hb (ht _ k_118) rfl hK hP hD hS hA (fun _ => rfl) (by decide) (by decide) (by decide) (Nat.le_of_ble_eq_true rfl) (Nat.le_of_ble_eq_true rfl) d_T_init_13 (fun q_1 g_2 H hK hP hD hS => ?_)
  have hP : va_P (dC, dI) cls [(o, .inr (1, [.ref sp, .null, .null, .null, .null, .null, .int 0, .int 0, .int 0])), (q_1, .inl (g_2, 401, .inl (fun _ => 0)))] H := hP
  have hD : va_D A [(o, .inr (1, [.ref sp, .null, .null, .null, .null, .null, .int 0, .int 0, .int 0])), (q_1, .inl (g_2, 401, .inl (fun _ => 0)))] := hD
  have hK : va_K (dC, dI) cls [(g_2, .int)] s := hK
  refine W.widen (k := 1) (n := 401) (by decide) (by decide) ?_
  refine va_putF (D := (dC, dI)) (ci := 1) (v := .ref q_1) (ty := .array .int) (C := "SieveDesk$Tokens") (T := F_T) (N := 9) hx hb ht i_T ty_T ty_T_ok n_T hown hK hP hD hS 0 rfl rfl 1 (by decide) (ht _ k_120) (fun _ h9 => h9) rfl hin rfl (ty_T_ok 1 (by decide)) rfl rfl (Nat.le_of_ble_eq_true rfl) d_T_init_15 (fun H locs hP hD hS => ?_)
  have hP : va_P (dC, dI) cls [(o, .inr (1, [.ref sp, .ref q_1, .null, .null, .null, .null, .int 0, .int 0, .int 0])), (q_1, .inl (g_2, 401, .inl (fun _ => 0)))] H := hP
  have hD : va_D A [(o, .inr (1, [.ref sp, .ref q_1, .null, .null, .null, .null, .int 0, .int 0, .int 0])), (q_1, .inl (g_2, 401, .inl (fun _ => 0)))] := hD
  refine lv_aload_n hx hb d_T_init_18 rfl (lv_at hl 0 rfl) ?_
  refine lv_sipush (v := 401) hx hb d_T_init_19 (by decide) ?_
  refine va_newa (atype := .int) (ty := .int) (N' := 401) (a0 := (401, .inl (fun _ => 0))) hx hb (ht _ k_118) rfl hK hP hD hS hA (fun _ => rfl) (by decide) (by decide) (by decide) (Nat.le_of_ble_eq_true rfl) (Nat.le_of_ble_eq_true rfl) d_T_init_22 (fun q_3 g_4 H hK hP hD hS => ?_)
  have hP : va_P (dC, dI) cls [(o, .inr (1, [.ref sp, .ref q_1, .null, .null, .null, .null, .int 0, .int 0, .int 0])), (q_1, .inl (g_2, 401, .inl (fun _ => 0))), (q_3, .inl (g_4, 401, .inl (fun _ => 0)))] H := hP
  have hD : va_D A [(o, .inr (1, [.ref sp, .ref q_1, .null, .null, .null, .null, .int 0, .int 0, .int 0])), (q_1, .inl (g_2, 401, .inl (fun _ => 0))), (q_3, .inl (g_4, 401, .inl (fun _ => 0)))] := hD
  have hK : va_K (dC, dI) cls [(g_2, .int), (g_4, .int)] s := hK
  refine W.widen (k := 2) (n := 802) (by decide) (by decide) ?_
  refine va_putF (D := (dC, dI)) (ci := 1) (v := .ref q_3) (ty := .array .int) (C := "SieveDesk$Tokens") (T := F_T) (N := 9) hx hb ht i_T ty_T ty_T_ok n_T hown hK hP hD hS 0 rfl rfl 2 (by decide) (ht _ k_122) (fun _ h9 => h9) rfl hin rfl (ty_T_ok 2 (by decide)) rfl rfl (Nat.le_of_ble_eq_true rfl) d_T_init_24 (fun H locs hP hD hS => ?_)
  have hP : va_P (dC, dI) cls [(o, .inr (1, [.ref sp, .ref q_1, .ref q_3, .null, .null, .null, .int 0, .int 0, .int 0])), (q_1, .inl (g_2, 401, .inl (fun _ => 0))), (q_3, .inl (g_4, 401, .inl (fun _ => 0)))] H := hP
  have hD : va_D A [(o, .inr (1, [.ref sp, .ref q_1, .ref q_3, .null, .null, .null, .int 0, .int 0, .int 0])), (q_1, .inl (g_2, 401, .inl (fun _ => 0))), (q_3, .inl (g_4, 401, .inl (fun _ => 0)))] := hD
  refine lv_aload_n hx hb d_T_init_27 rfl (lv_at hl 0 rfl) ?_
  refine lv_sipush (v := 401) hx hb d_T_init_28 (by decide) ?_
  refine va_newq (C := "SieveDesk$Word") (N' := 401) hx hb hown (ht _ k_102) hE.2.1 hK hP hD hS hA (by decide) (by decide) (by decide) (Nat.le_of_ble_eq_true rfl) (Nat.le_of_ble_eq_true rfl) d_T_init_31 (fun q_5 g_6 H hK hP hD hS => ?_)
  have hP : va_P (dC, dI) cls [(o, .inr (1, [.ref sp, .ref q_1, .ref q_3, .null, .null, .null, .int 0, .int 0, .int 0])), (q_1, .inl (g_2, 401, .inl (fun _ => 0))), (q_3, .inl (g_4, 401, .inl (fun _ => 0))), (q_5, .inl (g_6, 401, .inr (.inr (.inr (.inr (fun _ => none))))))] H := hP
  have hD : va_D A [(o, .inr (1, [.ref sp, .ref q_1, .ref q_3, .null, .null, .null, .int 0, .int 0, .int 0])), (q_1, .inl (g_2, 401, .inl (fun _ => 0))), (q_3, .inl (g_4, 401, .inl (fun _ => 0))), (q_5, .inl (g_6, 401, .inr (.inr (.inr (.inr (fun _ => none))))))] := hD
  have hK : va_K (dC, dI) cls [(g_2, .int), (g_4, .int), (g_6, .object "SieveDesk$Word")] s := hK
  refine W.widen (k := 3) (n := 1203) (by decide) (by decide) ?_
  refine va_putF (D := (dC, dI)) (ci := 1) (v := .ref q_5) (ty := .array (.object "SieveDesk$Word")) (C := "SieveDesk$Tokens") (T := F_T) (N := 9) hx hb ht i_T ty_T ty_T_ok n_T hown hK hP hD hS 0 rfl rfl 3 (by decide) (ht _ k_124) (fun _ h9 => h9) rfl hin rfl (ty_T_ok 3 (by decide)) rfl rfl (Nat.le_of_ble_eq_true rfl) d_T_init_34 (fun H locs hP hD hS => ?_)
  have hP : va_P (dC, dI) cls [(o, .inr (1, [.ref sp, .ref q_1, .ref q_3, .ref q_5, .null, .null, .int 0, .int 0, .int 0])), (q_1, .inl (g_2, 401, .inl (fun _ => 0))), (q_3, .inl (g_4, 401, .inl (fun _ => 0))), (q_5, .inl (g_6, 401, .inr (.inr (.inr (.inr (fun _ => none))))))] H := hP
  have hD : va_D A [(o, .inr (1, [.ref sp, .ref q_1, .ref q_3, .ref q_5, .null, .null, .int 0, .int 0, .int 0])), (q_1, .inl (g_2, 401, .inl (fun _ => 0))), (q_3, .inl (g_4, 401, .inl (fun _ => 0))), (q_5, .inl (g_6, 401, .inr (.inr (.inr (.inr (fun _ => none))))))] := hD
  refine lv_aload_n hx hb d_T_init_37 rfl (lv_at hl 0 rfl) ?_
  refine lv_sipush (v := 401) hx hb d_T_init_38 (by decide) ?_
  refine va_newa (atype := .int) (ty := .int) (N' := 401) (a0 := (401, .inl (fun _ => 0))) hx hb (ht _ k_118) rfl hK hP hD hS hA (fun _ => rfl) (by decide) (by decide) (by decide) (Nat.le_of_ble_eq_true rfl) (Nat.le_of_ble_eq_true rfl) d_T_init_41 (fun q_7 g_8 H hK hP hD hS => ?_)
  have hP : va_P (dC, dI) cls [(o, .inr (1, [.ref sp, .ref q_1, .ref q_3, .ref q_5, .null, .null, .int 0, .int 0, .int 0])), (q_1, .inl (g_2, 401, .inl (fun _ => 0))), (q_3, .inl (g_4, 401, .inl (fun _ => 0))), (q_5, .inl (g_6, 401, .inr (.inr (.inr (.inr (fun _ => none)))))), (q_7, .inl (g_8, 401, .inl (fun _ => 0)))] H := hP
  have hD : va_D A [(o, .inr (1, [.ref sp, .ref q_1, .ref q_3, .ref q_5, .null, .null, .int 0, .int 0, .int 0])), (q_1, .inl (g_2, 401, .inl (fun _ => 0))), (q_3, .inl (g_4, 401, .inl (fun _ => 0))), (q_5, .inl (g_6, 401, .inr (.inr (.inr (.inr (fun _ => none)))))), (q_7, .inl (g_8, 401, .inl (fun _ => 0)))] := hD
  have hK : va_K (dC, dI) cls [(g_2, .int), (g_4, .int), (g_6, .object "SieveDesk$Word"), (g_8, .int)] s := hK
  refine W.widen (k := 4) (n := 1604) (by decide) (by decide) ?_
  refine va_putF (D := (dC, dI)) (ci := 1) (v := .ref q_7) (ty := .array .int) (C := "SieveDesk$Tokens") (T := F_T) (N := 9) hx hb ht i_T ty_T ty_T_ok n_T hown hK hP hD hS 0 rfl rfl 4 (by decide) (ht _ k_126) (fun _ h9 => h9) rfl hin rfl (ty_T_ok 4 (by decide)) rfl rfl (Nat.le_of_ble_eq_true rfl) d_T_init_43 (fun H locs hP hD hS => ?_)
  have hP : va_P (dC, dI) cls [(o, .inr (1, [.ref sp, .ref q_1, .ref q_3, .ref q_5, .ref q_7, .null, .int 0, .int 0, .int 0])), (q_1, .inl (g_2, 401, .inl (fun _ => 0))), (q_3, .inl (g_4, 401, .inl (fun _ => 0))), (q_5, .inl (g_6, 401, .inr (.inr (.inr (.inr (fun _ => none)))))), (q_7, .inl (g_8, 401, .inl (fun _ => 0)))] H := hP
  have hD : va_D A [(o, .inr (1, [.ref sp, .ref q_1, .ref q_3, .ref q_5, .ref q_7, .null, .int 0, .int 0, .int 0])), (q_1, .inl (g_2, 401, .inl (fun _ => 0))), (q_3, .inl (g_4, 401, .inl (fun _ => 0))), (q_5, .inl (g_6, 401, .inr (.inr (.inr (.inr (fun _ => none)))))), (q_7, .inl (g_8, 401, .inl (fun _ => 0)))] := hD
  refine lv_aload_n hx hb d_T_init_46 rfl (lv_at hl 0 rfl) ?_
  refine va_new (ci := 2) (fs := [.null, .int 0]) (C := "SieveDesk$Quoted") (T := F_Q) (N := 2) hx hb ht i_Q ty_Q ty_Q_ok hown (ht _ k_104) (ht _ k_105) (ht _ k_76) hK hP hD hS hA rfl (by decide +kernel) (Nat.le_of_ble_eq_true rfl) (Nat.le_of_ble_eq_true rfl) d_T_init_47 (fun q_9 H hP hD hS => ?_)
  have hP : va_P (dC, dI) cls [(o, .inr (1, [.ref sp, .ref q_1, .ref q_3, .ref q_5, .ref q_7, .null, .int 0, .int 0, .int 0])), (q_1, .inl (g_2, 401, .inl (fun _ => 0))), (q_3, .inl (g_4, 401, .inl (fun _ => 0))), (q_5, .inl (g_6, 401, .inr (.inr (.inr (.inr (fun _ => none)))))), (q_7, .inl (g_8, 401, .inl (fun _ => 0))), (q_9, .inr (2, [.null, .int 0]))] H := hP
  have hD : va_D A [(o, .inr (1, [.ref sp, .ref q_1, .ref q_3, .ref q_5, .ref q_7, .null, .int 0, .int 0, .int 0])), (q_1, .inl (g_2, 401, .inl (fun _ => 0))), (q_3, .inl (g_4, 401, .inl (fun _ => 0))), (q_5, .inl (g_6, 401, .inr (.inr (.inr (.inr (fun _ => none)))))), (q_7, .inl (g_8, 401, .inl (fun _ => 0))), (q_9, .inr (2, [.null, .int 0]))] := hD
  refine W.widen (k := 5) (n := 1606) (by decide) (by decide) ?_
  refine lv_dup hx hb d_T_init_50 rfl ?_
  have hPc := hP.sub (ws' := [(q_9, .inr (2, [.null, .int 0]))]) [5] rfl
  have hDc := hD.sub (ws' := [(q_9, .inr (2, [.null, .int 0]))]) [5] (by decide) rfl
  have hKc := hK.sub (tys' := []) [] rfl
  have hFc := va_free (wc := [(q_9, .inr (2, [.null, .int 0]))]) hD hS hA [5] rfl
  refine va_callv (va_runI (As := []) (rest := [.ref q_9, .ref o]) ⟨hx, hb, hml, hown, ht⟩ (c_Q_init l dC dI k q_9  H.size) (cwI 0 ht (g_C k_108) rfl rfl rfl (ht _ k_76) (ht _ k_106) (ht _ k_107) rfl (by decide +kernel) ⟨(Nat.le_of_ble_eq_true rfl), (Nat.le_of_ble_eq_true rfl)⟩) ⟨fb_X, pre_X hE hS hFc hPc hKc hDc⟩ rfl rfl hl.1 rfl (lv_room (Nat.le_of_ble_eq_true rfl)) d_T_init_51 ⟨(Nat.le_of_ble_eq_true rfl), (Nat.le_of_ble_eq_true rfl)⟩) hS (fun q _ h9 => hFc q h9) hFc (fun u_10 t H1 locs het hvm hw hB hz1 hk1 hS => ?_)
  obtain ⟨hP1, hK1, hD1⟩ := hB
  rw [het] at hP1
  have hK1 := va_K.moved hvm.symm hK1
  obtain ⟨hP, hD⟩ := va_join (wr := [(o, .inr (1, [.ref sp, .ref q_1, .ref q_3, .ref q_5, .ref q_7, .null, .int 0, .int 0, .int 0])), (q_1, .inl (g_2, 401, .inl (fun _ => 0))), (q_3, .inl (g_4, 401, .inl (fun _ => 0))), (q_5, .inl (g_6, 401, .inr (.inr (.inr (.inr (fun _ => none)))))), (q_7, .inl (g_8, 401, .inl (fun _ => 0)))]) (w1 := [(q_9, .inr (2, [.ref (u_10.1 0), .int 0])), ((u_10.1 0), .inl ((u_10.2 0), 200, .inl (fun _ => 0)))]) hP hD [5] [0, 1, 2, 3, 4] rfl rfl (by decide) (by decide) hk1 hFc hP1 hD1
  have hK := hK.app hK1
  generalize H1 = H at hP hS ⊢
  have hP : va_P (dC, dI) cls [(o, .inr (1, [.ref sp, .ref q_1, .ref q_3, .ref q_5, .ref q_7, .null, .int 0, .int 0, .int 0])), (q_1, .inl (g_2, 401, .inl (fun _ => 0))), (q_3, .inl (g_4, 401, .inl (fun _ => 0))), (q_5, .inl (g_6, 401, .inr (.inr (.inr (.inr (fun _ => none)))))), (q_7, .inl (g_8, 401, .inl (fun _ => 0))), (q_9, .inr (2, [.ref (u_10.1 0), .int 0])), ((u_10.1 0), .inl ((u_10.2 0), 200, .inl (fun _ => 0)))] H := hP
  have hD : va_D A [(o, .inr (1, [.ref sp, .ref q_1, .ref q_3, .ref q_5, .ref q_7, .null, .int 0, .int 0, .int 0])), (q_1, .inl (g_2, 401, .inl (fun _ => 0))), (q_3, .inl (g_4, 401, .inl (fun _ => 0))), (q_5, .inl (g_6, 401, .inr (.inr (.inr (.inr (fun _ => none)))))), (q_7, .inl (g_8, 401, .inl (fun _ => 0))), (q_9, .inr (2, [.ref (u_10.1 0), .int 0])), ((u_10.1 0), .inl ((u_10.2 0), 200, .inl (fun _ => 0)))] := hD
  have hK : va_K (dC, dI) cls [(g_2, .int), (g_4, .int), (g_6, .object "SieveDesk$Word"), (g_8, .int), ((u_10.2 0), .byte)] s := hK
  refine W.widen (k := 6) (n := 1806) (by decide) (by decide) ?_
  refine va_putF (D := (dC, dI)) (ci := 1) (v := .ref q_9) (ty := .object "SieveDesk$Quoted") (C := "SieveDesk$Tokens") (T := F_T) (N := 9) hx hb ht i_T ty_T ty_T_ok n_T hown hK hP hD hS 0 rfl rfl 5 (by decide) (ht _ k_128) (fun _ h9 => h9) rfl hin rfl (ty_T_ok 5 (by decide)) rfl rfl (Nat.le_of_ble_eq_true rfl) d_T_init_54 (fun H locs hP hD hS => ?_)
  have hP : va_P (dC, dI) cls [(o, .inr (1, [.ref sp, .ref q_1, .ref q_3, .ref q_5, .ref q_7, .ref q_9, .int 0, .int 0, .int 0])), (q_1, .inl (g_2, 401, .inl (fun _ => 0))), (q_3, .inl (g_4, 401, .inl (fun _ => 0))), (q_5, .inl (g_6, 401, .inr (.inr (.inr (.inr (fun _ => none)))))), (q_7, .inl (g_8, 401, .inl (fun _ => 0))), (q_9, .inr (2, [.ref (u_10.1 0), .int 0])), ((u_10.1 0), .inl ((u_10.2 0), 200, .inl (fun _ => 0)))] H := hP
  have hD : va_D A [(o, .inr (1, [.ref sp, .ref q_1, .ref q_3, .ref q_5, .ref q_7, .ref q_9, .int 0, .int 0, .int 0])), (q_1, .inl (g_2, 401, .inl (fun _ => 0))), (q_3, .inl (g_4, 401, .inl (fun _ => 0))), (q_5, .inl (g_6, 401, .inr (.inr (.inr (.inr (fun _ => none)))))), (q_7, .inl (g_8, 401, .inl (fun _ => 0))), (q_9, .inr (2, [.ref (u_10.1 0), .int 0])), ((u_10.1 0), .inl ((u_10.2 0), 200, .inl (fun _ => 0)))] := hD
  refine lv_aload_n hx hb d_T_init_57 rfl (lv_at hl 0 rfl) ?_
  refine lv_iconst (v := 0) hx hb d_T_init_58 (by decide) ?_
  refine va_put (D := (dC, dI)) (ci := 1) (v := .int 0) (ty := .int) (C := "SieveDesk$Tokens") (T := F_T) (N := 9) hx hb ht i_T ty_T ty_T_ok n_T hown hK hP hD hS 0 rfl rfl 6 (by decide) (ht _ k_129) (fun _ h9 => h9) rfl (ty_T_ok 6 (by decide)) rfl rfl (Nat.le_of_ble_eq_true rfl) d_T_init_59 (fun H locs hP hD hS => ?_)
  have hP : va_P (dC, dI) cls [(o, .inr (1, [.ref sp, .ref q_1, .ref q_3, .ref q_5, .ref q_7, .ref q_9, .int 0, .int 0, .int 0])), (q_1, .inl (g_2, 401, .inl (fun _ => 0))), (q_3, .inl (g_4, 401, .inl (fun _ => 0))), (q_5, .inl (g_6, 401, .inr (.inr (.inr (.inr (fun _ => none)))))), (q_7, .inl (g_8, 401, .inl (fun _ => 0))), (q_9, .inr (2, [.ref (u_10.1 0), .int 0])), ((u_10.1 0), .inl ((u_10.2 0), 200, .inl (fun _ => 0)))] H := hP
  have hD : va_D A [(o, .inr (1, [.ref sp, .ref q_1, .ref q_3, .ref q_5, .ref q_7, .ref q_9, .int 0, .int 0, .int 0])), (q_1, .inl (g_2, 401, .inl (fun _ => 0))), (q_3, .inl (g_4, 401, .inl (fun _ => 0))), (q_5, .inl (g_6, 401, .inr (.inr (.inr (.inr (fun _ => none)))))), (q_7, .inl (g_8, 401, .inl (fun _ => 0))), (q_9, .inr (2, [.ref (u_10.1 0), .int 0])), ((u_10.1 0), .inl ((u_10.2 0), 200, .inl (fun _ => 0)))] := hD
  refine lv_aload_n hx hb d_T_init_62 rfl (lv_at hl 0 rfl) ?_
  refine lv_iconst (v := 0) hx hb d_T_init_63 (by decide) ?_
  refine va_put (D := (dC, dI)) (ci := 1) (v := .int 0) (ty := .int) (C := "SieveDesk$Tokens") (T := F_T) (N := 9) hx hb ht i_T ty_T ty_T_ok n_T hown hK hP hD hS 0 rfl rfl 7 (by decide) (ht _ k_131) (fun _ h9 => h9) rfl (ty_T_ok 7 (by decide)) rfl rfl (Nat.le_of_ble_eq_true rfl) d_T_init_64 (fun H locs hP hD hS => ?_)
  have hP : va_P (dC, dI) cls [(o, .inr (1, [.ref sp, .ref q_1, .ref q_3, .ref q_5, .ref q_7, .ref q_9, .int 0, .int 0, .int 0])), (q_1, .inl (g_2, 401, .inl (fun _ => 0))), (q_3, .inl (g_4, 401, .inl (fun _ => 0))), (q_5, .inl (g_6, 401, .inr (.inr (.inr (.inr (fun _ => none)))))), (q_7, .inl (g_8, 401, .inl (fun _ => 0))), (q_9, .inr (2, [.ref (u_10.1 0), .int 0])), ((u_10.1 0), .inl ((u_10.2 0), 200, .inl (fun _ => 0)))] H := hP
  have hD : va_D A [(o, .inr (1, [.ref sp, .ref q_1, .ref q_3, .ref q_5, .ref q_7, .ref q_9, .int 0, .int 0, .int 0])), (q_1, .inl (g_2, 401, .inl (fun _ => 0))), (q_3, .inl (g_4, 401, .inl (fun _ => 0))), (q_5, .inl (g_6, 401, .inr (.inr (.inr (.inr (fun _ => none)))))), (q_7, .inl (g_8, 401, .inl (fun _ => 0))), (q_9, .inr (2, [.ref (u_10.1 0), .int 0])), ((u_10.1 0), .inl ((u_10.2 0), 200, .inl (fun _ => 0)))] := hD
  refine lv_aload_n hx hb d_T_init_67 rfl (lv_at hl 0 rfl) ?_
  refine lv_iconst (v := 0) hx hb d_T_init_68 (by decide) ?_
  refine va_put (D := (dC, dI)) (ci := 1) (v := .int 0) (ty := .int) (C := "SieveDesk$Tokens") (T := F_T) (N := 9) hx hb ht i_T ty_T ty_T_ok n_T hown hK hP hD hS 0 rfl rfl 8 (by decide) (ht _ k_132) (fun _ h9 => h9) rfl (ty_T_ok 8 (by decide)) rfl rfl (Nat.le_of_ble_eq_true rfl) d_T_init_69 (fun H locs hP hD hS => ?_)
  have hP : va_P (dC, dI) cls [(o, .inr (1, [.ref sp, .ref q_1, .ref q_3, .ref q_5, .ref q_7, .ref q_9, .int 0, .int 0, .int 0])), (q_1, .inl (g_2, 401, .inl (fun _ => 0))), (q_3, .inl (g_4, 401, .inl (fun _ => 0))), (q_5, .inl (g_6, 401, .inr (.inr (.inr (.inr (fun _ => none)))))), (q_7, .inl (g_8, 401, .inl (fun _ => 0))), (q_9, .inr (2, [.ref (u_10.1 0), .int 0])), ((u_10.1 0), .inl ((u_10.2 0), 200, .inl (fun _ => 0)))] H := hP
  have hD : va_D A [(o, .inr (1, [.ref sp, .ref q_1, .ref q_3, .ref q_5, .ref q_7, .ref q_9, .int 0, .int 0, .int 0])), (q_1, .inl (g_2, 401, .inl (fun _ => 0))), (q_3, .inl (g_4, 401, .inl (fun _ => 0))), (q_5, .inl (g_6, 401, .inr (.inr (.inr (.inr (fun _ => none)))))), (q_7, .inl (g_8, 401, .inl (fun _ => 0))), (q_9, .inr (2, [.ref (u_10.1 0), .int 0])), ((u_10.1 0), .inl ((u_10.2 0), 200, .inl (fun _ => 0)))] := hD
  exact W.vret hx hb hr (fun t het hW => ⟨⟨((fun i => match i with | 0 => q_1 | 1 => q_3 | 2 => q_5 | 3 => q_7 | 4 => q_9 | 5 => (u_10.1 0) | _ => 0), (fun i => match i with | 0 => g_2 | 1 => g_4 | 2 => g_6 | 3 => g_8 | _ => (u_10.2 0))), rfl, trivial, by rw [het]; exact hP, va_K.moved hW.alike hK, hD⟩, hS.F het⟩) hS.2.2 d_T_init_72
set_option maxHeartbeats 4000000 in
set_option maxRecDepth 100000 in
theorem c_G_init (l : Launch) (dC : Nat → ClassId) (dI : Nat → Nat → Nat) (k : Nat → Nat) (o tk : Nat) (sz : Nat) : Met l y_G_init (.code y_G_init b_G_init 2 none :: TT) ({ frames := 1, cells := 1, slots := 200, locals := 12 }) (va_Pc [.ref o, .ref tk] (PX dC dI k [] [(o, .inr (3, [.null, .null, .int 0, .int 0, .int 0, .null, .null, .int 0, .int 0, .int 0, .int 0, .int 0, .int 0, .int 0]))] sz)) (va_Qv (fun u : (Nat → Nat) × (Nat → ClassId) => True) (fun u t => BX dC dI [((u.2 0), .char)] (va_A [(o, .inr (3, [.null, .null, .int 0, .int 0, .int 0, .null, .null, .int 0, .int 0, .int 0, .int 0, .int 0, .int 0, .int 0]))] sz) [(o, .inr (3, [.ref tk, .ref (u.1 0), .int 0, .int 0, .int 0, .ref (k 0), .ref (k 0), .int 0, .int 0, .int 0, .int 0, .int 0, .int 0, .int 0])), ((u.1 0), .inl ((u.2 0), 200, .inl (fun _ => 0)))] t) (va_A [(o, .inr (3, [.null, .null, .int 0, .int 0, .int 0, .null, .null, .int 0, .int 0, .int 0, .int 0, .int 0, .int 0, .int 0]))] sz)) 1 200 (va_A [(o, .inr (3, [.null, .null, .int 0, .int 0, .int 0, .null, .null, .int 0, .int 0, .int 0, .int 0, .int 0, .int 0, .int 0]))] sz) := by
  refine Met.ofW (cc := b_G_init) (maxL := 2) (ret := none) (by decide) rfl ?_
  intro p e s m args below meth c s₁ B hml hv
  obtain ⟨rfl, hsz, hE, hP, hK, hD0⟩ := hv
  have hx := B.exec
  have hb := B.bytes
  have hr := B.returns
  have ht : ∀ w ∈ TT, w.before _ s = true := fun w hw => atoms_spec (ws := .code y_G_init b_G_init 2 none :: TT) B.pre w (List.mem_cons_of_mem _ hw)
  have hown : s.vm.findClass "SieveDesk$Grammar" = some m.cls := findClass_of_methodNamed B.named
  have hlocks := B.notSynchronized
  have hin : meth.name = "<init>" := (name_of_methodNamed B.named B.method).1
  subst hsz
  have hD := hD0.self (sz := s.heap.size)
  generalize hAe : va_A [(o, .inr (3, [.null, .null, .int 0, .int 0, .int 0, .null, .null, .int 0, .int 0, .int 0, .int 0, .int 0, .int 0, .int 0]))] s.heap.size = A at hE hD ⊢
  have hA : ∀ q : Nat, s.heap.size ≤ q → A q := fun q h9 => by rw [← hAe]; exact Or.inr h9
  have hS : va_S A s.heap s.heap [] := va_S.rf
  have hl := lv_entry ([.ref o, .ref tk]) (n := 2) (Nat.le_of_ble_eq_true rfl)
  rw [lg_entry_eq]
  generalize (lg_sl ([.ref o, .ref tk]) ++ List.replicate (2 - (lg_sl ([.ref o, .ref tk])).length) Slot.unset).toArray = ls at hl ⊢
  have hl : lv_has ls 2 [(0, .ref o), (1, .ref tk)] := hl
  refine lv_aload_n hx hb d_G_init_0 rfl (lv_at hl 0 rfl) ?_
  refine W.objInit hx hb hown (ht _ k_157) (ht _ k_94) (ht _ k_95) rfl (by rw [hml]; exact hl.1) rfl d_G_init_1 (Nat.le_of_ble_eq_true rfl) (Nat.le_of_ble_eq_true rfl) ?_
  refine W.eq (g2 := F0 m 4 ls []) rfl ?_
  refine lv_aload_n hx hb d_G_init_4 rfl (lv_at hl 0 rfl) ?_
  refine lv_aload_n hx hb d_G_init_5 rfl (lv_at hl 1 rfl) ?_
  refine va_putF (D := (dC, dI)) (ci := 3) (v := .ref tk) (ty := .object "SieveDesk$Tokens") (C := "SieveDesk$Grammar") (T := F_G) (N := 14) hx hb ht i_G ty_G ty_G_ok n_G hown hK hP hD hS 0 rfl rfl 0 (by decide) (ht _ k_160) (fun _ h9 => h9) rfl hin rfl (ty_G_ok 0 (by decide)) rfl rfl (Nat.le_of_ble_eq_true rfl) d_G_init_6 (fun H locs hP hD hS => ?_)
  have hP : va_P (dC, dI) cls [(o, .inr (3, [.ref tk, .null, .int 0, .int 0, .int 0, .null, .null, .int 0, .int 0, .int 0, .int 0, .int 0, .int 0, .int 0]))] H := hP
  have hD : va_D A [(o, .inr (3, [.ref tk, .null, .int 0, .int 0, .int 0, .null, .null, .int 0, .int 0, .int 0, .int 0, .int 0, .int 0, .int 0]))] := hD
  refine lv_aload_n hx hb d_G_init_9 rfl (lv_at hl 0 rfl) ?_
  refine lv_sipush (v := 200) hx hb d_G_init_10 (by decide) ?_
  refine va_newa (atype := .char) (ty := .char) (N' := 200) (a0 := (200, .inl (fun _ => 0))) hx hb (ht _ k_206) rfl hK hP hD hS hA (fun _ => rfl) (by decide) (by decide) (by decide) (Nat.le_of_ble_eq_true rfl) (Nat.le_of_ble_eq_true rfl) d_G_init_13 (fun q_1 g_2 H hK hP hD hS => ?_)
  have hP : va_P (dC, dI) cls [(o, .inr (3, [.ref tk, .null, .int 0, .int 0, .int 0, .null, .null, .int 0, .int 0, .int 0, .int 0, .int 0, .int 0, .int 0])), (q_1, .inl (g_2, 200, .inl (fun _ => 0)))] H := hP
  have hD : va_D A [(o, .inr (3, [.ref tk, .null, .int 0, .int 0, .int 0, .null, .null, .int 0, .int 0, .int 0, .int 0, .int 0, .int 0, .int 0])), (q_1, .inl (g_2, 200, .inl (fun _ => 0)))] := hD
  have hK : va_K (dC, dI) cls [(g_2, .char)] s := hK
  refine W.widen (k := 1) (n := 200) (by decide) (by decide) ?_
  refine va_putF (D := (dC, dI)) (ci := 3) (v := .ref q_1) (ty := .array .char) (C := "SieveDesk$Grammar") (T := F_G) (N := 14) hx hb ht i_G ty_G ty_G_ok n_G hown hK hP hD hS 0 rfl rfl 1 (by decide) (ht _ k_161) (fun _ h9 => h9) rfl hin rfl (ty_G_ok 1 (by decide)) rfl rfl (Nat.le_of_ble_eq_true rfl) d_G_init_15 (fun H locs hP hD hS => ?_)
  have hP : va_P (dC, dI) cls [(o, .inr (3, [.ref tk, .ref q_1, .int 0, .int 0, .int 0, .null, .null, .int 0, .int 0, .int 0, .int 0, .int 0, .int 0, .int 0])), (q_1, .inl (g_2, 200, .inl (fun _ => 0)))] H := hP
  have hD : va_D A [(o, .inr (3, [.ref tk, .ref q_1, .int 0, .int 0, .int 0, .null, .null, .int 0, .int 0, .int 0, .int 0, .int 0, .int 0, .int 0])), (q_1, .inl (g_2, 200, .inl (fun _ => 0)))] := hD
  refine lv_aload_n hx hb d_G_init_18 rfl (lv_at hl 0 rfl) ?_
  refine va_gets hx hb (ke_W_NONE hE) hS hown (ht _ k_158) (fun _ h9 => h9) d_G_init_19 ?_
  refine va_put (D := (dC, dI)) (ci := 3) (v := .ref (k 0)) (ty := .object "SieveDesk$Word") (C := "SieveDesk$Grammar") (T := F_G) (N := 14) hx hb ht i_G ty_G ty_G_ok n_G hown hK hP hD hS 0 rfl rfl 5 (by decide) (ht _ k_165) (fun _ h9 => h9) rfl (ty_G_ok 5 (by decide)) rfl rfl (Nat.le_of_ble_eq_true rfl) d_G_init_22 (fun H locs hP hD hS => ?_)
  have hP : va_P (dC, dI) cls [(o, .inr (3, [.ref tk, .ref q_1, .int 0, .int 0, .int 0, .ref (k 0), .null, .int 0, .int 0, .int 0, .int 0, .int 0, .int 0, .int 0])), (q_1, .inl (g_2, 200, .inl (fun _ => 0)))] H := hP
  have hD : va_D A [(o, .inr (3, [.ref tk, .ref q_1, .int 0, .int 0, .int 0, .ref (k 0), .null, .int 0, .int 0, .int 0, .int 0, .int 0, .int 0, .int 0])), (q_1, .inl (g_2, 200, .inl (fun _ => 0)))] := hD
  refine lv_aload_n hx hb d_G_init_25 rfl (lv_at hl 0 rfl) ?_
  refine va_gets hx hb (ke_W_NONE hE) hS hown (ht _ k_158) (fun _ h9 => h9) d_G_init_26 ?_
  refine va_put (D := (dC, dI)) (ci := 3) (v := .ref (k 0)) (ty := .object "SieveDesk$Word") (C := "SieveDesk$Grammar") (T := F_G) (N := 14) hx hb ht i_G ty_G ty_G_ok n_G hown hK hP hD hS 0 rfl rfl 6 (by decide) (ht _ k_166) (fun _ h9 => h9) rfl (ty_G_ok 6 (by decide)) rfl rfl (Nat.le_of_ble_eq_true rfl) d_G_init_29 (fun H locs hP hD hS => ?_)
  have hP : va_P (dC, dI) cls [(o, .inr (3, [.ref tk, .ref q_1, .int 0, .int 0, .int 0, .ref (k 0), .ref (k 0), .int 0, .int 0, .int 0, .int 0, .int 0, .int 0, .int 0])), (q_1, .inl (g_2, 200, .inl (fun _ => 0)))] H := hP
  have hD : va_D A [(o, .inr (3, [.ref tk, .ref q_1, .int 0, .int 0, .int 0, .ref (k 0), .ref (k 0), .int 0, .int 0, .int 0, .int 0, .int 0, .int 0, .int 0])), (q_1, .inl (g_2, 200, .inl (fun _ => 0)))] := hD
  exact W.vret hx hb hr (fun t het hW => ⟨⟨((fun i => match i with | 0 => q_1 | _ => 0), (fun i => match i with | _ => g_2)), rfl, trivial, by rw [het]; exact hP, va_K.moved hW.alike hK, hD⟩, hS.F het⟩) hS.2.2 d_G_init_32
set_option maxHeartbeats 4000000 in
set_option maxRecDepth 100000 in
theorem c_S_init (l : Launch) (dC : Nat → ClassId) (dI : Nat → Nat → Nat) (k : Nat → Nat) (o : Nat) (sz : Nat) : Met l y_S_init (.code y_S_init b_S_init 1 none :: TT) ({ frames := 3, cells := 10, slots := 2429, locals := 53 }) (va_Pc [.ref o] (PX dC dI k [] [(o, .inr (0, [.null, .null, .null, .int 0, .int 0]))] sz)) (va_Qv (fun u : (Nat → Nat) × (Nat → ClassId) => u.1 0 = o) (fun u t => BX dC dI (TE u.2) (va_A [(o, .inr (0, [.null, .null, .null, .int 0, .int 0]))] sz) (WE u.1 u.2 0 (-1) 0 0 0 0 0 0 0 (.ref (k 0)) (.ref (k 0)) 0 0 0 0 0 0 0 (fun _ => 0) (fun _ => 0) (fun _ => 0) (fun _ => none) (fun _ => 0) (fun _ => 0) (fun _ => 0)) t) (va_A [(o, .inr (0, [.null, .null, .null, .int 0, .int 0]))] sz)) 10 2429 (va_A [(o, .inr (0, [.null, .null, .null, .int 0, .int 0]))] sz) := by
  refine Met.ofW (cc := b_S_init) (maxL := 1) (ret := none) (by decide) rfl ?_
  intro p e s m args below meth c s₁ B hml hv
  obtain ⟨rfl, hsz, hE, hP, hK, hD0⟩ := hv
  have hx := B.exec
  have hb := B.bytes
  have hr := B.returns
  have ht : ∀ w ∈ TT, w.before _ s = true := fun w hw => atoms_spec (ws := .code y_S_init b_S_init 1 none :: TT) B.pre w (List.mem_cons_of_mem _ hw)
  have hown : s.vm.findClass "SieveDesk" = some m.cls := findClass_of_methodNamed B.named
  have hlocks := B.notSynchronized
  have hin : meth.name = "<init>" := (name_of_methodNamed B.named B.method).1
  subst hsz
  have hD := hD0.self (sz := s.heap.size)
  generalize hAe : va_A [(o, .inr (0, [.null, .null, .null, .int 0, .int 0]))] s.heap.size = A at hE hD ⊢
  have hA : ∀ q : Nat, s.heap.size ≤ q → A q := fun q h9 => by rw [← hAe]; exact Or.inr h9
  have hS : va_S A s.heap s.heap [] := va_S.rf
  have hl := lv_entry ([.ref o]) (n := 1) (Nat.le_of_ble_eq_true rfl)
  rw [lg_entry_eq]
  generalize (lg_sl ([.ref o]) ++ List.replicate (1 - (lg_sl ([.ref o])).length) Slot.unset).toArray = ls at hl ⊢
  have hl : lv_has ls 1 [(0, .ref o)] := hl
  refine lv_aload_n hx hb d_S_init_0 rfl (lv_at hl 0 rfl) ?_
  refine W.objInit hx hb hown (ht _ k_93) (ht _ k_94) (ht _ k_95) rfl (by rw [hml]; exact hl.1) rfl d_S_init_1 (Nat.le_of_ble_eq_true rfl) (Nat.le_of_ble_eq_true rfl) ?_
  refine W.eq (g2 := F0 m 4 ls []) rfl ?_
  refine lv_aload_n hx hb d_S_init_4 rfl (lv_at hl 0 rfl) ?_
  refine lv_sipush (v := 400) hx hb d_S_init_5 (by decide) ?_
  refine va_newa (atype := .byte) (ty := .byte) (N' := 400) (a0 := (400, .inl (fun _ => 0))) hx hb (ht _ k_117) rfl hK hP hD hS hA (fun _ => rfl) (by decide) (by decide) (by decide) (Nat.le_of_ble_eq_true rfl) (Nat.le_of_ble_eq_true rfl) d_S_init_8 (fun q_1 g_2 H hK hP hD hS => ?_)
  have hP : va_P (dC, dI) cls [(o, .inr (0, [.null, .null, .null, .int 0, .int 0])), (q_1, .inl (g_2, 400, .inl (fun _ => 0)))] H := hP
  have hD : va_D A [(o, .inr (0, [.null, .null, .null, .int 0, .int 0])), (q_1, .inl (g_2, 400, .inl (fun _ => 0)))] := hD
  have hK : va_K (dC, dI) cls [(g_2, .byte)] s := hK
  refine W.widen (k := 1) (n := 400) (by decide) (by decide) ?_
  refine va_putF (D := (dC, dI)) (ci := 0) (v := .ref q_1) (ty := .array .byte) (C := "SieveDesk") (T := F_S) (N := 5) hx hb ht i_S ty_S ty_S_ok n_S hown hK hP hD hS 0 rfl rfl 0 (by decide) (ht _ k_207) (fun _ h9 => h9) rfl hin rfl (ty_S_ok 0 (by decide)) rfl rfl (Nat.le_of_ble_eq_true rfl) d_S_init_10 (fun H locs hP hD hS => ?_)
  have hP : va_P (dC, dI) cls [(o, .inr (0, [.ref q_1, .null, .null, .int 0, .int 0])), (q_1, .inl (g_2, 400, .inl (fun _ => 0)))] H := hP
  have hD : va_D A [(o, .inr (0, [.ref q_1, .null, .null, .int 0, .int 0])), (q_1, .inl (g_2, 400, .inl (fun _ => 0)))] := hD
  refine lv_aload_n hx hb d_S_init_13 rfl (lv_at hl 0 rfl) ?_
  refine va_new (ci := 1) (fs := [.null, .null, .null, .null, .null, .null, .int 0, .int 0, .int 0]) (C := "SieveDesk$Tokens") (T := F_T) (N := 9) hx hb ht i_T ty_T ty_T_ok hown (ht _ k_96) (ht _ k_97) (ht _ k_75) hK hP hD hS hA rfl (by decide +kernel) (Nat.le_of_ble_eq_true rfl) (Nat.le_of_ble_eq_true rfl) d_S_init_14 (fun q_3 H hP hD hS => ?_)
  have hP : va_P (dC, dI) cls [(o, .inr (0, [.ref q_1, .null, .null, .int 0, .int 0])), (q_1, .inl (g_2, 400, .inl (fun _ => 0))), (q_3, .inr (1, [.null, .null, .null, .null, .null, .null, .int 0, .int 0, .int 0]))] H := hP
  have hD : va_D A [(o, .inr (0, [.ref q_1, .null, .null, .int 0, .int 0])), (q_1, .inl (g_2, 400, .inl (fun _ => 0))), (q_3, .inr (1, [.null, .null, .null, .null, .null, .null, .int 0, .int 0, .int 0]))] := hD
  refine W.widen (k := 2) (n := 409) (by decide) (by decide) ?_
  refine lv_dup hx hb d_S_init_17 rfl ?_
  refine lv_aload_n hx hb d_S_init_18 rfl (lv_at hl 0 rfl) ?_
  refine va_get (D := (dC, dI)) (ci := 0) (v := .ref q_1) (C := "SieveDesk") (T := F_S) (N := 5) hx hb ht i_S hown hK hP 0 rfl rfl 0 (by decide) (ht _ k_207) (fun _ h9 => h9) rfl d_S_init_19 ?_
  have hPc := hP.sub (ws' := [(q_3, .inr (1, [.null, .null, .null, .null, .null, .null, .int 0, .int 0, .int 0]))]) [2] rfl
  have hDc := hD.sub (ws' := [(q_3, .inr (1, [.null, .null, .null, .null, .null, .null, .int 0, .int 0, .int 0]))]) [2] (by decide) rfl
  have hKc := hK.sub (tys' := []) [] rfl
  have hFc := va_free (wc := [(q_3, .inr (1, [.null, .null, .null, .null, .null, .null, .int 0, .int 0, .int 0]))]) hD hS hA [2] rfl
  refine va_callv (va_runI (As := [.ref q_1]) (rest := [.ref q_3, .ref o]) ⟨hx, hb, hml, hown, ht⟩ (c_T_init l dC dI k q_3 q_1 H.size) (cwI 1 ht (g_C k_100) rfl rfl rfl (ht _ k_75) (ht _ k_98) (ht _ k_99) rfl (by decide +kernel) ⟨(Nat.le_of_ble_eq_true rfl), (Nat.le_of_ble_eq_true rfl)⟩) ⟨fb_X, pre_X hE hS hFc hPc hKc hDc⟩ rfl rfl hl.1 rfl (lv_room (Nat.le_of_ble_eq_true rfl)) d_S_init_22 ⟨(Nat.le_of_ble_eq_true rfl), (Nat.le_of_ble_eq_true rfl)⟩) hS (fun q _ h9 => hFc q h9) hFc (fun u_4 t H1 locs het hvm hw hB hz1 hk1 hS => ?_)
  obtain ⟨hP1, hK1, hD1⟩ := hB
  rw [het] at hP1
  have hK1 := va_K.moved hvm.symm hK1
  obtain ⟨hP, hD⟩ := va_join (wr := [(o, .inr (0, [.ref q_1, .null, .null, .int 0, .int 0])), (q_1, .inl (g_2, 400, .inl (fun _ => 0)))]) (w1 := [(q_3, .inr (1, [.ref q_1, .ref (u_4.1 0), .ref (u_4.1 1), .ref (u_4.1 2), .ref (u_4.1 3), .ref (u_4.1 4), .int 0, .int 0, .int 0])), ((u_4.1 0), .inl ((u_4.2 0), 401, .inl (fun _ => 0))), ((u_4.1 1), .inl ((u_4.2 1), 401, .inl (fun _ => 0))), ((u_4.1 2), .inl ((u_4.2 2), 401, .inr (.inr (.inr (.inr (fun _ => none)))))), ((u_4.1 3), .inl ((u_4.2 3), 401, .inl (fun _ => 0))), ((u_4.1 4), .inr (2, [.ref (u_4.1 5), .int 0])), ((u_4.1 5), .inl ((u_4.2 4), 200, .inl (fun _ => 0)))]) hP hD [2] [0, 1] rfl rfl (by decide) (by decide) hk1 hFc hP1 hD1
  have hK := hK.app hK1
  generalize H1 = H at hP hS ⊢
  have hP : va_P (dC, dI) cls [(o, .inr (0, [.ref q_1, .null, .null, .int 0, .int 0])), (q_1, .inl (g_2, 400, .inl (fun _ => 0))), (q_3, .inr (1, [.ref q_1, .ref (u_4.1 0), .ref (u_4.1 1), .ref (u_4.1 2), .ref (u_4.1 3), .ref (u_4.1 4), .int 0, .int 0, .int 0])), ((u_4.1 0), .inl ((u_4.2 0), 401, .inl (fun _ => 0))), ((u_4.1 1), .inl ((u_4.2 1), 401, .inl (fun _ => 0))), ((u_4.1 2), .inl ((u_4.2 2), 401, .inr (.inr (.inr (.inr (fun _ => none)))))), ((u_4.1 3), .inl ((u_4.2 3), 401, .inl (fun _ => 0))), ((u_4.1 4), .inr (2, [.ref (u_4.1 5), .int 0])), ((u_4.1 5), .inl ((u_4.2 4), 200, .inl (fun _ => 0)))] H := hP
  have hD : va_D A [(o, .inr (0, [.ref q_1, .null, .null, .int 0, .int 0])), (q_1, .inl (g_2, 400, .inl (fun _ => 0))), (q_3, .inr (1, [.ref q_1, .ref (u_4.1 0), .ref (u_4.1 1), .ref (u_4.1 2), .ref (u_4.1 3), .ref (u_4.1 4), .int 0, .int 0, .int 0])), ((u_4.1 0), .inl ((u_4.2 0), 401, .inl (fun _ => 0))), ((u_4.1 1), .inl ((u_4.2 1), 401, .inl (fun _ => 0))), ((u_4.1 2), .inl ((u_4.2 2), 401, .inr (.inr (.inr (.inr (fun _ => none)))))), ((u_4.1 3), .inl ((u_4.2 3), 401, .inl (fun _ => 0))), ((u_4.1 4), .inr (2, [.ref (u_4.1 5), .int 0])), ((u_4.1 5), .inl ((u_4.2 4), 200, .inl (fun _ => 0)))] := hD
  have hK : va_K (dC, dI) cls [(g_2, .byte), ((u_4.2 0), .int), ((u_4.2 1), .int), ((u_4.2 2), .object "SieveDesk$Word"), ((u_4.2 3), .int), ((u_4.2 4), .byte)] s := hK
  refine W.widen (k := 8) (n := 2215) (by decide) (by decide) ?_
  refine va_putF (D := (dC, dI)) (ci := 0) (v := .ref q_3) (ty := .object "SieveDesk$Tokens") (C := "SieveDesk") (T := F_S) (N := 5) hx hb ht i_S ty_S ty_S_ok n_S hown hK hP hD hS 0 rfl rfl 1 (by decide) (ht _ k_208) (fun _ h9 => h9) rfl hin rfl (ty_S_ok 1 (by decide)) rfl rfl (Nat.le_of_ble_eq_true rfl) d_S_init_25 (fun H locs hP hD hS => ?_)
  have hP : va_P (dC, dI) cls [(o, .inr (0, [.ref q_1, .ref q_3, .null, .int 0, .int 0])), (q_1, .inl (g_2, 400, .inl (fun _ => 0))), (q_3, .inr (1, [.ref q_1, .ref (u_4.1 0), .ref (u_4.1 1), .ref (u_4.1 2), .ref (u_4.1 3), .ref (u_4.1 4), .int 0, .int 0, .int 0])), ((u_4.1 0), .inl ((u_4.2 0), 401, .inl (fun _ => 0))), ((u_4.1 1), .inl ((u_4.2 1), 401, .inl (fun _ => 0))), ((u_4.1 2), .inl ((u_4.2 2), 401, .inr (.inr (.inr (.inr (fun _ => none)))))), ((u_4.1 3), .inl ((u_4.2 3), 401, .inl (fun _ => 0))), ((u_4.1 4), .inr (2, [.ref (u_4.1 5), .int 0])), ((u_4.1 5), .inl ((u_4.2 4), 200, .inl (fun _ => 0)))] H := hP
  have hD : va_D A [(o, .inr (0, [.ref q_1, .ref q_3, .null, .int 0, .int 0])), (q_1, .inl (g_2, 400, .inl (fun _ => 0))), (q_3, .inr (1, [.ref q_1, .ref (u_4.1 0), .ref (u_4.1 1), .ref (u_4.1 2), .ref (u_4.1 3), .ref (u_4.1 4), .int 0, .int 0, .int 0])), ((u_4.1 0), .inl ((u_4.2 0), 401, .inl (fun _ => 0))), ((u_4.1 1), .inl ((u_4.2 1), 401, .inl (fun _ => 0))), ((u_4.1 2), .inl ((u_4.2 2), 401, .inr (.inr (.inr (.inr (fun _ => none)))))), ((u_4.1 3), .inl ((u_4.2 3), 401, .inl (fun _ => 0))), ((u_4.1 4), .inr (2, [.ref (u_4.1 5), .int 0])), ((u_4.1 5), .inl ((u_4.2 4), 200, .inl (fun _ => 0)))] := hD
  refine lv_aload_n hx hb d_S_init_28 rfl (lv_at hl 0 rfl) ?_
  refine va_new (ci := 3) (fs := [.null, .null, .int 0, .int 0, .int 0, .null, .null, .int 0, .int 0, .int 0, .int 0, .int 0, .int 0, .int 0]) (C := "SieveDesk$Grammar") (T := F_G) (N := 14) hx hb ht i_G ty_G ty_G_ok hown (ht _ k_152) (ht _ k_153) (ht _ k_77) hK hP hD hS hA rfl (by decide +kernel) (Nat.le_of_ble_eq_true rfl) (Nat.le_of_ble_eq_true rfl) d_S_init_29 (fun q_5 H hP hD hS => ?_)
  have hP : va_P (dC, dI) cls [(o, .inr (0, [.ref q_1, .ref q_3, .null, .int 0, .int 0])), (q_1, .inl (g_2, 400, .inl (fun _ => 0))), (q_3, .inr (1, [.ref q_1, .ref (u_4.1 0), .ref (u_4.1 1), .ref (u_4.1 2), .ref (u_4.1 3), .ref (u_4.1 4), .int 0, .int 0, .int 0])), ((u_4.1 0), .inl ((u_4.2 0), 401, .inl (fun _ => 0))), ((u_4.1 1), .inl ((u_4.2 1), 401, .inl (fun _ => 0))), ((u_4.1 2), .inl ((u_4.2 2), 401, .inr (.inr (.inr (.inr (fun _ => none)))))), ((u_4.1 3), .inl ((u_4.2 3), 401, .inl (fun _ => 0))), ((u_4.1 4), .inr (2, [.ref (u_4.1 5), .int 0])), ((u_4.1 5), .inl ((u_4.2 4), 200, .inl (fun _ => 0))), (q_5, .inr (3, [.null, .null, .int 0, .int 0, .int 0, .null, .null, .int 0, .int 0, .int 0, .int 0, .int 0, .int 0, .int 0]))] H := hP
  have hD : va_D A [(o, .inr (0, [.ref q_1, .ref q_3, .null, .int 0, .int 0])), (q_1, .inl (g_2, 400, .inl (fun _ => 0))), (q_3, .inr (1, [.ref q_1, .ref (u_4.1 0), .ref (u_4.1 1), .ref (u_4.1 2), .ref (u_4.1 3), .ref (u_4.1 4), .int 0, .int 0, .int 0])), ((u_4.1 0), .inl ((u_4.2 0), 401, .inl (fun _ => 0))), ((u_4.1 1), .inl ((u_4.2 1), 401, .inl (fun _ => 0))), ((u_4.1 2), .inl ((u_4.2 2), 401, .inr (.inr (.inr (.inr (fun _ => none)))))), ((u_4.1 3), .inl ((u_4.2 3), 401, .inl (fun _ => 0))), ((u_4.1 4), .inr (2, [.ref (u_4.1 5), .int 0])), ((u_4.1 5), .inl ((u_4.2 4), 200, .inl (fun _ => 0))), (q_5, .inr (3, [.null, .null, .int 0, .int 0, .int 0, .null, .null, .int 0, .int 0, .int 0, .int 0, .int 0, .int 0, .int 0]))] := hD
  refine W.widen (k := 9) (n := 2229) (by decide) (by decide) ?_
  refine lv_dup hx hb d_S_init_32 rfl ?_
  refine lv_aload_n hx hb d_S_init_33 rfl (lv_at hl 0 rfl) ?_
  refine va_get (D := (dC, dI)) (ci := 0) (v := .ref q_3) (C := "SieveDesk") (T := F_S) (N := 5) hx hb ht i_S hown hK hP 0 rfl rfl 1 (by decide) (ht _ k_208) (fun _ h9 => h9) rfl d_S_init_34 ?_
  have hPc := hP.sub (ws' := [(q_5, .inr (3, [.null, .null, .int 0, .int 0, .int 0, .null, .null, .int 0, .int 0, .int 0, .int 0, .int 0, .int 0, .int 0]))]) [9] rfl
  have hDc := hD.sub (ws' := [(q_5, .inr (3, [.null, .null, .int 0, .int 0, .int 0, .null, .null, .int 0, .int 0, .int 0, .int 0, .int 0, .int 0, .int 0]))]) [9] (by decide) rfl
  have hKc := hK.sub (tys' := []) [] rfl
  have hFc := va_free (wc := [(q_5, .inr (3, [.null, .null, .int 0, .int 0, .int 0, .null, .null, .int 0, .int 0, .int 0, .int 0, .int 0, .int 0, .int 0]))]) hD hS hA [9] rfl
  refine va_callv (va_runI (As := [.ref q_3]) (rest := [.ref q_5, .ref o]) ⟨hx, hb, hml, hown, ht⟩ (c_G_init l dC dI k q_5 q_3 H.size) (cwI 1 ht (g_C k_156) rfl rfl rfl (ht _ k_77) (ht _ k_154) (ht _ k_155) rfl (by decide +kernel) ⟨(Nat.le_of_ble_eq_true rfl), (Nat.le_of_ble_eq_true rfl)⟩) ⟨fb_X, pre_X hE hS hFc hPc hKc hDc⟩ rfl rfl hl.1 rfl (lv_room (Nat.le_of_ble_eq_true rfl)) d_S_init_37 ⟨(Nat.le_of_ble_eq_true rfl), (Nat.le_of_ble_eq_true rfl)⟩) hS (fun q _ h9 => hFc q h9) hFc (fun u_6 t H1 locs het hvm hw hB hz1 hk1 hS => ?_)
  obtain ⟨hP1, hK1, hD1⟩ := hB
  rw [het] at hP1
  have hK1 := va_K.moved hvm.symm hK1
  obtain ⟨hP, hD⟩ := va_join (wr := [(o, .inr (0, [.ref q_1, .ref q_3, .null, .int 0, .int 0])), (q_1, .inl (g_2, 400, .inl (fun _ => 0))), (q_3, .inr (1, [.ref q_1, .ref (u_4.1 0), .ref (u_4.1 1), .ref (u_4.1 2), .ref (u_4.1 3), .ref (u_4.1 4), .int 0, .int 0, .int 0])), ((u_4.1 0), .inl ((u_4.2 0), 401, .inl (fun _ => 0))), ((u_4.1 1), .inl ((u_4.2 1), 401, .inl (fun _ => 0))), ((u_4.1 2), .inl ((u_4.2 2), 401, .inr (.inr (.inr (.inr (fun _ => none)))))), ((u_4.1 3), .inl ((u_4.2 3), 401, .inl (fun _ => 0))), ((u_4.1 4), .inr (2, [.ref (u_4.1 5), .int 0])), ((u_4.1 5), .inl ((u_4.2 4), 200, .inl (fun _ => 0)))]) (w1 := [(q_5, .inr (3, [.ref q_3, .ref (u_6.1 0), .int 0, .int 0, .int 0, .ref (k 0), .ref (k 0), .int 0, .int 0, .int 0, .int 0, .int 0, .int 0, .int 0])), ((u_6.1 0), .inl ((u_6.2 0), 200, .inl (fun _ => 0)))]) hP hD [9] [0, 1, 2, 3, 4, 5, 6, 7, 8] rfl rfl (by decide) (by decide) hk1 hFc hP1 hD1
  have hK := hK.app hK1
  generalize H1 = H at hP hS ⊢
  have hP : va_P (dC, dI) cls [(o, .inr (0, [.ref q_1, .ref q_3, .null, .int 0, .int 0])), (q_1, .inl (g_2, 400, .inl (fun _ => 0))), (q_3, .inr (1, [.ref q_1, .ref (u_4.1 0), .ref (u_4.1 1), .ref (u_4.1 2), .ref (u_4.1 3), .ref (u_4.1 4), .int 0, .int 0, .int 0])), ((u_4.1 0), .inl ((u_4.2 0), 401, .inl (fun _ => 0))), ((u_4.1 1), .inl ((u_4.2 1), 401, .inl (fun _ => 0))), ((u_4.1 2), .inl ((u_4.2 2), 401, .inr (.inr (.inr (.inr (fun _ => none)))))), ((u_4.1 3), .inl ((u_4.2 3), 401, .inl (fun _ => 0))), ((u_4.1 4), .inr (2, [.ref (u_4.1 5), .int 0])), ((u_4.1 5), .inl ((u_4.2 4), 200, .inl (fun _ => 0))), (q_5, .inr (3, [.ref q_3, .ref (u_6.1 0), .int 0, .int 0, .int 0, .ref (k 0), .ref (k 0), .int 0, .int 0, .int 0, .int 0, .int 0, .int 0, .int 0])), ((u_6.1 0), .inl ((u_6.2 0), 200, .inl (fun _ => 0)))] H := hP
  have hD : va_D A [(o, .inr (0, [.ref q_1, .ref q_3, .null, .int 0, .int 0])), (q_1, .inl (g_2, 400, .inl (fun _ => 0))), (q_3, .inr (1, [.ref q_1, .ref (u_4.1 0), .ref (u_4.1 1), .ref (u_4.1 2), .ref (u_4.1 3), .ref (u_4.1 4), .int 0, .int 0, .int 0])), ((u_4.1 0), .inl ((u_4.2 0), 401, .inl (fun _ => 0))), ((u_4.1 1), .inl ((u_4.2 1), 401, .inl (fun _ => 0))), ((u_4.1 2), .inl ((u_4.2 2), 401, .inr (.inr (.inr (.inr (fun _ => none)))))), ((u_4.1 3), .inl ((u_4.2 3), 401, .inl (fun _ => 0))), ((u_4.1 4), .inr (2, [.ref (u_4.1 5), .int 0])), ((u_4.1 5), .inl ((u_4.2 4), 200, .inl (fun _ => 0))), (q_5, .inr (3, [.ref q_3, .ref (u_6.1 0), .int 0, .int 0, .int 0, .ref (k 0), .ref (k 0), .int 0, .int 0, .int 0, .int 0, .int 0, .int 0, .int 0])), ((u_6.1 0), .inl ((u_6.2 0), 200, .inl (fun _ => 0)))] := hD
  have hK : va_K (dC, dI) cls [(g_2, .byte), ((u_4.2 0), .int), ((u_4.2 1), .int), ((u_4.2 2), .object "SieveDesk$Word"), ((u_4.2 3), .int), ((u_4.2 4), .byte), ((u_6.2 0), .char)] s := hK
  refine W.widen (k := 10) (n := 2429) (by decide) (by decide) ?_
  refine va_putF (D := (dC, dI)) (ci := 0) (v := .ref q_5) (ty := .object "SieveDesk$Grammar") (C := "SieveDesk") (T := F_S) (N := 5) hx hb ht i_S ty_S ty_S_ok n_S hown hK hP hD hS 0 rfl rfl 2 (by decide) (ht _ k_209) (fun _ h9 => h9) rfl hin rfl (ty_S_ok 2 (by decide)) rfl rfl (Nat.le_of_ble_eq_true rfl) d_S_init_40 (fun H locs hP hD hS => ?_)
  have hP : va_P (dC, dI) cls [(o, .inr (0, [.ref q_1, .ref q_3, .ref q_5, .int 0, .int 0])), (q_1, .inl (g_2, 400, .inl (fun _ => 0))), (q_3, .inr (1, [.ref q_1, .ref (u_4.1 0), .ref (u_4.1 1), .ref (u_4.1 2), .ref (u_4.1 3), .ref (u_4.1 4), .int 0, .int 0, .int 0])), ((u_4.1 0), .inl ((u_4.2 0), 401, .inl (fun _ => 0))), ((u_4.1 1), .inl ((u_4.2 1), 401, .inl (fun _ => 0))), ((u_4.1 2), .inl ((u_4.2 2), 401, .inr (.inr (.inr (.inr (fun _ => none)))))), ((u_4.1 3), .inl ((u_4.2 3), 401, .inl (fun _ => 0))), ((u_4.1 4), .inr (2, [.ref (u_4.1 5), .int 0])), ((u_4.1 5), .inl ((u_4.2 4), 200, .inl (fun _ => 0))), (q_5, .inr (3, [.ref q_3, .ref (u_6.1 0), .int 0, .int 0, .int 0, .ref (k 0), .ref (k 0), .int 0, .int 0, .int 0, .int 0, .int 0, .int 0, .int 0])), ((u_6.1 0), .inl ((u_6.2 0), 200, .inl (fun _ => 0)))] H := hP
  have hD : va_D A [(o, .inr (0, [.ref q_1, .ref q_3, .ref q_5, .int 0, .int 0])), (q_1, .inl (g_2, 400, .inl (fun _ => 0))), (q_3, .inr (1, [.ref q_1, .ref (u_4.1 0), .ref (u_4.1 1), .ref (u_4.1 2), .ref (u_4.1 3), .ref (u_4.1 4), .int 0, .int 0, .int 0])), ((u_4.1 0), .inl ((u_4.2 0), 401, .inl (fun _ => 0))), ((u_4.1 1), .inl ((u_4.2 1), 401, .inl (fun _ => 0))), ((u_4.1 2), .inl ((u_4.2 2), 401, .inr (.inr (.inr (.inr (fun _ => none)))))), ((u_4.1 3), .inl ((u_4.2 3), 401, .inl (fun _ => 0))), ((u_4.1 4), .inr (2, [.ref (u_4.1 5), .int 0])), ((u_4.1 5), .inl ((u_4.2 4), 200, .inl (fun _ => 0))), (q_5, .inr (3, [.ref q_3, .ref (u_6.1 0), .int 0, .int 0, .int 0, .ref (k 0), .ref (k 0), .int 0, .int 0, .int 0, .int 0, .int 0, .int 0, .int 0])), ((u_6.1 0), .inl ((u_6.2 0), 200, .inl (fun _ => 0)))] := hD
  refine lv_aload_n hx hb d_S_init_43 rfl (lv_at hl 0 rfl) ?_
  refine lv_iconst (v := 0) hx hb d_S_init_44 (by decide) ?_
  refine va_put (D := (dC, dI)) (ci := 0) (v := .int 0) (ty := .int) (C := "SieveDesk") (T := F_S) (N := 5) hx hb ht i_S ty_S ty_S_ok n_S hown hK hP hD hS 0 rfl rfl 3 (by decide) (ht _ k_210) (fun _ h9 => h9) rfl (ty_S_ok 3 (by decide)) rfl rfl (Nat.le_of_ble_eq_true rfl) d_S_init_45 (fun H locs hP hD hS => ?_)
  have hP : va_P (dC, dI) cls [(o, .inr (0, [.ref q_1, .ref q_3, .ref q_5, .int 0, .int 0])), (q_1, .inl (g_2, 400, .inl (fun _ => 0))), (q_3, .inr (1, [.ref q_1, .ref (u_4.1 0), .ref (u_4.1 1), .ref (u_4.1 2), .ref (u_4.1 3), .ref (u_4.1 4), .int 0, .int 0, .int 0])), ((u_4.1 0), .inl ((u_4.2 0), 401, .inl (fun _ => 0))), ((u_4.1 1), .inl ((u_4.2 1), 401, .inl (fun _ => 0))), ((u_4.1 2), .inl ((u_4.2 2), 401, .inr (.inr (.inr (.inr (fun _ => none)))))), ((u_4.1 3), .inl ((u_4.2 3), 401, .inl (fun _ => 0))), ((u_4.1 4), .inr (2, [.ref (u_4.1 5), .int 0])), ((u_4.1 5), .inl ((u_4.2 4), 200, .inl (fun _ => 0))), (q_5, .inr (3, [.ref q_3, .ref (u_6.1 0), .int 0, .int 0, .int 0, .ref (k 0), .ref (k 0), .int 0, .int 0, .int 0, .int 0, .int 0, .int 0, .int 0])), ((u_6.1 0), .inl ((u_6.2 0), 200, .inl (fun _ => 0)))] H := hP
  have hD : va_D A [(o, .inr (0, [.ref q_1, .ref q_3, .ref q_5, .int 0, .int 0])), (q_1, .inl (g_2, 400, .inl (fun _ => 0))), (q_3, .inr (1, [.ref q_1, .ref (u_4.1 0), .ref (u_4.1 1), .ref (u_4.1 2), .ref (u_4.1 3), .ref (u_4.1 4), .int 0, .int 0, .int 0])), ((u_4.1 0), .inl ((u_4.2 0), 401, .inl (fun _ => 0))), ((u_4.1 1), .inl ((u_4.2 1), 401, .inl (fun _ => 0))), ((u_4.1 2), .inl ((u_4.2 2), 401, .inr (.inr (.inr (.inr (fun _ => none)))))), ((u_4.1 3), .inl ((u_4.2 3), 401, .inl (fun _ => 0))), ((u_4.1 4), .inr (2, [.ref (u_4.1 5), .int 0])), ((u_4.1 5), .inl ((u_4.2 4), 200, .inl (fun _ => 0))), (q_5, .inr (3, [.ref q_3, .ref (u_6.1 0), .int 0, .int 0, .int 0, .ref (k 0), .ref (k 0), .int 0, .int 0, .int 0, .int 0, .int 0, .int 0, .int 0])), ((u_6.1 0), .inl ((u_6.2 0), 200, .inl (fun _ => 0)))] := hD
  refine lv_aload_n hx hb d_S_init_48 rfl (lv_at hl 0 rfl) ?_
  refine lv_iconst (v := (-1)) hx hb d_S_init_49 (by decide) ?_
  refine va_put (D := (dC, dI)) (ci := 0) (v := .int (-1)) (ty := .int) (C := "SieveDesk") (T := F_S) (N := 5) hx hb ht i_S ty_S ty_S_ok n_S hown hK hP hD hS 0 rfl rfl 4 (by decide) (ht _ k_211) (fun _ h9 => h9) rfl (ty_S_ok 4 (by decide)) rfl rfl (Nat.le_of_ble_eq_true rfl) d_S_init_50 (fun H locs hP hD hS => ?_)
  have hP : va_P (dC, dI) cls [(o, .inr (0, [.ref q_1, .ref q_3, .ref q_5, .int 0, .int (-1)])), (q_1, .inl (g_2, 400, .inl (fun _ => 0))), (q_3, .inr (1, [.ref q_1, .ref (u_4.1 0), .ref (u_4.1 1), .ref (u_4.1 2), .ref (u_4.1 3), .ref (u_4.1 4), .int 0, .int 0, .int 0])), ((u_4.1 0), .inl ((u_4.2 0), 401, .inl (fun _ => 0))), ((u_4.1 1), .inl ((u_4.2 1), 401, .inl (fun _ => 0))), ((u_4.1 2), .inl ((u_4.2 2), 401, .inr (.inr (.inr (.inr (fun _ => none)))))), ((u_4.1 3), .inl ((u_4.2 3), 401, .inl (fun _ => 0))), ((u_4.1 4), .inr (2, [.ref (u_4.1 5), .int 0])), ((u_4.1 5), .inl ((u_4.2 4), 200, .inl (fun _ => 0))), (q_5, .inr (3, [.ref q_3, .ref (u_6.1 0), .int 0, .int 0, .int 0, .ref (k 0), .ref (k 0), .int 0, .int 0, .int 0, .int 0, .int 0, .int 0, .int 0])), ((u_6.1 0), .inl ((u_6.2 0), 200, .inl (fun _ => 0)))] H := hP
  have hD : va_D A [(o, .inr (0, [.ref q_1, .ref q_3, .ref q_5, .int 0, .int (-1)])), (q_1, .inl (g_2, 400, .inl (fun _ => 0))), (q_3, .inr (1, [.ref q_1, .ref (u_4.1 0), .ref (u_4.1 1), .ref (u_4.1 2), .ref (u_4.1 3), .ref (u_4.1 4), .int 0, .int 0, .int 0])), ((u_4.1 0), .inl ((u_4.2 0), 401, .inl (fun _ => 0))), ((u_4.1 1), .inl ((u_4.2 1), 401, .inl (fun _ => 0))), ((u_4.1 2), .inl ((u_4.2 2), 401, .inr (.inr (.inr (.inr (fun _ => none)))))), ((u_4.1 3), .inl ((u_4.2 3), 401, .inl (fun _ => 0))), ((u_4.1 4), .inr (2, [.ref (u_4.1 5), .int 0])), ((u_4.1 5), .inl ((u_4.2 4), 200, .inl (fun _ => 0))), (q_5, .inr (3, [.ref q_3, .ref (u_6.1 0), .int 0, .int 0, .int 0, .ref (k 0), .ref (k 0), .int 0, .int 0, .int 0, .int 0, .int 0, .int 0, .int 0])), ((u_6.1 0), .inl ((u_6.2 0), 200, .inl (fun _ => 0)))] := hD
  exact W.vret hx hb hr (fun t het hW => ⟨⟨((fun i => match i with | 0 => o | 1 => q_1 | 2 => q_3 | 3 => (u_4.1 0) | 4 => (u_4.1 1) | 5 => (u_4.1 2) | 6 => (u_4.1 3) | 7 => (u_4.1 4) | 8 => (u_4.1 5) | 9 => q_5 | 10 => (u_6.1 0) | _ => 0), (fun i => match i with | 0 => g_2 | 1 => (u_4.2 0) | 2 => (u_4.2 1) | 3 => (u_4.2 2) | 4 => (u_4.2 3) | 5 => (u_4.2 4) | _ => (u_6.2 0))), rfl, rfl, by rw [het]; exact hP, va_K.moved hW.alike hK, hD⟩, hS.F het⟩) hS.2.2 d_S_init_53

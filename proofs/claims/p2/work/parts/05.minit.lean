set_option maxHeartbeats 4000000 in
set_option maxRecDepth 100000 in
theorem c_M_init (l : Launch) (dC : Nat → ClassId) (dI : Nat → Nat → Nat) (k : Nat → Nat) (o : Nat) (sz : Nat) : Met l y_M_init (.code y_M_init b_M_init 1 none :: TT) ({ frames := 1, cells := 6, slots := 1769, locals := 12 }) (va_Pc [.ref o] (PX dC dI k [] [(o, .inr (4, [.null, .null, .null, .int 0, .int 0, .int 0, .int 0, .int 0, .null, .null, .int 0, .int 0, .int 0, .int 0, .int 0, .int 0, .int 0, .int 0, .null]))] sz)) (va_Qv (fun u : ((Nat → Nat) × (Nat → ClassId)) × ((Nat → Int64) × (Nat → Int32)) => u.1.1 0 = o) (fun u t => BX dC dI (TM u.1.2) (va_A [(o, .inr (4, [.null, .null, .null, .int 0, .int 0, .int 0, .int 0, .int 0, .null, .null, .int 0, .int 0, .int 0, .int 0, .int 0, .int 0, .int 0, .int 0, .null]))] sz) (ME u.1.1 u.1.2 0 0 0 0 0 (-1) 0 0 0 0 0 0 0 u.2.1 u.2.2 (fun _ => 0) (fun _ => 0) (fun _ => 0) (fun _ => 0)) t) (va_A [(o, .inr (4, [.null, .null, .null, .int 0, .int 0, .int 0, .int 0, .int 0, .null, .null, .int 0, .int 0, .int 0, .int 0, .int 0, .int 0, .int 0, .int 0, .null]))] sz)) 6 1769 (va_A [(o, .inr (4, [.null, .null, .null, .int 0, .int 0, .int 0, .int 0, .int 0, .null, .null, .int 0, .int 0, .int 0, .int 0, .int 0, .int 0, .int 0, .int 0, .null]))] sz) := by
  refine Met.ofW (cc := b_M_init) (maxL := 1) (ret := none) (by decide) rfl ?_
  intro p e s m args below meth c s₁ B hml hv
  obtain ⟨rfl, hsz, hE, hP, hK, hD0⟩ := hv
  have hx := B.exec
  have hb := B.bytes
  have hr := B.returns
  have ht : ∀ w ∈ TT, w.before _ s = true := fun w hw => atoms_spec (ws := .code y_M_init b_M_init 1 none :: TT) B.pre w (List.mem_cons_of_mem _ hw)
  have hown : s.vm.findClass "SieveDeskModel" = some m.cls := findClass_of_methodNamed B.named
  have hlocks := B.notSynchronized
  have hin : meth.name = "<init>" := (name_of_methodNamed B.named B.method).1
  subst hsz
  have hD := hD0.self (sz := s.heap.size)
  generalize hAe : va_A [(o, .inr (4, [.null, .null, .null, .int 0, .int 0, .int 0, .int 0, .int 0, .null, .null, .int 0, .int 0, .int 0, .int 0, .int 0, .int 0, .int 0, .int 0, .null]))] s.heap.size = A at hE hD ⊢
  have hA : ∀ q : Nat, s.heap.size ≤ q → A q := fun q h9 => by rw [← hAe]; exact Or.inr h9
  have hS : va_S A s.heap s.heap [] := va_S.rf
  have hl := lv_entry ([.ref o]) (n := 1) (Nat.le_of_ble_eq_true rfl)
  rw [lg_entry_eq]
  generalize (lg_sl ([.ref o]) ++ List.replicate (1 - (lg_sl ([.ref o])).length) Slot.unset).toArray = ls at hl ⊢
  have hl : lv_has ls 1 [(0, .ref o)] := hl
  refine lv_aload_n hx hb d_M_init_0 rfl (lv_at hl 0 rfl) ?_
  refine W.objInit hx hb hown (ht _ k_562) (ht _ k_94) (ht _ k_95) rfl (by rw [hml]; exact hl.1) rfl d_M_init_1 (Nat.le_of_ble_eq_true rfl) (Nat.le_of_ble_eq_true rfl) ?_
  refine W.eq (g2 := F0 m 4 ls []) rfl ?_
  refine lv_aload_n hx hb d_M_init_4 rfl (lv_at hl 0 rfl) ?_
  refine lv_sipush (v := 220) hx hb d_M_init_5 (by decide) ?_
  refine va_newa (atype := .long) (ty := .long) (N' := 220) (a0 := (220, .inr (.inl (fun _ => 0)))) hx hb (ht _ k_685) rfl hK hP hD hS hA (fun _ => rfl) (by decide) (by decide) (by decide) (Nat.le_of_ble_eq_true rfl) (Nat.le_of_ble_eq_true rfl) d_M_init_8 (fun q_1 g_2 H hK hP hD hS => ?_)
  have hP : va_P (dC, dI) cls [(o, .inr (4, [.null, .null, .null, .int 0, .int 0, .int 0, .int 0, .int 0, .null, .null, .int 0, .int 0, .int 0, .int 0, .int 0, .int 0, .int 0, .int 0, .null])), (q_1, .inl (g_2, 220, .inr (.inl (fun _ => 0))))] H := hP
  have hD : va_D A [(o, .inr (4, [.null, .null, .null, .int 0, .int 0, .int 0, .int 0, .int 0, .null, .null, .int 0, .int 0, .int 0, .int 0, .int 0, .int 0, .int 0, .int 0, .null])), (q_1, .inl (g_2, 220, .inr (.inl (fun _ => 0))))] := hD
  have hK : va_K (dC, dI) cls [(g_2, .long)] s := hK
  refine W.widen (k := 1) (n := 220) (by decide) (by decide) ?_
  refine lv_dup hx hb d_M_init_10 rfl ?_
  refine lv_iconst (v := 0) hx hb d_M_init_11 (by decide) ?_
  refine lv_ldc2 (v := 8243119442065777920) hx hb hown (ht _ k_563) d_M_init_12 ?_
  refine va_lastG hx hb hK hP hD hS 1 0 rfl rfl (by unfold vp_in; decide) d_M_init_15 (fun f_3 H locs hP hD hS => ?_)
  have hP : va_P (dC, dI) cls [(o, .inr (4, [.null, .null, .null, .int 0, .int 0, .int 0, .int 0, .int 0, .null, .null, .int 0, .int 0, .int 0, .int 0, .int 0, .int 0, .int 0, .int 0, .null])), (q_1, .inl (g_2, 220, .inr (.inl f_3)))] H := hP
  have hD : va_D A [(o, .inr (4, [.null, .null, .null, .int 0, .int 0, .int 0, .int 0, .int 0, .null, .null, .int 0, .int 0, .int 0, .int 0, .int 0, .int 0, .int 0, .int 0, .null])), (q_1, .inl (g_2, 220, .inr (.inl f_3)))] := hD
  refine lv_dup hx hb d_M_init_16 rfl ?_
  refine lv_iconst (v := 1) hx hb d_M_init_17 (by decide) ?_
  refine lv_lconst (v := 0) hx hb d_M_init_18 (by decide) ?_
  refine va_lastG hx hb hK hP hD hS 1 0 rfl rfl (by unfold vp_in; decide) d_M_init_19 (fun f_4 H locs hP hD hS => ?_)
  have hP : va_P (dC, dI) cls [(o, .inr (4, [.null, .null, .null, .int 0, .int 0, .int 0, .int 0, .int 0, .null, .null, .int 0, .int 0, .int 0, .int 0, .int 0, .int 0, .int 0, .int 0, .null])), (q_1, .inl (g_2, 220, .inr (.inl f_4)))] H := hP
  have hD : va_D A [(o, .inr (4, [.null, .null, .null, .int 0, .int 0, .int 0, .int 0, .int 0, .null, .null, .int 0, .int 0, .int 0, .int 0, .int 0, .int 0, .int 0, .int 0, .null])), (q_1, .inl (g_2, 220, .inr (.inl f_4)))] := hD
  refine lv_dup hx hb d_M_init_20 rfl ?_
  refine lv_iconst (v := 2) hx hb d_M_init_21 (by decide) ?_
  refine lv_lconst (v := 0) hx hb d_M_init_22 (by decide) ?_
  refine va_lastG hx hb hK hP hD hS 1 0 rfl rfl (by unfold vp_in; decide) d_M_init_23 (fun f_5 H locs hP hD hS => ?_)
  have hP : va_P (dC, dI) cls [(o, .inr (4, [.null, .null, .null, .int 0, .int 0, .int 0, .int 0, .int 0, .null, .null, .int 0, .int 0, .int 0, .int 0, .int 0, .int 0, .int 0, .int 0, .null])), (q_1, .inl (g_2, 220, .inr (.inl f_5)))] H := hP
  have hD : va_D A [(o, .inr (4, [.null, .null, .null, .int 0, .int 0, .int 0, .int 0, .int 0, .null, .null, .int 0, .int 0, .int 0, .int 0, .int 0, .int 0, .int 0, .int 0, .null])), (q_1, .inl (g_2, 220, .inr (.inl f_5)))] := hD
  refine lv_dup hx hb d_M_init_24 rfl ?_
  refine lv_iconst (v := 3) hx hb d_M_init_25 (by decide) ?_
  refine lv_lconst (v := 0) hx hb d_M_init_26 (by decide) ?_
  refine va_lastG hx hb hK hP hD hS 1 0 rfl rfl (by unfold vp_in; decide) d_M_init_27 (fun f_6 H locs hP hD hS => ?_)
  have hP : va_P (dC, dI) cls [(o, .inr (4, [.null, .null, .null, .int 0, .int 0, .int 0, .int 0, .int 0, .null, .null, .int 0, .int 0, .int 0, .int 0, .int 0, .int 0, .int 0, .int 0, .null])), (q_1, .inl (g_2, 220, .inr (.inl f_6)))] H := hP
  have hD : va_D A [(o, .inr (4, [.null, .null, .null, .int 0, .int 0, .int 0, .int 0, .int 0, .null, .null, .int 0, .int 0, .int 0, .int 0, .int 0, .int 0, .int 0, .int 0, .null])), (q_1, .inl (g_2, 220, .inr (.inl f_6)))] := hD
  refine lv_dup hx hb d_M_init_28 rfl ?_
  refine lv_iconst (v := 4) hx hb d_M_init_29 (by decide) ?_
  refine lv_ldc2 (v := 7594757821606920192) hx hb hown (ht _ k_564) d_M_init_30 ?_
  refine va_lastG hx hb hK hP hD hS 1 0 rfl rfl (by unfold vp_in; decide) d_M_init_33 (fun f_7 H locs hP hD hS => ?_)
  have hP : va_P (dC, dI) cls [(o, .inr (4, [.null, .null, .null, .int 0, .int 0, .int 0, .int 0, .int 0, .null, .null, .int 0, .int 0, .int 0, .int 0, .int 0, .int 0, .int 0, .int 0, .null])), (q_1, .inl (g_2, 220, .inr (.inl f_7)))] H := hP
  have hD : va_D A [(o, .inr (4, [.null, .null, .null, .int 0, .int 0, .int 0, .int 0, .int 0, .null, .null, .int 0, .int 0, .int 0, .int 0, .int 0, .int 0, .int 0, .int 0, .null])), (q_1, .inl (g_2, 220, .inr (.inl f_7)))] := hD
  refine lv_dup hx hb d_M_init_34 rfl ?_
  refine lv_iconst (v := 5) hx hb d_M_init_35 (by decide) ?_
  refine lv_lconst (v := 0) hx hb d_M_init_36 (by decide) ?_
  refine va_lastG hx hb hK hP hD hS 1 0 rfl rfl (by unfold vp_in; decide) d_M_init_37 (fun f_8 H locs hP hD hS => ?_)
  have hP : va_P (dC, dI) cls [(o, .inr (4, [.null, .null, .null, .int 0, .int 0, .int 0, .int 0, .int 0, .null, .null, .int 0, .int 0, .int 0, .int 0, .int 0, .int 0, .int 0, .int 0, .null])), (q_1, .inl (g_2, 220, .inr (.inl f_8)))] H := hP
  have hD : va_D A [(o, .inr (4, [.null, .null, .null, .int 0, .int 0, .int 0, .int 0, .int 0, .null, .null, .int 0, .int 0, .int 0, .int 0, .int 0, .int 0, .int 0, .int 0, .null])), (q_1, .inl (g_2, 220, .inr (.inl f_8)))] := hD
  refine lv_dup hx hb d_M_init_38 rfl ?_
  refine lv_bipush (v := 6) hx hb d_M_init_39 (by decide) ?_
  refine lv_lconst (v := 0) hx hb d_M_init_41 (by decide) ?_
  refine va_lastG hx hb hK hP hD hS 1 0 rfl rfl (by unfold vp_in; decide) d_M_init_42 (fun f_9 H locs hP hD hS => ?_)
  have hP : va_P (dC, dI) cls [(o, .inr (4, [.null, .null, .null, .int 0, .int 0, .int 0, .int 0, .int 0, .null, .null, .int 0, .int 0, .int 0, .int 0, .int 0, .int 0, .int 0, .int 0, .null])), (q_1, .inl (g_2, 220, .inr (.inl f_9)))] H := hP
  have hD : va_D A [(o, .inr (4, [.null, .null, .null, .int 0, .int 0, .int 0, .int 0, .int 0, .null, .null, .int 0, .int 0, .int 0, .int 0, .int 0, .int 0, .int 0, .int 0, .null])), (q_1, .inl (g_2, 220, .inr (.inl f_9)))] := hD
  refine lv_dup hx hb d_M_init_43 rfl ?_
  refine lv_bipush (v := 7) hx hb d_M_init_44 (by decide) ?_
  refine lv_lconst (v := 0) hx hb d_M_init_46 (by decide) ?_
  refine va_lastG hx hb hK hP hD hS 1 0 rfl rfl (by unfold vp_in; decide) d_M_init_47 (fun f_10 H locs hP hD hS => ?_)
  have hP : va_P (dC, dI) cls [(o, .inr (4, [.null, .null, .null, .int 0, .int 0, .int 0, .int 0, .int 0, .null, .null, .int 0, .int 0, .int 0, .int 0, .int 0, .int 0, .int 0, .int 0, .null])), (q_1, .inl (g_2, 220, .inr (.inl f_10)))] H := hP
  have hD : va_D A [(o, .inr (4, [.null, .null, .null, .int 0, .int 0, .int 0, .int 0, .int 0, .null, .null, .int 0, .int 0, .int 0, .int 0, .int 0, .int 0, .int 0, .int 0, .null])), (q_1, .inl (g_2, 220, .inr (.inl f_10)))] := hD
  refine lv_dup hx hb d_M_init_48 rfl ?_
  refine lv_bipush (v := 8) hx hb d_M_init_49 (by decide) ?_
  refine lv_ldc2 (v := 7308343191835508736) hx hb hown (ht _ k_565) d_M_init_51 ?_
  refine va_lastG hx hb hK hP hD hS 1 0 rfl rfl (by unfold vp_in; decide) d_M_init_54 (fun f_11 H locs hP hD hS => ?_)
  have hP : va_P (dC, dI) cls [(o, .inr (4, [.null, .null, .null, .int 0, .int 0, .int 0, .int 0, .int 0, .null, .null, .int 0, .int 0, .int 0, .int 0, .int 0, .int 0, .int 0, .int 0, .null])), (q_1, .inl (g_2, 220, .inr (.inl f_11)))] H := hP
  have hD : va_D A [(o, .inr (4, [.null, .null, .null, .int 0, .int 0, .int 0, .int 0, .int 0, .null, .null, .int 0, .int 0, .int 0, .int 0, .int 0, .int 0, .int 0, .int 0, .null])), (q_1, .inl (g_2, 220, .inr (.inl f_11)))] := hD
  refine lv_dup hx hb d_M_init_55 rfl ?_
  refine lv_bipush (v := 9) hx hb d_M_init_56 (by decide) ?_
  refine lv_lconst (v := 0) hx hb d_M_init_58 (by decide) ?_
  refine va_lastG hx hb hK hP hD hS 1 0 rfl rfl (by unfold vp_in; decide) d_M_init_59 (fun f_12 H locs hP hD hS => ?_)
  have hP : va_P (dC, dI) cls [(o, .inr (4, [.null, .null, .null, .int 0, .int 0, .int 0, .int 0, .int 0, .null, .null, .int 0, .int 0, .int 0, .int 0, .int 0, .int 0, .int 0, .int 0, .null])), (q_1, .inl (g_2, 220, .inr (.inl f_12)))] H := hP
  have hD : va_D A [(o, .inr (4, [.null, .null, .null, .int 0, .int 0, .int 0, .int 0, .int 0, .null, .null, .int 0, .int 0, .int 0, .int 0, .int 0, .int 0, .int 0, .int 0, .null])), (q_1, .inl (g_2, 220, .inr (.inl f_12)))] := hD
  refine lv_dup hx hb d_M_init_60 rfl ?_
  refine lv_bipush (v := 10) hx hb d_M_init_61 (by decide) ?_
  refine lv_lconst (v := 0) hx hb d_M_init_63 (by decide) ?_
  refine va_lastG hx hb hK hP hD hS 1 0 rfl rfl (by unfold vp_in; decide) d_M_init_64 (fun f_13 H locs hP hD hS => ?_)
  have hP : va_P (dC, dI) cls [(o, .inr (4, [.null, .null, .null, .int 0, .int 0, .int 0, .int 0, .int 0, .null, .null, .int 0, .int 0, .int 0, .int 0, .int 0, .int 0, .int 0, .int 0, .null])), (q_1, .inl (g_2, 220, .inr (.inl f_13)))] H := hP
  have hD : va_D A [(o, .inr (4, [.null, .null, .null, .int 0, .int 0, .int 0, .int 0, .int 0, .null, .null, .int 0, .int 0, .int 0, .int 0, .int 0, .int 0, .int 0, .int 0, .null])), (q_1, .inl (g_2, 220, .inr (.inl f_13)))] := hD
  refine lv_dup hx hb d_M_init_65 rfl ?_
  refine lv_bipush (v := 11) hx hb d_M_init_66 (by decide) ?_
  refine lv_lconst (v := 0) hx hb d_M_init_68 (by decide) ?_
  refine va_lastG hx hb hK hP hD hS 1 0 rfl rfl (by unfold vp_in; decide) d_M_init_69 (fun f_14 H locs hP hD hS => ?_)
  have hP : va_P (dC, dI) cls [(o, .inr (4, [.null, .null, .null, .int 0, .int 0, .int 0, .int 0, .int 0, .null, .null, .int 0, .int 0, .int 0, .int 0, .int 0, .int 0, .int 0, .int 0, .null])), (q_1, .inl (g_2, 220, .inr (.inl f_14)))] H := hP
  have hD : va_D A [(o, .inr (4, [.null, .null, .null, .int 0, .int 0, .int 0, .int 0, .int 0, .null, .null, .int 0, .int 0, .int 0, .int 0, .int 0, .int 0, .int 0, .int 0, .null])), (q_1, .inl (g_2, 220, .inr (.inl f_14)))] := hD
  refine lv_dup hx hb d_M_init_70 rfl ?_
  refine lv_bipush (v := 12) hx hb d_M_init_71 (by decide) ?_
  refine lv_ldc2 (v := 7308343172944363520) hx hb hown (ht _ k_566) d_M_init_73 ?_
  refine va_lastG hx hb hK hP hD hS 1 0 rfl rfl (by unfold vp_in; decide) d_M_init_76 (fun f_15 H locs hP hD hS => ?_)
  have hP : va_P (dC, dI) cls [(o, .inr (4, [.null, .null, .null, .int 0, .int 0, .int 0, .int 0, .int 0, .null, .null, .int 0, .int 0, .int 0, .int 0, .int 0, .int 0, .int 0, .int 0, .null])), (q_1, .inl (g_2, 220, .inr (.inl f_15)))] H := hP
  have hD : va_D A [(o, .inr (4, [.null, .null, .null, .int 0, .int 0, .int 0, .int 0, .int 0, .null, .null, .int 0, .int 0, .int 0, .int 0, .int 0, .int 0, .int 0, .int 0, .null])), (q_1, .inl (g_2, 220, .inr (.inl f_15)))] := hD
  refine lv_dup hx hb d_M_init_77 rfl ?_
  refine lv_bipush (v := 13) hx hb d_M_init_78 (by decide) ?_
  refine lv_lconst (v := 0) hx hb d_M_init_80 (by decide) ?_
  refine va_lastG hx hb hK hP hD hS 1 0 rfl rfl (by unfold vp_in; decide) d_M_init_81 (fun f_16 H locs hP hD hS => ?_)
  have hP : va_P (dC, dI) cls [(o, .inr (4, [.null, .null, .null, .int 0, .int 0, .int 0, .int 0, .int 0, .null, .null, .int 0, .int 0, .int 0, .int 0, .int 0, .int 0, .int 0, .int 0, .null])), (q_1, .inl (g_2, 220, .inr (.inl f_16)))] H := hP
  have hD : va_D A [(o, .inr (4, [.null, .null, .null, .int 0, .int 0, .int 0, .int 0, .int 0, .null, .null, .int 0, .int 0, .int 0, .int 0, .int 0, .int 0, .int 0, .int 0, .null])), (q_1, .inl (g_2, 220, .inr (.inl f_16)))] := hD
  refine lv_dup hx hb d_M_init_82 rfl ?_
  refine lv_bipush (v := 14) hx hb d_M_init_83 (by decide) ?_
  refine lv_lconst (v := 0) hx hb d_M_init_85 (by decide) ?_
  refine va_lastG hx hb hK hP hD hS 1 0 rfl rfl (by unfold vp_in; decide) d_M_init_86 (fun f_17 H locs hP hD hS => ?_)
  have hP : va_P (dC, dI) cls [(o, .inr (4, [.null, .null, .null, .int 0, .int 0, .int 0, .int 0, .int 0, .null, .null, .int 0, .int 0, .int 0, .int 0, .int 0, .int 0, .int 0, .int 0, .null])), (q_1, .inl (g_2, 220, .inr (.inl f_17)))] H := hP
  have hD : va_D A [(o, .inr (4, [.null, .null, .null, .int 0, .int 0, .int 0, .int 0, .int 0, .null, .null, .int 0, .int 0, .int 0, .int 0, .int 0, .int 0, .int 0, .int 0, .null])), (q_1, .inl (g_2, 220, .inr (.inl f_17)))] := hD
  refine lv_dup hx hb d_M_init_87 rfl ?_
  refine lv_bipush (v := 15) hx hb d_M_init_88 (by decide) ?_
  refine lv_lconst (v := 0) hx hb d_M_init_90 (by decide) ?_
  refine va_lastG hx hb hK hP hD hS 1 0 rfl rfl (by unfold vp_in; decide) d_M_init_91 (fun f_18 H locs hP hD hS => ?_)
  have hP : va_P (dC, dI) cls [(o, .inr (4, [.null, .null, .null, .int 0, .int 0, .int 0, .int 0, .int 0, .null, .null, .int 0, .int 0, .int 0, .int 0, .int 0, .int 0, .int 0, .int 0, .null])), (q_1, .inl (g_2, 220, .inr (.inl f_18)))] H := hP
  have hD : va_D A [(o, .inr (4, [.null, .null, .null, .int 0, .int 0, .int 0, .int 0, .int 0, .null, .null, .int 0, .int 0, .int 0, .int 0, .int 0, .int 0, .int 0, .int 0, .null])), (q_1, .inl (g_2, 220, .inr (.inl f_18)))] := hD
  refine lv_dup hx hb d_M_init_92 rfl ?_
  refine lv_bipush (v := 16) hx hb d_M_init_93 (by decide) ?_
  refine lv_ldc2 (v := 8319396938487169024) hx hb hown (ht _ k_567) d_M_init_95 ?_
  refine va_lastG hx hb hK hP hD hS 1 0 rfl rfl (by unfold vp_in; decide) d_M_init_98 (fun f_19 H locs hP hD hS => ?_)
  have hP : va_P (dC, dI) cls [(o, .inr (4, [.null, .null, .null, .int 0, .int 0, .int 0, .int 0, .int 0, .null, .null, .int 0, .int 0, .int 0, .int 0, .int 0, .int 0, .int 0, .int 0, .null])), (q_1, .inl (g_2, 220, .inr (.inl f_19)))] H := hP
  have hD : va_D A [(o, .inr (4, [.null, .null, .null, .int 0, .int 0, .int 0, .int 0, .int 0, .null, .null, .int 0, .int 0, .int 0, .int 0, .int 0, .int 0, .int 0, .int 0, .null])), (q_1, .inl (g_2, 220, .inr (.inl f_19)))] := hD
  refine lv_dup hx hb d_M_init_99 rfl ?_
  refine lv_bipush (v := 17) hx hb d_M_init_100 (by decide) ?_
  refine lv_lconst (v := 0) hx hb d_M_init_102 (by decide) ?_
  refine va_lastG hx hb hK hP hD hS 1 0 rfl rfl (by unfold vp_in; decide) d_M_init_103 (fun f_20 H locs hP hD hS => ?_)
  have hP : va_P (dC, dI) cls [(o, .inr (4, [.null, .null, .null, .int 0, .int 0, .int 0, .int 0, .int 0, .null, .null, .int 0, .int 0, .int 0, .int 0, .int 0, .int 0, .int 0, .int 0, .null])), (q_1, .inl (g_2, 220, .inr (.inl f_20)))] H := hP
  have hD : va_D A [(o, .inr (4, [.null, .null, .null, .int 0, .int 0, .int 0, .int 0, .int 0, .null, .null, .int 0, .int 0, .int 0, .int 0, .int 0, .int 0, .int 0, .int 0, .null])), (q_1, .inl (g_2, 220, .inr (.inl f_20)))] := hD
  refine lv_dup hx hb d_M_init_104 rfl ?_
  refine lv_bipush (v := 18) hx hb d_M_init_105 (by decide) ?_
  refine lv_lconst (v := 0) hx hb d_M_init_107 (by decide) ?_
  refine va_lastG hx hb hK hP hD hS 1 0 rfl rfl (by unfold vp_in; decide) d_M_init_108 (fun f_21 H locs hP hD hS => ?_)
  have hP : va_P (dC, dI) cls [(o, .inr (4, [.null, .null, .null, .int 0, .int 0, .int 0, .int 0, .int 0, .null, .null, .int 0, .int 0, .int 0, .int 0, .int 0, .int 0, .int 0, .int 0, .null])), (q_1, .inl (g_2, 220, .inr (.inl f_21)))] H := hP
  have hD : va_D A [(o, .inr (4, [.null, .null, .null, .int 0, .int 0, .int 0, .int 0, .int 0, .null, .null, .int 0, .int 0, .int 0, .int 0, .int 0, .int 0, .int 0, .int 0, .null])), (q_1, .inl (g_2, 220, .inr (.inl f_21)))] := hD
  refine lv_dup hx hb d_M_init_109 rfl ?_
  refine lv_bipush (v := 19) hx hb d_M_init_110 (by decide) ?_
  refine lv_lconst (v := 0) hx hb d_M_init_112 (by decide) ?_
  refine va_lastG hx hb hK hP hD hS 1 0 rfl rfl (by unfold vp_in; decide) d_M_init_113 (fun f_22 H locs hP hD hS => ?_)
  have hP : va_P (dC, dI) cls [(o, .inr (4, [.null, .null, .null, .int 0, .int 0, .int 0, .int 0, .int 0, .null, .null, .int 0, .int 0, .int 0, .int 0, .int 0, .int 0, .int 0, .int 0, .null])), (q_1, .inl (g_2, 220, .inr (.inl f_22)))] H := hP
  have hD : va_D A [(o, .inr (4, [.null, .null, .null, .int 0, .int 0, .int 0, .int 0, .int 0, .null, .null, .int 0, .int 0, .int 0, .int 0, .int 0, .int 0, .int 0, .int 0, .null])), (q_1, .inl (g_2, 220, .inr (.inl f_22)))] := hD
  refine lv_dup hx hb d_M_init_114 rfl ?_
  refine lv_bipush (v := 20) hx hb d_M_init_115 (by decide) ?_
  refine lv_ldc2 (v := 7235441147021255680) hx hb hown (ht _ k_568) d_M_init_117 ?_
  refine va_lastG hx hb hK hP hD hS 1 0 rfl rfl (by unfold vp_in; decide) d_M_init_120 (fun f_23 H locs hP hD hS => ?_)
  have hP : va_P (dC, dI) cls [(o, .inr (4, [.null, .null, .null, .int 0, .int 0, .int 0, .int 0, .int 0, .null, .null, .int 0, .int 0, .int 0, .int 0, .int 0, .int 0, .int 0, .int 0, .null])), (q_1, .inl (g_2, 220, .inr (.inl f_23)))] H := hP
  have hD : va_D A [(o, .inr (4, [.null, .null, .null, .int 0, .int 0, .int 0, .int 0, .int 0, .null, .null, .int 0, .int 0, .int 0, .int 0, .int 0, .int 0, .int 0, .int 0, .null])), (q_1, .inl (g_2, 220, .inr (.inl f_23)))] := hD
  refine lv_dup hx hb d_M_init_121 rfl ?_
  refine lv_bipush (v := 21) hx hb d_M_init_122 (by decide) ?_
  refine lv_lconst (v := 0) hx hb d_M_init_124 (by decide) ?_
  refine va_lastG hx hb hK hP hD hS 1 0 rfl rfl (by unfold vp_in; decide) d_M_init_125 (fun f_24 H locs hP hD hS => ?_)
  have hP : va_P (dC, dI) cls [(o, .inr (4, [.null, .null, .null, .int 0, .int 0, .int 0, .int 0, .int 0, .null, .null, .int 0, .int 0, .int 0, .int 0, .int 0, .int 0, .int 0, .int 0, .null])), (q_1, .inl (g_2, 220, .inr (.inl f_24)))] H := hP
  have hD : va_D A [(o, .inr (4, [.null, .null, .null, .int 0, .int 0, .int 0, .int 0, .int 0, .null, .null, .int 0, .int 0, .int 0, .int 0, .int 0, .int 0, .int 0, .int 0, .null])), (q_1, .inl (g_2, 220, .inr (.inl f_24)))] := hD
  refine lv_dup hx hb d_M_init_126 rfl ?_
  refine lv_bipush (v := 22) hx hb d_M_init_127 (by decide) ?_
  refine lv_lconst (v := 0) hx hb d_M_init_129 (by decide) ?_
  refine va_lastG hx hb hK hP hD hS 1 0 rfl rfl (by unfold vp_in; decide) d_M_init_130 (fun f_25 H locs hP hD hS => ?_)
  have hP : va_P (dC, dI) cls [(o, .inr (4, [.null, .null, .null, .int 0, .int 0, .int 0, .int 0, .int 0, .null, .null, .int 0, .int 0, .int 0, .int 0, .int 0, .int 0, .int 0, .int 0, .null])), (q_1, .inl (g_2, 220, .inr (.inl f_25)))] H := hP
  have hD : va_D A [(o, .inr (4, [.null, .null, .null, .int 0, .int 0, .int 0, .int 0, .int 0, .null, .null, .int 0, .int 0, .int 0, .int 0, .int 0, .int 0, .int 0, .int 0, .null])), (q_1, .inl (g_2, 220, .inr (.inl f_25)))] := hD
  refine lv_dup hx hb d_M_init_131 rfl ?_
  refine lv_bipush (v := 23) hx hb d_M_init_132 (by decide) ?_
  refine lv_lconst (v := 0) hx hb d_M_init_134 (by decide) ?_
  refine va_lastG hx hb hK hP hD hS 1 0 rfl rfl (by unfold vp_in; decide) d_M_init_135 (fun f_26 H locs hP hD hS => ?_)
  have hP : va_P (dC, dI) cls [(o, .inr (4, [.null, .null, .null, .int 0, .int 0, .int 0, .int 0, .int 0, .null, .null, .int 0, .int 0, .int 0, .int 0, .int 0, .int 0, .int 0, .int 0, .null])), (q_1, .inl (g_2, 220, .inr (.inl f_26)))] H := hP
  have hD : va_D A [(o, .inr (4, [.null, .null, .null, .int 0, .int 0, .int 0, .int 0, .int 0, .null, .null, .int 0, .int 0, .int 0, .int 0, .int 0, .int 0, .int 0, .int 0, .null])), (q_1, .inl (g_2, 220, .inr (.inl f_26)))] := hD
  refine lv_dup hx hb d_M_init_136 rfl ?_
  refine lv_bipush (v := 24) hx hb d_M_init_137 (by decide) ?_
  refine lv_ldc2 (v := 7738703066416807936) hx hb hown (ht _ k_569) d_M_init_139 ?_
  refine va_lastG hx hb hK hP hD hS 1 0 rfl rfl (by unfold vp_in; decide) d_M_init_142 (fun f_27 H locs hP hD hS => ?_)
  have hP : va_P (dC, dI) cls [(o, .inr (4, [.null, .null, .null, .int 0, .int 0, .int 0, .int 0, .int 0, .null, .null, .int 0, .int 0, .int 0, .int 0, .int 0, .int 0, .int 0, .int 0, .null])), (q_1, .inl (g_2, 220, .inr (.inl f_27)))] H := hP
  have hD : va_D A [(o, .inr (4, [.null, .null, .null, .int 0, .int 0, .int 0, .int 0, .int 0, .null, .null, .int 0, .int 0, .int 0, .int 0, .int 0, .int 0, .int 0, .int 0, .null])), (q_1, .inl (g_2, 220, .inr (.inl f_27)))] := hD
  refine lv_dup hx hb d_M_init_143 rfl ?_
  refine lv_bipush (v := 25) hx hb d_M_init_144 (by decide) ?_
  refine lv_lconst (v := 0) hx hb d_M_init_146 (by decide) ?_
  refine va_lastG hx hb hK hP hD hS 1 0 rfl rfl (by unfold vp_in; decide) d_M_init_147 (fun f_28 H locs hP hD hS => ?_)
  have hP : va_P (dC, dI) cls [(o, .inr (4, [.null, .null, .null, .int 0, .int 0, .int 0, .int 0, .int 0, .null, .null, .int 0, .int 0, .int 0, .int 0, .int 0, .int 0, .int 0, .int 0, .null])), (q_1, .inl (g_2, 220, .inr (.inl f_28)))] H := hP
  have hD : va_D A [(o, .inr (4, [.null, .null, .null, .int 0, .int 0, .int 0, .int 0, .int 0, .null, .null, .int 0, .int 0, .int 0, .int 0, .int 0, .int 0, .int 0, .int 0, .null])), (q_1, .inl (g_2, 220, .inr (.inl f_28)))] := hD
  refine lv_dup hx hb d_M_init_148 rfl ?_
  refine lv_bipush (v := 26) hx hb d_M_init_149 (by decide) ?_
  refine lv_lconst (v := 0) hx hb d_M_init_151 (by decide) ?_
  refine va_lastG hx hb hK hP hD hS 1 0 rfl rfl (by unfold vp_in; decide) d_M_init_152 (fun f_29 H locs hP hD hS => ?_)
  have hP : va_P (dC, dI) cls [(o, .inr (4, [.null, .null, .null, .int 0, .int 0, .int 0, .int 0, .int 0, .null, .null, .int 0, .int 0, .int 0, .int 0, .int 0, .int 0, .int 0, .int 0, .null])), (q_1, .inl (g_2, 220, .inr (.inl f_29)))] H := hP
  have hD : va_D A [(o, .inr (4, [.null, .null, .null, .int 0, .int 0, .int 0, .int 0, .int 0, .null, .null, .int 0, .int 0, .int 0, .int 0, .int 0, .int 0, .int 0, .int 0, .null])), (q_1, .inl (g_2, 220, .inr (.inl f_29)))] := hD
  refine lv_dup hx hb d_M_init_153 rfl ?_
  refine lv_bipush (v := 27) hx hb d_M_init_154 (by decide) ?_
  refine lv_lconst (v := 0) hx hb d_M_init_156 (by decide) ?_
  refine va_lastG hx hb hK hP hD hS 1 0 rfl rfl (by unfold vp_in; decide) d_M_init_157 (fun f_30 H locs hP hD hS => ?_)
  have hP : va_P (dC, dI) cls [(o, .inr (4, [.null, .null, .null, .int 0, .int 0, .int 0, .int 0, .int 0, .null, .null, .int 0, .int 0, .int 0, .int 0, .int 0, .int 0, .int 0, .int 0, .null])), (q_1, .inl (g_2, 220, .inr (.inl f_30)))] H := hP
  have hD : va_D A [(o, .inr (4, [.null, .null, .null, .int 0, .int 0, .int 0, .int 0, .int 0, .null, .null, .int 0, .int 0, .int 0, .int 0, .int 0, .int 0, .int 0, .int 0, .null])), (q_1, .inl (g_2, 220, .inr (.inl f_30)))] := hD
  refine lv_dup hx hb d_M_init_158 rfl ?_
  refine lv_bipush (v := 28) hx hb d_M_init_159 (by decide) ?_
  refine lv_ldc2 (v := 7379548647239611503) hx hb hown (ht _ k_570) d_M_init_161 ?_
  refine va_lastG hx hb hK hP hD hS 1 0 rfl rfl (by unfold vp_in; decide) d_M_init_164 (fun f_31 H locs hP hD hS => ?_)
  have hP : va_P (dC, dI) cls [(o, .inr (4, [.null, .null, .null, .int 0, .int 0, .int 0, .int 0, .int 0, .null, .null, .int 0, .int 0, .int 0, .int 0, .int 0, .int 0, .int 0, .int 0, .null])), (q_1, .inl (g_2, 220, .inr (.inl f_31)))] H := hP
  have hD : va_D A [(o, .inr (4, [.null, .null, .null, .int 0, .int 0, .int 0, .int 0, .int 0, .null, .null, .int 0, .int 0, .int 0, .int 0, .int 0, .int 0, .int 0, .int 0, .null])), (q_1, .inl (g_2, 220, .inr (.inl f_31)))] := hD
  refine lv_dup hx hb d_M_init_165 rfl ?_
  refine lv_bipush (v := 29) hx hb d_M_init_166 (by decide) ?_
  refine lv_lconst (v := 0) hx hb d_M_init_168 (by decide) ?_
  refine va_lastG hx hb hK hP hD hS 1 0 rfl rfl (by unfold vp_in; decide) d_M_init_169 (fun f_32 H locs hP hD hS => ?_)
  have hP : va_P (dC, dI) cls [(o, .inr (4, [.null, .null, .null, .int 0, .int 0, .int 0, .int 0, .int 0, .null, .null, .int 0, .int 0, .int 0, .int 0, .int 0, .int 0, .int 0, .int 0, .null])), (q_1, .inl (g_2, 220, .inr (.inl f_32)))] H := hP
  have hD : va_D A [(o, .inr (4, [.null, .null, .null, .int 0, .int 0, .int 0, .int 0, .int 0, .null, .null, .int 0, .int 0, .int 0, .int 0, .int 0, .int 0, .int 0, .int 0, .null])), (q_1, .inl (g_2, 220, .inr (.inl f_32)))] := hD
  refine lv_dup hx hb d_M_init_170 rfl ?_
  refine lv_bipush (v := 30) hx hb d_M_init_171 (by decide) ?_
  refine lv_lconst (v := 0) hx hb d_M_init_173 (by decide) ?_
  refine va_lastG hx hb hK hP hD hS 1 0 rfl rfl (by unfold vp_in; decide) d_M_init_174 (fun f_33 H locs hP hD hS => ?_)
  have hP : va_P (dC, dI) cls [(o, .inr (4, [.null, .null, .null, .int 0, .int 0, .int 0, .int 0, .int 0, .null, .null, .int 0, .int 0, .int 0, .int 0, .int 0, .int 0, .int 0, .int 0, .null])), (q_1, .inl (g_2, 220, .inr (.inl f_33)))] H := hP
  have hD : va_D A [(o, .inr (4, [.null, .null, .null, .int 0, .int 0, .int 0, .int 0, .int 0, .null, .null, .int 0, .int 0, .int 0, .int 0, .int 0, .int 0, .int 0, .int 0, .null])), (q_1, .inl (g_2, 220, .inr (.inl f_33)))] := hD
  refine lv_dup hx hb d_M_init_175 rfl ?_
  refine lv_bipush (v := 31) hx hb d_M_init_176 (by decide) ?_
  refine lv_lconst (v := 0) hx hb d_M_init_178 (by decide) ?_
  refine va_lastG hx hb hK hP hD hS 1 0 rfl rfl (by unfold vp_in; decide) d_M_init_179 (fun f_34 H locs hP hD hS => ?_)
  have hP : va_P (dC, dI) cls [(o, .inr (4, [.null, .null, .null, .int 0, .int 0, .int 0, .int 0, .int 0, .null, .null, .int 0, .int 0, .int 0, .int 0, .int 0, .int 0, .int 0, .int 0, .null])), (q_1, .inl (g_2, 220, .inr (.inl f_34)))] H := hP
  have hD : va_D A [(o, .inr (4, [.null, .null, .null, .int 0, .int 0, .int 0, .int 0, .int 0, .null, .null, .int 0, .int 0, .int 0, .int 0, .int 0, .int 0, .int 0, .int 0, .null])), (q_1, .inl (g_2, 220, .inr (.inl f_34)))] := hD
  refine lv_dup hx hb d_M_init_180 rfl ?_
  refine lv_bipush (v := 32) hx hb d_M_init_181 (by decide) ?_
  refine lv_ldc2 (v := 8243105097025151860) hx hb hown (ht _ k_571) d_M_init_183 ?_
  refine va_lastG hx hb hK hP hD hS 1 0 rfl rfl (by unfold vp_in; decide) d_M_init_186 (fun f_35 H locs hP hD hS => ?_)
  have hP : va_P (dC, dI) cls [(o, .inr (4, [.null, .null, .null, .int 0, .int 0, .int 0, .int 0, .int 0, .null, .null, .int 0, .int 0, .int 0, .int 0, .int 0, .int 0, .int 0, .int 0, .null])), (q_1, .inl (g_2, 220, .inr (.inl f_35)))] H := hP
  have hD : va_D A [(o, .inr (4, [.null, .null, .null, .int 0, .int 0, .int 0, .int 0, .int 0, .null, .null, .int 0, .int 0, .int 0, .int 0, .int 0, .int 0, .int 0, .int 0, .null])), (q_1, .inl (g_2, 220, .inr (.inl f_35)))] := hD
  refine lv_dup hx hb d_M_init_187 rfl ?_
  refine lv_bipush (v := 33) hx hb d_M_init_188 (by decide) ?_
  refine lv_lconst (v := 0) hx hb d_M_init_190 (by decide) ?_
  refine va_lastG hx hb hK hP hD hS 1 0 rfl rfl (by unfold vp_in; decide) d_M_init_191 (fun f_36 H locs hP hD hS => ?_)
  have hP : va_P (dC, dI) cls [(o, .inr (4, [.null, .null, .null, .int 0, .int 0, .int 0, .int 0, .int 0, .null, .null, .int 0, .int 0, .int 0, .int 0, .int 0, .int 0, .int 0, .int 0, .null])), (q_1, .inl (g_2, 220, .inr (.inl f_36)))] H := hP
  have hD : va_D A [(o, .inr (4, [.null, .null, .null, .int 0, .int 0, .int 0, .int 0, .int 0, .null, .null, .int 0, .int 0, .int 0, .int 0, .int 0, .int 0, .int 0, .int 0, .null])), (q_1, .inl (g_2, 220, .inr (.inl f_36)))] := hD
  refine lv_dup hx hb d_M_init_192 rfl ?_
  refine lv_bipush (v := 34) hx hb d_M_init_193 (by decide) ?_
  refine lv_lconst (v := 0) hx hb d_M_init_195 (by decide) ?_
  refine va_lastG hx hb hK hP hD hS 1 0 rfl rfl (by unfold vp_in; decide) d_M_init_196 (fun f_37 H locs hP hD hS => ?_)
  have hP : va_P (dC, dI) cls [(o, .inr (4, [.null, .null, .null, .int 0, .int 0, .int 0, .int 0, .int 0, .null, .null, .int 0, .int 0, .int 0, .int 0, .int 0, .int 0, .int 0, .int 0, .null])), (q_1, .inl (g_2, 220, .inr (.inl f_37)))] H := hP
  have hD : va_D A [(o, .inr (4, [.null, .null, .null, .int 0, .int 0, .int 0, .int 0, .int 0, .null, .null, .int 0, .int 0, .int 0, .int 0, .int 0, .int 0, .int 0, .int 0, .null])), (q_1, .inl (g_2, 220, .inr (.inl f_37)))] := hD
  refine lv_dup hx hb d_M_init_197 rfl ?_
  refine lv_bipush (v := 35) hx hb d_M_init_198 (by decide) ?_
  refine lv_lconst (v := 0) hx hb d_M_init_200 (by decide) ?_
  refine va_lastG hx hb hK hP hD hS 1 0 rfl rfl (by unfold vp_in; decide) d_M_init_201 (fun f_38 H locs hP hD hS => ?_)
  have hP : va_P (dC, dI) cls [(o, .inr (4, [.null, .null, .null, .int 0, .int 0, .int 0, .int 0, .int 0, .null, .null, .int 0, .int 0, .int 0, .int 0, .int 0, .int 0, .int 0, .int 0, .null])), (q_1, .inl (g_2, 220, .inr (.inl f_38)))] H := hP
  have hD : va_D A [(o, .inr (4, [.null, .null, .null, .int 0, .int 0, .int 0, .int 0, .int 0, .null, .null, .int 0, .int 0, .int 0, .int 0, .int 0, .int 0, .int 0, .int 0, .null])), (q_1, .inl (g_2, 220, .inr (.inl f_38)))] := hD
  refine lv_dup hx hb d_M_init_202 rfl ?_
  refine lv_bipush (v := 36) hx hb d_M_init_203 (by decide) ?_
  refine lv_ldc2 (v := 8243111676664348672) hx hb hown (ht _ k_572) d_M_init_205 ?_
  refine va_lastG hx hb hK hP hD hS 1 0 rfl rfl (by unfold vp_in; decide) d_M_init_208 (fun f_39 H locs hP hD hS => ?_)
  have hP : va_P (dC, dI) cls [(o, .inr (4, [.null, .null, .null, .int 0, .int 0, .int 0, .int 0, .int 0, .null, .null, .int 0, .int 0, .int 0, .int 0, .int 0, .int 0, .int 0, .int 0, .null])), (q_1, .inl (g_2, 220, .inr (.inl f_39)))] H := hP
  have hD : va_D A [(o, .inr (4, [.null, .null, .null, .int 0, .int 0, .int 0, .int 0, .int 0, .null, .null, .int 0, .int 0, .int 0, .int 0, .int 0, .int 0, .int 0, .int 0, .null])), (q_1, .inl (g_2, 220, .inr (.inl f_39)))] := hD
  refine lv_dup hx hb d_M_init_209 rfl ?_
  refine lv_bipush (v := 37) hx hb d_M_init_210 (by decide) ?_
  refine lv_lconst (v := 0) hx hb d_M_init_212 (by decide) ?_
  refine va_lastG hx hb hK hP hD hS 1 0 rfl rfl (by unfold vp_in; decide) d_M_init_213 (fun f_40 H locs hP hD hS => ?_)
  have hP : va_P (dC, dI) cls [(o, .inr (4, [.null, .null, .null, .int 0, .int 0, .int 0, .int 0, .int 0, .null, .null, .int 0, .int 0, .int 0, .int 0, .int 0, .int 0, .int 0, .int 0, .null])), (q_1, .inl (g_2, 220, .inr (.inl f_40)))] H := hP
  have hD : va_D A [(o, .inr (4, [.null, .null, .null, .int 0, .int 0, .int 0, .int 0, .int 0, .null, .null, .int 0, .int 0, .int 0, .int 0, .int 0, .int 0, .int 0, .int 0, .null])), (q_1, .inl (g_2, 220, .inr (.inl f_40)))] := hD
  refine lv_dup hx hb d_M_init_214 rfl ?_
  refine lv_bipush (v := 38) hx hb d_M_init_215 (by decide) ?_
  refine lv_lconst (v := 0) hx hb d_M_init_217 (by decide) ?_
  refine va_lastG hx hb hK hP hD hS 1 0 rfl rfl (by unfold vp_in; decide) d_M_init_218 (fun f_41 H locs hP hD hS => ?_)
  have hP : va_P (dC, dI) cls [(o, .inr (4, [.null, .null, .null, .int 0, .int 0, .int 0, .int 0, .int 0, .null, .null, .int 0, .int 0, .int 0, .int 0, .int 0, .int 0, .int 0, .int 0, .null])), (q_1, .inl (g_2, 220, .inr (.inl f_41)))] H := hP
  have hD : va_D A [(o, .inr (4, [.null, .null, .null, .int 0, .int 0, .int 0, .int 0, .int 0, .null, .null, .int 0, .int 0, .int 0, .int 0, .int 0, .int 0, .int 0, .int 0, .null])), (q_1, .inl (g_2, 220, .inr (.inl f_41)))] := hD
  refine lv_dup hx hb d_M_init_219 rfl ?_
  refine lv_bipush (v := 39) hx hb d_M_init_220 (by decide) ?_
  refine lv_lconst (v := 0) hx hb d_M_init_222 (by decide) ?_
  refine va_lastG hx hb hK hP hD hS 1 0 rfl rfl (by unfold vp_in; decide) d_M_init_223 (fun f_42 H locs hP hD hS => ?_)
  have hP : va_P (dC, dI) cls [(o, .inr (4, [.null, .null, .null, .int 0, .int 0, .int 0, .int 0, .int 0, .null, .null, .int 0, .int 0, .int 0, .int 0, .int 0, .int 0, .int 0, .int 0, .null])), (q_1, .inl (g_2, 220, .inr (.inl f_42)))] H := hP
  have hD : va_D A [(o, .inr (4, [.null, .null, .null, .int 0, .int 0, .int 0, .int 0, .int 0, .null, .null, .int 0, .int 0, .int 0, .int 0, .int 0, .int 0, .int 0, .int 0, .null])), (q_1, .inl (g_2, 220, .inr (.inl f_42)))] := hD
  refine lv_dup hx hb d_M_init_224 rfl ?_
  refine lv_bipush (v := 40) hx hb d_M_init_225 (by decide) ?_
  refine lv_ldc2 (v := 8315180270263297792) hx hb hown (ht _ k_573) d_M_init_227 ?_
  refine va_lastG hx hb hK hP hD hS 1 0 rfl rfl (by unfold vp_in; decide) d_M_init_230 (fun f_43 H locs hP hD hS => ?_)
  have hP : va_P (dC, dI) cls [(o, .inr (4, [.null, .null, .null, .int 0, .int 0, .int 0, .int 0, .int 0, .null, .null, .int 0, .int 0, .int 0, .int 0, .int 0, .int 0, .int 0, .int 0, .null])), (q_1, .inl (g_2, 220, .inr (.inl f_43)))] H := hP
  have hD : va_D A [(o, .inr (4, [.null, .null, .null, .int 0, .int 0, .int 0, .int 0, .int 0, .null, .null, .int 0, .int 0, .int 0, .int 0, .int 0, .int 0, .int 0, .int 0, .null])), (q_1, .inl (g_2, 220, .inr (.inl f_43)))] := hD
  refine lv_dup hx hb d_M_init_231 rfl ?_
  refine lv_bipush (v := 41) hx hb d_M_init_232 (by decide) ?_
  refine lv_lconst (v := 0) hx hb d_M_init_234 (by decide) ?_
  refine va_lastG hx hb hK hP hD hS 1 0 rfl rfl (by unfold vp_in; decide) d_M_init_235 (fun f_44 H locs hP hD hS => ?_)
  have hP : va_P (dC, dI) cls [(o, .inr (4, [.null, .null, .null, .int 0, .int 0, .int 0, .int 0, .int 0, .null, .null, .int 0, .int 0, .int 0, .int 0, .int 0, .int 0, .int 0, .int 0, .null])), (q_1, .inl (g_2, 220, .inr (.inl f_44)))] H := hP
  have hD : va_D A [(o, .inr (4, [.null, .null, .null, .int 0, .int 0, .int 0, .int 0, .int 0, .null, .null, .int 0, .int 0, .int 0, .int 0, .int 0, .int 0, .int 0, .int 0, .null])), (q_1, .inl (g_2, 220, .inr (.inl f_44)))] := hD
  refine lv_dup hx hb d_M_init_236 rfl ?_
  refine lv_bipush (v := 42) hx hb d_M_init_237 (by decide) ?_
  refine lv_lconst (v := 0) hx hb d_M_init_239 (by decide) ?_
  refine va_lastG hx hb hK hP hD hS 1 0 rfl rfl (by unfold vp_in; decide) d_M_init_240 (fun f_45 H locs hP hD hS => ?_)
  have hP : va_P (dC, dI) cls [(o, .inr (4, [.null, .null, .null, .int 0, .int 0, .int 0, .int 0, .int 0, .null, .null, .int 0, .int 0, .int 0, .int 0, .int 0, .int 0, .int 0, .int 0, .null])), (q_1, .inl (g_2, 220, .inr (.inl f_45)))] H := hP
  have hD : va_D A [(o, .inr (4, [.null, .null, .null, .int 0, .int 0, .int 0, .int 0, .int 0, .null, .null, .int 0, .int 0, .int 0, .int 0, .int 0, .int 0, .int 0, .int 0, .null])), (q_1, .inl (g_2, 220, .inr (.inl f_45)))] := hD
  refine lv_dup hx hb d_M_init_241 rfl ?_
  refine lv_bipush (v := 43) hx hb d_M_init_242 (by decide) ?_
  refine lv_lconst (v := 0) hx hb d_M_init_244 (by decide) ?_
  refine va_lastG hx hb hK hP hD hS 1 0 rfl rfl (by unfold vp_in; decide) d_M_init_245 (fun f_46 H locs hP hD hS => ?_)
  have hP : va_P (dC, dI) cls [(o, .inr (4, [.null, .null, .null, .int 0, .int 0, .int 0, .int 0, .int 0, .null, .null, .int 0, .int 0, .int 0, .int 0, .int 0, .int 0, .int 0, .int 0, .null])), (q_1, .inl (g_2, 220, .inr (.inl f_46)))] H := hP
  have hD : va_D A [(o, .inr (4, [.null, .null, .null, .int 0, .int 0, .int 0, .int 0, .int 0, .null, .null, .int 0, .int 0, .int 0, .int 0, .int 0, .int 0, .int 0, .int 0, .null])), (q_1, .inl (g_2, 220, .inr (.inl f_46)))] := hD
  refine lv_dup hx hb d_M_init_246 rfl ?_
  refine lv_bipush (v := 44) hx hb d_M_init_247 (by decide) ?_
  refine lv_ldc2 (v := 7017844510417839872) hx hb hown (ht _ k_574) d_M_init_249 ?_
  refine va_lastG hx hb hK hP hD hS 1 0 rfl rfl (by unfold vp_in; decide) d_M_init_252 (fun f_47 H locs hP hD hS => ?_)
  have hP : va_P (dC, dI) cls [(o, .inr (4, [.null, .null, .null, .int 0, .int 0, .int 0, .int 0, .int 0, .null, .null, .int 0, .int 0, .int 0, .int 0, .int 0, .int 0, .int 0, .int 0, .null])), (q_1, .inl (g_2, 220, .inr (.inl f_47)))] H := hP
  have hD : va_D A [(o, .inr (4, [.null, .null, .null, .int 0, .int 0, .int 0, .int 0, .int 0, .null, .null, .int 0, .int 0, .int 0, .int 0, .int 0, .int 0, .int 0, .int 0, .null])), (q_1, .inl (g_2, 220, .inr (.inl f_47)))] := hD
  refine lv_dup hx hb d_M_init_253 rfl ?_
  refine lv_bipush (v := 45) hx hb d_M_init_254 (by decide) ?_
  refine lv_lconst (v := 0) hx hb d_M_init_256 (by decide) ?_
  refine va_lastG hx hb hK hP hD hS 1 0 rfl rfl (by unfold vp_in; decide) d_M_init_257 (fun f_48 H locs hP hD hS => ?_)
  have hP : va_P (dC, dI) cls [(o, .inr (4, [.null, .null, .null, .int 0, .int 0, .int 0, .int 0, .int 0, .null, .null, .int 0, .int 0, .int 0, .int 0, .int 0, .int 0, .int 0, .int 0, .null])), (q_1, .inl (g_2, 220, .inr (.inl f_48)))] H := hP
  have hD : va_D A [(o, .inr (4, [.null, .null, .null, .int 0, .int 0, .int 0, .int 0, .int 0, .null, .null, .int 0, .int 0, .int 0, .int 0, .int 0, .int 0, .int 0, .int 0, .null])), (q_1, .inl (g_2, 220, .inr (.inl f_48)))] := hD
  refine lv_dup hx hb d_M_init_258 rfl ?_
  refine lv_bipush (v := 46) hx hb d_M_init_259 (by decide) ?_
  refine lv_lconst (v := 0) hx hb d_M_init_261 (by decide) ?_
  refine va_lastG hx hb hK hP hD hS 1 0 rfl rfl (by unfold vp_in; decide) d_M_init_262 (fun f_49 H locs hP hD hS => ?_)
  have hP : va_P (dC, dI) cls [(o, .inr (4, [.null, .null, .null, .int 0, .int 0, .int 0, .int 0, .int 0, .null, .null, .int 0, .int 0, .int 0, .int 0, .int 0, .int 0, .int 0, .int 0, .null])), (q_1, .inl (g_2, 220, .inr (.inl f_49)))] H := hP
  have hD : va_D A [(o, .inr (4, [.null, .null, .null, .int 0, .int 0, .int 0, .int 0, .int 0, .null, .null, .int 0, .int 0, .int 0, .int 0, .int 0, .int 0, .int 0, .int 0, .null])), (q_1, .inl (g_2, 220, .inr (.inl f_49)))] := hD
  refine lv_dup hx hb d_M_init_263 rfl ?_
  refine lv_bipush (v := 47) hx hb d_M_init_264 (by decide) ?_
  refine lv_lconst (v := 0) hx hb d_M_init_266 (by decide) ?_
  refine va_lastG hx hb hK hP hD hS 1 0 rfl rfl (by unfold vp_in; decide) d_M_init_267 (fun f_50 H locs hP hD hS => ?_)
  have hP : va_P (dC, dI) cls [(o, .inr (4, [.null, .null, .null, .int 0, .int 0, .int 0, .int 0, .int 0, .null, .null, .int 0, .int 0, .int 0, .int 0, .int 0, .int 0, .int 0, .int 0, .null])), (q_1, .inl (g_2, 220, .inr (.inl f_50)))] H := hP
  have hD : va_D A [(o, .inr (4, [.null, .null, .null, .int 0, .int 0, .int 0, .int 0, .int 0, .null, .null, .int 0, .int 0, .int 0, .int 0, .int 0, .int 0, .int 0, .int 0, .null])), (q_1, .inl (g_2, 220, .inr (.inl f_50)))] := hD
  refine lv_dup hx hb d_M_init_268 rfl ?_
  refine lv_bipush (v := 48) hx hb d_M_init_269 (by decide) ?_
  refine lv_ldc2 (v := 8243115018466715244) hx hb hown (ht _ k_575) d_M_init_271 ?_
  refine va_lastG hx hb hK hP hD hS 1 0 rfl rfl (by unfold vp_in; decide) d_M_init_274 (fun f_51 H locs hP hD hS => ?_)
  have hP : va_P (dC, dI) cls [(o, .inr (4, [.null, .null, .null, .int 0, .int 0, .int 0, .int 0, .int 0, .null, .null, .int 0, .int 0, .int 0, .int 0, .int 0, .int 0, .int 0, .int 0, .null])), (q_1, .inl (g_2, 220, .inr (.inl f_51)))] H := hP
  have hD : va_D A [(o, .inr (4, [.null, .null, .null, .int 0, .int 0, .int 0, .int 0, .int 0, .null, .null, .int 0, .int 0, .int 0, .int 0, .int 0, .int 0, .int 0, .int 0, .null])), (q_1, .inl (g_2, 220, .inr (.inl f_51)))] := hD
  refine lv_dup hx hb d_M_init_275 rfl ?_
  refine lv_bipush (v := 49) hx hb d_M_init_276 (by decide) ?_
  refine lv_ldc2 (v := 7018578544280207360) hx hb hown (ht _ k_576) d_M_init_278 ?_
  refine va_lastG hx hb hK hP hD hS 1 0 rfl rfl (by unfold vp_in; decide) d_M_init_281 (fun f_52 H locs hP hD hS => ?_)
  have hP : va_P (dC, dI) cls [(o, .inr (4, [.null, .null, .null, .int 0, .int 0, .int 0, .int 0, .int 0, .null, .null, .int 0, .int 0, .int 0, .int 0, .int 0, .int 0, .int 0, .int 0, .null])), (q_1, .inl (g_2, 220, .inr (.inl f_52)))] H := hP
  have hD : va_D A [(o, .inr (4, [.null, .null, .null, .int 0, .int 0, .int 0, .int 0, .int 0, .null, .null, .int 0, .int 0, .int 0, .int 0, .int 0, .int 0, .int 0, .int 0, .null])), (q_1, .inl (g_2, 220, .inr (.inl f_52)))] := hD
  refine lv_dup hx hb d_M_init_282 rfl ?_
  refine lv_bipush (v := 50) hx hb d_M_init_283 (by decide) ?_
  refine lv_lconst (v := 0) hx hb d_M_init_285 (by decide) ?_
  refine va_lastG hx hb hK hP hD hS 1 0 rfl rfl (by unfold vp_in; decide) d_M_init_286 (fun f_53 H locs hP hD hS => ?_)
  have hP : va_P (dC, dI) cls [(o, .inr (4, [.null, .null, .null, .int 0, .int 0, .int 0, .int 0, .int 0, .null, .null, .int 0, .int 0, .int 0, .int 0, .int 0, .int 0, .int 0, .int 0, .null])), (q_1, .inl (g_2, 220, .inr (.inl f_53)))] H := hP
  have hD : va_D A [(o, .inr (4, [.null, .null, .null, .int 0, .int 0, .int 0, .int 0, .int 0, .null, .null, .int 0, .int 0, .int 0, .int 0, .int 0, .int 0, .int 0, .int 0, .null])), (q_1, .inl (g_2, 220, .inr (.inl f_53)))] := hD
  refine lv_dup hx hb d_M_init_287 rfl ?_
  refine lv_bipush (v := 51) hx hb d_M_init_288 (by decide) ?_
  refine lv_lconst (v := 0) hx hb d_M_init_290 (by decide) ?_
  refine va_lastG hx hb hK hP hD hS 1 0 rfl rfl (by unfold vp_in; decide) d_M_init_291 (fun f_54 H locs hP hD hS => ?_)
  have hP : va_P (dC, dI) cls [(o, .inr (4, [.null, .null, .null, .int 0, .int 0, .int 0, .int 0, .int 0, .null, .null, .int 0, .int 0, .int 0, .int 0, .int 0, .int 0, .int 0, .int 0, .null])), (q_1, .inl (g_2, 220, .inr (.inl f_54)))] H := hP
  have hD : va_D A [(o, .inr (4, [.null, .null, .null, .int 0, .int 0, .int 0, .int 0, .int 0, .null, .null, .int 0, .int 0, .int 0, .int 0, .int 0, .int 0, .int 0, .int 0, .null])), (q_1, .inl (g_2, 220, .inr (.inl f_54)))] := hD
  refine lv_dup hx hb d_M_init_292 rfl ?_
  refine lv_bipush (v := 52) hx hb d_M_init_293 (by decide) ?_
  refine lv_ldc2 (v := 8530208439432474478) hx hb hown (ht _ k_577) d_M_init_295 ?_
  refine va_lastG hx hb hK hP hD hS 1 0 rfl rfl (by unfold vp_in; decide) d_M_init_298 (fun f_55 H locs hP hD hS => ?_)
  have hP : va_P (dC, dI) cls [(o, .inr (4, [.null, .null, .null, .int 0, .int 0, .int 0, .int 0, .int 0, .null, .null, .int 0, .int 0, .int 0, .int 0, .int 0, .int 0, .int 0, .int 0, .null])), (q_1, .inl (g_2, 220, .inr (.inl f_55)))] H := hP
  have hD : va_D A [(o, .inr (4, [.null, .null, .null, .int 0, .int 0, .int 0, .int 0, .int 0, .null, .null, .int 0, .int 0, .int 0, .int 0, .int 0, .int 0, .int 0, .int 0, .null])), (q_1, .inl (g_2, 220, .inr (.inl f_55)))] := hD
  refine lv_dup hx hb d_M_init_299 rfl ?_
  refine lv_bipush (v := 53) hx hb d_M_init_300 (by decide) ?_
  refine lv_lconst (v := 0) hx hb d_M_init_302 (by decide) ?_
  refine va_lastG hx hb hK hP hD hS 1 0 rfl rfl (by unfold vp_in; decide) d_M_init_303 (fun f_56 H locs hP hD hS => ?_)
  have hP : va_P (dC, dI) cls [(o, .inr (4, [.null, .null, .null, .int 0, .int 0, .int 0, .int 0, .int 0, .null, .null, .int 0, .int 0, .int 0, .int 0, .int 0, .int 0, .int 0, .int 0, .null])), (q_1, .inl (g_2, 220, .inr (.inl f_56)))] H := hP
  have hD : va_D A [(o, .inr (4, [.null, .null, .null, .int 0, .int 0, .int 0, .int 0, .int 0, .null, .null, .int 0, .int 0, .int 0, .int 0, .int 0, .int 0, .int 0, .int 0, .null])), (q_1, .inl (g_2, 220, .inr (.inl f_56)))] := hD
  refine lv_dup hx hb d_M_init_304 rfl ?_
  refine lv_bipush (v := 54) hx hb d_M_init_305 (by decide) ?_
  refine lv_lconst (v := 0) hx hb d_M_init_307 (by decide) ?_
  refine va_lastG hx hb hK hP hD hS 1 0 rfl rfl (by unfold vp_in; decide) d_M_init_308 (fun f_57 H locs hP hD hS => ?_)
  have hP : va_P (dC, dI) cls [(o, .inr (4, [.null, .null, .null, .int 0, .int 0, .int 0, .int 0, .int 0, .null, .null, .int 0, .int 0, .int 0, .int 0, .int 0, .int 0, .int 0, .int 0, .null])), (q_1, .inl (g_2, 220, .inr (.inl f_57)))] H := hP
  have hD : va_D A [(o, .inr (4, [.null, .null, .null, .int 0, .int 0, .int 0, .int 0, .int 0, .null, .null, .int 0, .int 0, .int 0, .int 0, .int 0, .int 0, .int 0, .int 0, .null])), (q_1, .inl (g_2, 220, .inr (.inl f_57)))] := hD
  refine lv_dup hx hb d_M_init_309 rfl ?_
  refine lv_bipush (v := 55) hx hb d_M_init_310 (by decide) ?_
  refine lv_lconst (v := 0) hx hb d_M_init_312 (by decide) ?_
  refine va_lastG hx hb hK hP hD hS 1 0 rfl rfl (by unfold vp_in; decide) d_M_init_313 (fun f_58 H locs hP hD hS => ?_)
  have hP : va_P (dC, dI) cls [(o, .inr (4, [.null, .null, .null, .int 0, .int 0, .int 0, .int 0, .int 0, .null, .null, .int 0, .int 0, .int 0, .int 0, .int 0, .int 0, .int 0, .int 0, .null])), (q_1, .inl (g_2, 220, .inr (.inl f_58)))] H := hP
  have hD : va_D A [(o, .inr (4, [.null, .null, .null, .int 0, .int 0, .int 0, .int 0, .int 0, .null, .null, .int 0, .int 0, .int 0, .int 0, .int 0, .int 0, .int 0, .int 0, .null])), (q_1, .inl (g_2, 220, .inr (.inl f_58)))] := hD
  refine lv_dup hx hb d_M_init_314 rfl ?_
  refine lv_bipush (v := 56) hx hb d_M_init_315 (by decide) ?_
  refine lv_ldc2 (v := 7522525836418875392) hx hb hown (ht _ k_578) d_M_init_317 ?_
  refine va_lastG hx hb hK hP hD hS 1 0 rfl rfl (by unfold vp_in; decide) d_M_init_320 (fun f_59 H locs hP hD hS => ?_)
  have hP : va_P (dC, dI) cls [(o, .inr (4, [.null, .null, .null, .int 0, .int 0, .int 0, .int 0, .int 0, .null, .null, .int 0, .int 0, .int 0, .int 0, .int 0, .int 0, .int 0, .int 0, .null])), (q_1, .inl (g_2, 220, .inr (.inl f_59)))] H := hP
  have hD : va_D A [(o, .inr (4, [.null, .null, .null, .int 0, .int 0, .int 0, .int 0, .int 0, .null, .null, .int 0, .int 0, .int 0, .int 0, .int 0, .int 0, .int 0, .int 0, .null])), (q_1, .inl (g_2, 220, .inr (.inl f_59)))] := hD
  refine lv_dup hx hb d_M_init_321 rfl ?_
  refine lv_bipush (v := 57) hx hb d_M_init_322 (by decide) ?_
  refine lv_lconst (v := 0) hx hb d_M_init_324 (by decide) ?_
  refine va_lastG hx hb hK hP hD hS 1 0 rfl rfl (by unfold vp_in; decide) d_M_init_325 (fun f_60 H locs hP hD hS => ?_)
  have hP : va_P (dC, dI) cls [(o, .inr (4, [.null, .null, .null, .int 0, .int 0, .int 0, .int 0, .int 0, .null, .null, .int 0, .int 0, .int 0, .int 0, .int 0, .int 0, .int 0, .int 0, .null])), (q_1, .inl (g_2, 220, .inr (.inl f_60)))] H := hP
  have hD : va_D A [(o, .inr (4, [.null, .null, .null, .int 0, .int 0, .int 0, .int 0, .int 0, .null, .null, .int 0, .int 0, .int 0, .int 0, .int 0, .int 0, .int 0, .int 0, .null])), (q_1, .inl (g_2, 220, .inr (.inl f_60)))] := hD
  refine lv_dup hx hb d_M_init_326 rfl ?_
  refine lv_bipush (v := 58) hx hb d_M_init_327 (by decide) ?_
  refine lv_lconst (v := 0) hx hb d_M_init_329 (by decide) ?_
  refine va_lastG hx hb hK hP hD hS 1 0 rfl rfl (by unfold vp_in; decide) d_M_init_330 (fun f_61 H locs hP hD hS => ?_)
  have hP : va_P (dC, dI) cls [(o, .inr (4, [.null, .null, .null, .int 0, .int 0, .int 0, .int 0, .int 0, .null, .null, .int 0, .int 0, .int 0, .int 0, .int 0, .int 0, .int 0, .int 0, .null])), (q_1, .inl (g_2, 220, .inr (.inl f_61)))] H := hP
  have hD : va_D A [(o, .inr (4, [.null, .null, .null, .int 0, .int 0, .int 0, .int 0, .int 0, .null, .null, .int 0, .int 0, .int 0, .int 0, .int 0, .int 0, .int 0, .int 0, .null])), (q_1, .inl (g_2, 220, .inr (.inl f_61)))] := hD
  refine lv_dup hx hb d_M_init_331 rfl ?_
  refine lv_bipush (v := 59) hx hb d_M_init_332 (by decide) ?_
  refine lv_lconst (v := 0) hx hb d_M_init_334 (by decide) ?_
  refine va_lastG hx hb hK hP hD hS 1 0 rfl rfl (by unfold vp_in; decide) d_M_init_335 (fun f_62 H locs hP hD hS => ?_)
  have hP : va_P (dC, dI) cls [(o, .inr (4, [.null, .null, .null, .int 0, .int 0, .int 0, .int 0, .int 0, .null, .null, .int 0, .int 0, .int 0, .int 0, .int 0, .int 0, .int 0, .int 0, .null])), (q_1, .inl (g_2, 220, .inr (.inl f_62)))] H := hP
  have hD : va_D A [(o, .inr (4, [.null, .null, .null, .int 0, .int 0, .int 0, .int 0, .int 0, .null, .null, .int 0, .int 0, .int 0, .int 0, .int 0, .int 0, .int 0, .int 0, .null])), (q_1, .inl (g_2, 220, .inr (.inl f_62)))] := hD
  refine lv_dup hx hb d_M_init_336 rfl ?_
  refine lv_bipush (v := 60) hx hb d_M_init_337 (by decide) ?_
  refine lv_ldc2 (v := 7017844561841189632) hx hb hown (ht _ k_579) d_M_init_339 ?_
  refine va_lastG hx hb hK hP hD hS 1 0 rfl rfl (by unfold vp_in; decide) d_M_init_342 (fun f_63 H locs hP hD hS => ?_)
  have hP : va_P (dC, dI) cls [(o, .inr (4, [.null, .null, .null, .int 0, .int 0, .int 0, .int 0, .int 0, .null, .null, .int 0, .int 0, .int 0, .int 0, .int 0, .int 0, .int 0, .int 0, .null])), (q_1, .inl (g_2, 220, .inr (.inl f_63)))] H := hP
  have hD : va_D A [(o, .inr (4, [.null, .null, .null, .int 0, .int 0, .int 0, .int 0, .int 0, .null, .null, .int 0, .int 0, .int 0, .int 0, .int 0, .int 0, .int 0, .int 0, .null])), (q_1, .inl (g_2, 220, .inr (.inl f_63)))] := hD
  refine lv_dup hx hb d_M_init_343 rfl ?_
  refine lv_bipush (v := 61) hx hb d_M_init_344 (by decide) ?_
  refine lv_lconst (v := 0) hx hb d_M_init_346 (by decide) ?_
  refine va_lastG hx hb hK hP hD hS 1 0 rfl rfl (by unfold vp_in; decide) d_M_init_347 (fun f_64 H locs hP hD hS => ?_)
  have hP : va_P (dC, dI) cls [(o, .inr (4, [.null, .null, .null, .int 0, .int 0, .int 0, .int 0, .int 0, .null, .null, .int 0, .int 0, .int 0, .int 0, .int 0, .int 0, .int 0, .int 0, .null])), (q_1, .inl (g_2, 220, .inr (.inl f_64)))] H := hP
  have hD : va_D A [(o, .inr (4, [.null, .null, .null, .int 0, .int 0, .int 0, .int 0, .int 0, .null, .null, .int 0, .int 0, .int 0, .int 0, .int 0, .int 0, .int 0, .int 0, .null])), (q_1, .inl (g_2, 220, .inr (.inl f_64)))] := hD
  refine lv_dup hx hb d_M_init_348 rfl ?_
  refine lv_bipush (v := 62) hx hb d_M_init_349 (by decide) ?_
  refine lv_lconst (v := 0) hx hb d_M_init_351 (by decide) ?_
  refine va_lastG hx hb hK hP hD hS 1 0 rfl rfl (by unfold vp_in; decide) d_M_init_352 (fun f_65 H locs hP hD hS => ?_)
  have hP : va_P (dC, dI) cls [(o, .inr (4, [.null, .null, .null, .int 0, .int 0, .int 0, .int 0, .int 0, .null, .null, .int 0, .int 0, .int 0, .int 0, .int 0, .int 0, .int 0, .int 0, .null])), (q_1, .inl (g_2, 220, .inr (.inl f_65)))] H := hP
  have hD : va_D A [(o, .inr (4, [.null, .null, .null, .int 0, .int 0, .int 0, .int 0, .int 0, .null, .null, .int 0, .int 0, .int 0, .int 0, .int 0, .int 0, .int 0, .int 0, .null])), (q_1, .inl (g_2, 220, .inr (.inl f_65)))] := hD
  refine lv_dup hx hb d_M_init_353 rfl ?_
  refine lv_bipush (v := 63) hx hb d_M_init_354 (by decide) ?_
  refine lv_lconst (v := 0) hx hb d_M_init_356 (by decide) ?_
  refine va_lastG hx hb hK hP hD hS 1 0 rfl rfl (by unfold vp_in; decide) d_M_init_357 (fun f_66 H locs hP hD hS => ?_)
  have hP : va_P (dC, dI) cls [(o, .inr (4, [.null, .null, .null, .int 0, .int 0, .int 0, .int 0, .int 0, .null, .null, .int 0, .int 0, .int 0, .int 0, .int 0, .int 0, .int 0, .int 0, .null])), (q_1, .inl (g_2, 220, .inr (.inl f_66)))] H := hP
  have hD : va_D A [(o, .inr (4, [.null, .null, .null, .int 0, .int 0, .int 0, .int 0, .int 0, .null, .null, .int 0, .int 0, .int 0, .int 0, .int 0, .int 0, .int 0, .int 0, .null])), (q_1, .inl (g_2, 220, .inr (.inl f_66)))] := hD
  refine lv_dup hx hb d_M_init_358 rfl ?_
  refine lv_bipush (v := 64) hx hb d_M_init_359 (by decide) ?_
  refine lv_ldc2 (v := 7308909423251910757) hx hb hown (ht _ k_580) d_M_init_361 ?_
  refine va_lastG hx hb hK hP hD hS 1 0 rfl rfl (by unfold vp_in; decide) d_M_init_364 (fun f_67 H locs hP hD hS => ?_)
  have hP : va_P (dC, dI) cls [(o, .inr (4, [.null, .null, .null, .int 0, .int 0, .int 0, .int 0, .int 0, .null, .null, .int 0, .int 0, .int 0, .int 0, .int 0, .int 0, .int 0, .int 0, .null])), (q_1, .inl (g_2, 220, .inr (.inl f_67)))] H := hP
  have hD : va_D A [(o, .inr (4, [.null, .null, .null, .int 0, .int 0, .int 0, .int 0, .int 0, .null, .null, .int 0, .int 0, .int 0, .int 0, .int 0, .int 0, .int 0, .int 0, .null])), (q_1, .inl (g_2, 220, .inr (.inl f_67)))] := hD
  refine lv_dup hx hb d_M_init_365 rfl ?_
  refine lv_bipush (v := 65) hx hb d_M_init_366 (by decide) ?_
  refine lv_lconst (v := 0) hx hb d_M_init_368 (by decide) ?_
  refine va_lastG hx hb hK hP hD hS 1 0 rfl rfl (by unfold vp_in; decide) d_M_init_369 (fun f_68 H locs hP hD hS => ?_)
  have hP : va_P (dC, dI) cls [(o, .inr (4, [.null, .null, .null, .int 0, .int 0, .int 0, .int 0, .int 0, .null, .null, .int 0, .int 0, .int 0, .int 0, .int 0, .int 0, .int 0, .int 0, .null])), (q_1, .inl (g_2, 220, .inr (.inl f_68)))] H := hP
  have hD : va_D A [(o, .inr (4, [.null, .null, .null, .int 0, .int 0, .int 0, .int 0, .int 0, .null, .null, .int 0, .int 0, .int 0, .int 0, .int 0, .int 0, .int 0, .int 0, .null])), (q_1, .inl (g_2, 220, .inr (.inl f_68)))] := hD
  refine lv_dup hx hb d_M_init_370 rfl ?_
  refine lv_bipush (v := 66) hx hb d_M_init_371 (by decide) ?_
  refine lv_lconst (v := 0) hx hb d_M_init_373 (by decide) ?_
  refine va_lastG hx hb hK hP hD hS 1 0 rfl rfl (by unfold vp_in; decide) d_M_init_374 (fun f_69 H locs hP hD hS => ?_)
  have hP : va_P (dC, dI) cls [(o, .inr (4, [.null, .null, .null, .int 0, .int 0, .int 0, .int 0, .int 0, .null, .null, .int 0, .int 0, .int 0, .int 0, .int 0, .int 0, .int 0, .int 0, .null])), (q_1, .inl (g_2, 220, .inr (.inl f_69)))] H := hP
  have hD : va_D A [(o, .inr (4, [.null, .null, .null, .int 0, .int 0, .int 0, .int 0, .int 0, .null, .null, .int 0, .int 0, .int 0, .int 0, .int 0, .int 0, .int 0, .int 0, .null])), (q_1, .inl (g_2, 220, .inr (.inl f_69)))] := hD
  refine lv_dup hx hb d_M_init_375 rfl ?_
  refine lv_bipush (v := 67) hx hb d_M_init_376 (by decide) ?_
  refine lv_lconst (v := 0) hx hb d_M_init_378 (by decide) ?_
  refine va_lastG hx hb hK hP hD hS 1 0 rfl rfl (by unfold vp_in; decide) d_M_init_379 (fun f_70 H locs hP hD hS => ?_)
  have hP : va_P (dC, dI) cls [(o, .inr (4, [.null, .null, .null, .int 0, .int 0, .int 0, .int 0, .int 0, .null, .null, .int 0, .int 0, .int 0, .int 0, .int 0, .int 0, .int 0, .int 0, .null])), (q_1, .inl (g_2, 220, .inr (.inl f_70)))] H := hP
  have hD : va_D A [(o, .inr (4, [.null, .null, .null, .int 0, .int 0, .int 0, .int 0, .int 0, .null, .null, .int 0, .int 0, .int 0, .int 0, .int 0, .int 0, .int 0, .int 0, .null])), (q_1, .inl (g_2, 220, .inr (.inl f_70)))] := hD
  refine lv_dup hx hb d_M_init_380 rfl ?_
  refine lv_bipush (v := 68) hx hb d_M_init_381 (by decide) ?_
  refine lv_ldc2 (v := 7521419736427620096) hx hb hown (ht _ k_581) d_M_init_383 ?_
  refine va_lastG hx hb hK hP hD hS 1 0 rfl rfl (by unfold vp_in; decide) d_M_init_386 (fun f_71 H locs hP hD hS => ?_)
  have hP : va_P (dC, dI) cls [(o, .inr (4, [.null, .null, .null, .int 0, .int 0, .int 0, .int 0, .int 0, .null, .null, .int 0, .int 0, .int 0, .int 0, .int 0, .int 0, .int 0, .int 0, .null])), (q_1, .inl (g_2, 220, .inr (.inl f_71)))] H := hP
  have hD : va_D A [(o, .inr (4, [.null, .null, .null, .int 0, .int 0, .int 0, .int 0, .int 0, .null, .null, .int 0, .int 0, .int 0, .int 0, .int 0, .int 0, .int 0, .int 0, .null])), (q_1, .inl (g_2, 220, .inr (.inl f_71)))] := hD
  refine lv_dup hx hb d_M_init_387 rfl ?_
  refine lv_bipush (v := 69) hx hb d_M_init_388 (by decide) ?_
  refine lv_lconst (v := 0) hx hb d_M_init_390 (by decide) ?_
  refine va_lastG hx hb hK hP hD hS 1 0 rfl rfl (by unfold vp_in; decide) d_M_init_391 (fun f_72 H locs hP hD hS => ?_)
  have hP : va_P (dC, dI) cls [(o, .inr (4, [.null, .null, .null, .int 0, .int 0, .int 0, .int 0, .int 0, .null, .null, .int 0, .int 0, .int 0, .int 0, .int 0, .int 0, .int 0, .int 0, .null])), (q_1, .inl (g_2, 220, .inr (.inl f_72)))] H := hP
  have hD : va_D A [(o, .inr (4, [.null, .null, .null, .int 0, .int 0, .int 0, .int 0, .int 0, .null, .null, .int 0, .int 0, .int 0, .int 0, .int 0, .int 0, .int 0, .int 0, .null])), (q_1, .inl (g_2, 220, .inr (.inl f_72)))] := hD
  refine lv_dup hx hb d_M_init_392 rfl ?_
  refine lv_bipush (v := 70) hx hb d_M_init_393 (by decide) ?_
  refine lv_lconst (v := 0) hx hb d_M_init_395 (by decide) ?_
  refine va_lastG hx hb hK hP hD hS 1 0 rfl rfl (by unfold vp_in; decide) d_M_init_396 (fun f_73 H locs hP hD hS => ?_)
  have hP : va_P (dC, dI) cls [(o, .inr (4, [.null, .null, .null, .int 0, .int 0, .int 0, .int 0, .int 0, .null, .null, .int 0, .int 0, .int 0, .int 0, .int 0, .int 0, .int 0, .int 0, .null])), (q_1, .inl (g_2, 220, .inr (.inl f_73)))] H := hP
  have hD : va_D A [(o, .inr (4, [.null, .null, .null, .int 0, .int 0, .int 0, .int 0, .int 0, .null, .null, .int 0, .int 0, .int 0, .int 0, .int 0, .int 0, .int 0, .int 0, .null])), (q_1, .inl (g_2, 220, .inr (.inl f_73)))] := hD
  refine lv_dup hx hb d_M_init_397 rfl ?_
  refine lv_bipush (v := 71) hx hb d_M_init_398 (by decide) ?_
  refine lv_lconst (v := 0) hx hb d_M_init_400 (by decide) ?_
  refine va_lastG hx hb hK hP hD hS 1 0 rfl rfl (by unfold vp_in; decide) d_M_init_401 (fun f_74 H locs hP hD hS => ?_)
  have hP : va_P (dC, dI) cls [(o, .inr (4, [.null, .null, .null, .int 0, .int 0, .int 0, .int 0, .int 0, .null, .null, .int 0, .int 0, .int 0, .int 0, .int 0, .int 0, .int 0, .int 0, .null])), (q_1, .inl (g_2, 220, .inr (.inl f_74)))] H := hP
  have hD : va_D A [(o, .inr (4, [.null, .null, .null, .int 0, .int 0, .int 0, .int 0, .int 0, .null, .null, .int 0, .int 0, .int 0, .int 0, .int 0, .int 0, .int 0, .int 0, .null])), (q_1, .inl (g_2, 220, .inr (.inl f_74)))] := hD
  refine lv_dup hx hb d_M_init_402 rfl ?_
  refine lv_bipush (v := 72) hx hb d_M_init_403 (by decide) ?_
  refine lv_ldc2 (v := 7311709939631849472) hx hb hown (ht _ k_582) d_M_init_405 ?_
  refine va_lastG hx hb hK hP hD hS 1 0 rfl rfl (by unfold vp_in; decide) d_M_init_408 (fun f_75 H locs hP hD hS => ?_)
  have hP : va_P (dC, dI) cls [(o, .inr (4, [.null, .null, .null, .int 0, .int 0, .int 0, .int 0, .int 0, .null, .null, .int 0, .int 0, .int 0, .int 0, .int 0, .int 0, .int 0, .int 0, .null])), (q_1, .inl (g_2, 220, .inr (.inl f_75)))] H := hP
  have hD : va_D A [(o, .inr (4, [.null, .null, .null, .int 0, .int 0, .int 0, .int 0, .int 0, .null, .null, .int 0, .int 0, .int 0, .int 0, .int 0, .int 0, .int 0, .int 0, .null])), (q_1, .inl (g_2, 220, .inr (.inl f_75)))] := hD
  refine lv_dup hx hb d_M_init_409 rfl ?_
  refine lv_bipush (v := 73) hx hb d_M_init_410 (by decide) ?_
  refine lv_lconst (v := 0) hx hb d_M_init_412 (by decide) ?_
  refine va_lastG hx hb hK hP hD hS 1 0 rfl rfl (by unfold vp_in; decide) d_M_init_413 (fun f_76 H locs hP hD hS => ?_)
  have hP : va_P (dC, dI) cls [(o, .inr (4, [.null, .null, .null, .int 0, .int 0, .int 0, .int 0, .int 0, .null, .null, .int 0, .int 0, .int 0, .int 0, .int 0, .int 0, .int 0, .int 0, .null])), (q_1, .inl (g_2, 220, .inr (.inl f_76)))] H := hP
  have hD : va_D A [(o, .inr (4, [.null, .null, .null, .int 0, .int 0, .int 0, .int 0, .int 0, .null, .null, .int 0, .int 0, .int 0, .int 0, .int 0, .int 0, .int 0, .int 0, .null])), (q_1, .inl (g_2, 220, .inr (.inl f_76)))] := hD
  refine lv_dup hx hb d_M_init_414 rfl ?_
  refine lv_bipush (v := 74) hx hb d_M_init_415 (by decide) ?_
  refine lv_lconst (v := 0) hx hb d_M_init_417 (by decide) ?_
  refine va_lastG hx hb hK hP hD hS 1 0 rfl rfl (by unfold vp_in; decide) d_M_init_418 (fun f_77 H locs hP hD hS => ?_)
  have hP : va_P (dC, dI) cls [(o, .inr (4, [.null, .null, .null, .int 0, .int 0, .int 0, .int 0, .int 0, .null, .null, .int 0, .int 0, .int 0, .int 0, .int 0, .int 0, .int 0, .int 0, .null])), (q_1, .inl (g_2, 220, .inr (.inl f_77)))] H := hP
  have hD : va_D A [(o, .inr (4, [.null, .null, .null, .int 0, .int 0, .int 0, .int 0, .int 0, .null, .null, .int 0, .int 0, .int 0, .int 0, .int 0, .int 0, .int 0, .int 0, .null])), (q_1, .inl (g_2, 220, .inr (.inl f_77)))] := hD
  refine lv_dup hx hb d_M_init_419 rfl ?_
  refine lv_bipush (v := 75) hx hb d_M_init_420 (by decide) ?_
  refine lv_lconst (v := 0) hx hb d_M_init_422 (by decide) ?_
  refine va_lastG hx hb hK hP hD hS 1 0 rfl rfl (by unfold vp_in; decide) d_M_init_423 (fun f_78 H locs hP hD hS => ?_)
  have hP : va_P (dC, dI) cls [(o, .inr (4, [.null, .null, .null, .int 0, .int 0, .int 0, .int 0, .int 0, .null, .null, .int 0, .int 0, .int 0, .int 0, .int 0, .int 0, .int 0, .int 0, .null])), (q_1, .inl (g_2, 220, .inr (.inl f_78)))] H := hP
  have hD : va_D A [(o, .inr (4, [.null, .null, .null, .int 0, .int 0, .int 0, .int 0, .int 0, .null, .null, .int 0, .int 0, .int 0, .int 0, .int 0, .int 0, .int 0, .int 0, .null])), (q_1, .inl (g_2, 220, .inr (.inl f_78)))] := hD
  refine lv_dup hx hb d_M_init_424 rfl ?_
  refine lv_bipush (v := 76) hx hb d_M_init_425 (by decide) ?_
  refine lv_ldc2 (v := 8316312761126617088) hx hb hown (ht _ k_583) d_M_init_427 ?_
  refine va_lastG hx hb hK hP hD hS 1 0 rfl rfl (by unfold vp_in; decide) d_M_init_430 (fun f_79 H locs hP hD hS => ?_)
  have hP : va_P (dC, dI) cls [(o, .inr (4, [.null, .null, .null, .int 0, .int 0, .int 0, .int 0, .int 0, .null, .null, .int 0, .int 0, .int 0, .int 0, .int 0, .int 0, .int 0, .int 0, .null])), (q_1, .inl (g_2, 220, .inr (.inl f_79)))] H := hP
  have hD : va_D A [(o, .inr (4, [.null, .null, .null, .int 0, .int 0, .int 0, .int 0, .int 0, .null, .null, .int 0, .int 0, .int 0, .int 0, .int 0, .int 0, .int 0, .int 0, .null])), (q_1, .inl (g_2, 220, .inr (.inl f_79)))] := hD
  refine lv_dup hx hb d_M_init_431 rfl ?_
  refine lv_bipush (v := 77) hx hb d_M_init_432 (by decide) ?_
  refine lv_lconst (v := 0) hx hb d_M_init_434 (by decide) ?_
  refine va_lastG hx hb hK hP hD hS 1 0 rfl rfl (by unfold vp_in; decide) d_M_init_435 (fun f_80 H locs hP hD hS => ?_)
  have hP : va_P (dC, dI) cls [(o, .inr (4, [.null, .null, .null, .int 0, .int 0, .int 0, .int 0, .int 0, .null, .null, .int 0, .int 0, .int 0, .int 0, .int 0, .int 0, .int 0, .int 0, .null])), (q_1, .inl (g_2, 220, .inr (.inl f_80)))] H := hP
  have hD : va_D A [(o, .inr (4, [.null, .null, .null, .int 0, .int 0, .int 0, .int 0, .int 0, .null, .null, .int 0, .int 0, .int 0, .int 0, .int 0, .int 0, .int 0, .int 0, .null])), (q_1, .inl (g_2, 220, .inr (.inl f_80)))] := hD
  refine lv_dup hx hb d_M_init_436 rfl ?_
  refine lv_bipush (v := 78) hx hb d_M_init_437 (by decide) ?_
  refine lv_lconst (v := 0) hx hb d_M_init_439 (by decide) ?_
  refine va_lastG hx hb hK hP hD hS 1 0 rfl rfl (by unfold vp_in; decide) d_M_init_440 (fun f_81 H locs hP hD hS => ?_)
  have hP : va_P (dC, dI) cls [(o, .inr (4, [.null, .null, .null, .int 0, .int 0, .int 0, .int 0, .int 0, .null, .null, .int 0, .int 0, .int 0, .int 0, .int 0, .int 0, .int 0, .int 0, .null])), (q_1, .inl (g_2, 220, .inr (.inl f_81)))] H := hP
  have hD : va_D A [(o, .inr (4, [.null, .null, .null, .int 0, .int 0, .int 0, .int 0, .int 0, .null, .null, .int 0, .int 0, .int 0, .int 0, .int 0, .int 0, .int 0, .int 0, .null])), (q_1, .inl (g_2, 220, .inr (.inl f_81)))] := hD
  refine lv_dup hx hb d_M_init_441 rfl ?_
  refine lv_bipush (v := 79) hx hb d_M_init_442 (by decide) ?_
  refine lv_lconst (v := 0) hx hb d_M_init_444 (by decide) ?_
  refine va_lastG hx hb hK hP hD hS 1 0 rfl rfl (by unfold vp_in; decide) d_M_init_445 (fun f_82 H locs hP hD hS => ?_)
  have hP : va_P (dC, dI) cls [(o, .inr (4, [.null, .null, .null, .int 0, .int 0, .int 0, .int 0, .int 0, .null, .null, .int 0, .int 0, .int 0, .int 0, .int 0, .int 0, .int 0, .int 0, .null])), (q_1, .inl (g_2, 220, .inr (.inl f_82)))] H := hP
  have hD : va_D A [(o, .inr (4, [.null, .null, .null, .int 0, .int 0, .int 0, .int 0, .int 0, .null, .null, .int 0, .int 0, .int 0, .int 0, .int 0, .int 0, .int 0, .int 0, .null])), (q_1, .inl (g_2, 220, .inr (.inl f_82)))] := hD
  refine lv_dup hx hb d_M_init_446 rfl ?_
  refine lv_bipush (v := 80) hx hb d_M_init_447 (by decide) ?_
  refine lv_ldc2 (v := 7020105144872206336) hx hb hown (ht _ k_584) d_M_init_449 ?_
  refine va_lastG hx hb hK hP hD hS 1 0 rfl rfl (by unfold vp_in; decide) d_M_init_452 (fun f_83 H locs hP hD hS => ?_)
  have hP : va_P (dC, dI) cls [(o, .inr (4, [.null, .null, .null, .int 0, .int 0, .int 0, .int 0, .int 0, .null, .null, .int 0, .int 0, .int 0, .int 0, .int 0, .int 0, .int 0, .int 0, .null])), (q_1, .inl (g_2, 220, .inr (.inl f_83)))] H := hP
  have hD : va_D A [(o, .inr (4, [.null, .null, .null, .int 0, .int 0, .int 0, .int 0, .int 0, .null, .null, .int 0, .int 0, .int 0, .int 0, .int 0, .int 0, .int 0, .int 0, .null])), (q_1, .inl (g_2, 220, .inr (.inl f_83)))] := hD
  refine lv_dup hx hb d_M_init_453 rfl ?_
  refine lv_bipush (v := 81) hx hb d_M_init_454 (by decide) ?_
  refine lv_lconst (v := 0) hx hb d_M_init_456 (by decide) ?_
  refine va_lastG hx hb hK hP hD hS 1 0 rfl rfl (by unfold vp_in; decide) d_M_init_457 (fun f_84 H locs hP hD hS => ?_)
  have hP : va_P (dC, dI) cls [(o, .inr (4, [.null, .null, .null, .int 0, .int 0, .int 0, .int 0, .int 0, .null, .null, .int 0, .int 0, .int 0, .int 0, .int 0, .int 0, .int 0, .int 0, .null])), (q_1, .inl (g_2, 220, .inr (.inl f_84)))] H := hP
  have hD : va_D A [(o, .inr (4, [.null, .null, .null, .int 0, .int 0, .int 0, .int 0, .int 0, .null, .null, .int 0, .int 0, .int 0, .int 0, .int 0, .int 0, .int 0, .int 0, .null])), (q_1, .inl (g_2, 220, .inr (.inl f_84)))] := hD
  refine lv_dup hx hb d_M_init_458 rfl ?_
  refine lv_bipush (v := 82) hx hb d_M_init_459 (by decide) ?_
  refine lv_lconst (v := 0) hx hb d_M_init_461 (by decide) ?_
  refine va_lastG hx hb hK hP hD hS 1 0 rfl rfl (by unfold vp_in; decide) d_M_init_462 (fun f_85 H locs hP hD hS => ?_)
  have hP : va_P (dC, dI) cls [(o, .inr (4, [.null, .null, .null, .int 0, .int 0, .int 0, .int 0, .int 0, .null, .null, .int 0, .int 0, .int 0, .int 0, .int 0, .int 0, .int 0, .int 0, .null])), (q_1, .inl (g_2, 220, .inr (.inl f_85)))] H := hP
  have hD : va_D A [(o, .inr (4, [.null, .null, .null, .int 0, .int 0, .int 0, .int 0, .int 0, .null, .null, .int 0, .int 0, .int 0, .int 0, .int 0, .int 0, .int 0, .int 0, .null])), (q_1, .inl (g_2, 220, .inr (.inl f_85)))] := hD
  refine lv_dup hx hb d_M_init_463 rfl ?_
  refine lv_bipush (v := 83) hx hb d_M_init_464 (by decide) ?_
  refine lv_lconst (v := 0) hx hb d_M_init_466 (by decide) ?_
  refine va_lastG hx hb hK hP hD hS 1 0 rfl rfl (by unfold vp_in; decide) d_M_init_467 (fun f_86 H locs hP hD hS => ?_)
  have hP : va_P (dC, dI) cls [(o, .inr (4, [.null, .null, .null, .int 0, .int 0, .int 0, .int 0, .int 0, .null, .null, .int 0, .int 0, .int 0, .int 0, .int 0, .int 0, .int 0, .int 0, .null])), (q_1, .inl (g_2, 220, .inr (.inl f_86)))] H := hP
  have hD : va_D A [(o, .inr (4, [.null, .null, .null, .int 0, .int 0, .int 0, .int 0, .int 0, .null, .null, .int 0, .int 0, .int 0, .int 0, .int 0, .int 0, .int 0, .int 0, .null])), (q_1, .inl (g_2, 220, .inr (.inl f_86)))] := hD
  refine lv_dup hx hb d_M_init_468 rfl ?_
  refine lv_bipush (v := 84) hx hb d_M_init_469 (by decide) ?_
  refine lv_ldc2 (v := 7020682388476788736) hx hb hown (ht _ k_585) d_M_init_471 ?_
  refine va_lastG hx hb hK hP hD hS 1 0 rfl rfl (by unfold vp_in; decide) d_M_init_474 (fun f_87 H locs hP hD hS => ?_)
  have hP : va_P (dC, dI) cls [(o, .inr (4, [.null, .null, .null, .int 0, .int 0, .int 0, .int 0, .int 0, .null, .null, .int 0, .int 0, .int 0, .int 0, .int 0, .int 0, .int 0, .int 0, .null])), (q_1, .inl (g_2, 220, .inr (.inl f_87)))] H := hP
  have hD : va_D A [(o, .inr (4, [.null, .null, .null, .int 0, .int 0, .int 0, .int 0, .int 0, .null, .null, .int 0, .int 0, .int 0, .int 0, .int 0, .int 0, .int 0, .int 0, .null])), (q_1, .inl (g_2, 220, .inr (.inl f_87)))] := hD
  refine lv_dup hx hb d_M_init_475 rfl ?_
  refine lv_bipush (v := 85) hx hb d_M_init_476 (by decide) ?_
  refine lv_lconst (v := 0) hx hb d_M_init_478 (by decide) ?_
  refine va_lastG hx hb hK hP hD hS 1 0 rfl rfl (by unfold vp_in; decide) d_M_init_479 (fun f_88 H locs hP hD hS => ?_)
  have hP : va_P (dC, dI) cls [(o, .inr (4, [.null, .null, .null, .int 0, .int 0, .int 0, .int 0, .int 0, .null, .null, .int 0, .int 0, .int 0, .int 0, .int 0, .int 0, .int 0, .int 0, .null])), (q_1, .inl (g_2, 220, .inr (.inl f_88)))] H := hP
  have hD : va_D A [(o, .inr (4, [.null, .null, .null, .int 0, .int 0, .int 0, .int 0, .int 0, .null, .null, .int 0, .int 0, .int 0, .int 0, .int 0, .int 0, .int 0, .int 0, .null])), (q_1, .inl (g_2, 220, .inr (.inl f_88)))] := hD
  refine lv_dup hx hb d_M_init_480 rfl ?_
  refine lv_bipush (v := 86) hx hb d_M_init_481 (by decide) ?_
  refine lv_lconst (v := 0) hx hb d_M_init_483 (by decide) ?_
  refine va_lastG hx hb hK hP hD hS 1 0 rfl rfl (by unfold vp_in; decide) d_M_init_484 (fun f_89 H locs hP hD hS => ?_)
  have hP : va_P (dC, dI) cls [(o, .inr (4, [.null, .null, .null, .int 0, .int 0, .int 0, .int 0, .int 0, .null, .null, .int 0, .int 0, .int 0, .int 0, .int 0, .int 0, .int 0, .int 0, .null])), (q_1, .inl (g_2, 220, .inr (.inl f_89)))] H := hP
  have hD : va_D A [(o, .inr (4, [.null, .null, .null, .int 0, .int 0, .int 0, .int 0, .int 0, .null, .null, .int 0, .int 0, .int 0, .int 0, .int 0, .int 0, .int 0, .int 0, .null])), (q_1, .inl (g_2, 220, .inr (.inl f_89)))] := hD
  refine lv_dup hx hb d_M_init_485 rfl ?_
  refine lv_bipush (v := 87) hx hb d_M_init_486 (by decide) ?_
  refine lv_lconst (v := 0) hx hb d_M_init_488 (by decide) ?_
  refine va_lastG hx hb hK hP hD hS 1 0 rfl rfl (by unfold vp_in; decide) d_M_init_489 (fun f_90 H locs hP hD hS => ?_)
  have hP : va_P (dC, dI) cls [(o, .inr (4, [.null, .null, .null, .int 0, .int 0, .int 0, .int 0, .int 0, .null, .null, .int 0, .int 0, .int 0, .int 0, .int 0, .int 0, .int 0, .int 0, .null])), (q_1, .inl (g_2, 220, .inr (.inl f_90)))] H := hP
  have hD : va_D A [(o, .inr (4, [.null, .null, .null, .int 0, .int 0, .int 0, .int 0, .int 0, .null, .null, .int 0, .int 0, .int 0, .int 0, .int 0, .int 0, .int 0, .int 0, .null])), (q_1, .inl (g_2, 220, .inr (.inl f_90)))] := hD
  refine lv_dup hx hb d_M_init_490 rfl ?_
  refine lv_bipush (v := 88) hx hb d_M_init_491 (by decide) ?_
  refine lv_ldc2 (v := 7957706609935777792) hx hb hown (ht _ k_586) d_M_init_493 ?_
  refine va_lastG hx hb hK hP hD hS 1 0 rfl rfl (by unfold vp_in; decide) d_M_init_496 (fun f_91 H locs hP hD hS => ?_)
  have hP : va_P (dC, dI) cls [(o, .inr (4, [.null, .null, .null, .int 0, .int 0, .int 0, .int 0, .int 0, .null, .null, .int 0, .int 0, .int 0, .int 0, .int 0, .int 0, .int 0, .int 0, .null])), (q_1, .inl (g_2, 220, .inr (.inl f_91)))] H := hP
  have hD : va_D A [(o, .inr (4, [.null, .null, .null, .int 0, .int 0, .int 0, .int 0, .int 0, .null, .null, .int 0, .int 0, .int 0, .int 0, .int 0, .int 0, .int 0, .int 0, .null])), (q_1, .inl (g_2, 220, .inr (.inl f_91)))] := hD
  refine lv_dup hx hb d_M_init_497 rfl ?_
  refine lv_bipush (v := 89) hx hb d_M_init_498 (by decide) ?_
  refine lv_lconst (v := 0) hx hb d_M_init_500 (by decide) ?_
  refine va_lastG hx hb hK hP hD hS 1 0 rfl rfl (by unfold vp_in; decide) d_M_init_501 (fun f_92 H locs hP hD hS => ?_)
  have hP : va_P (dC, dI) cls [(o, .inr (4, [.null, .null, .null, .int 0, .int 0, .int 0, .int 0, .int 0, .null, .null, .int 0, .int 0, .int 0, .int 0, .int 0, .int 0, .int 0, .int 0, .null])), (q_1, .inl (g_2, 220, .inr (.inl f_92)))] H := hP
  have hD : va_D A [(o, .inr (4, [.null, .null, .null, .int 0, .int 0, .int 0, .int 0, .int 0, .null, .null, .int 0, .int 0, .int 0, .int 0, .int 0, .int 0, .int 0, .int 0, .null])), (q_1, .inl (g_2, 220, .inr (.inl f_92)))] := hD
  refine lv_dup hx hb d_M_init_502 rfl ?_
  refine lv_bipush (v := 90) hx hb d_M_init_503 (by decide) ?_
  refine lv_lconst (v := 0) hx hb d_M_init_505 (by decide) ?_
  refine va_lastG hx hb hK hP hD hS 1 0 rfl rfl (by unfold vp_in; decide) d_M_init_506 (fun f_93 H locs hP hD hS => ?_)
  have hP : va_P (dC, dI) cls [(o, .inr (4, [.null, .null, .null, .int 0, .int 0, .int 0, .int 0, .int 0, .null, .null, .int 0, .int 0, .int 0, .int 0, .int 0, .int 0, .int 0, .int 0, .null])), (q_1, .inl (g_2, 220, .inr (.inl f_93)))] H := hP
  have hD : va_D A [(o, .inr (4, [.null, .null, .null, .int 0, .int 0, .int 0, .int 0, .int 0, .null, .null, .int 0, .int 0, .int 0, .int 0, .int 0, .int 0, .int 0, .int 0, .null])), (q_1, .inl (g_2, 220, .inr (.inl f_93)))] := hD
  refine lv_dup hx hb d_M_init_507 rfl ?_
  refine lv_bipush (v := 91) hx hb d_M_init_508 (by decide) ?_
  refine lv_lconst (v := 0) hx hb d_M_init_510 (by decide) ?_
  refine va_lastG hx hb hK hP hD hS 1 0 rfl rfl (by unfold vp_in; decide) d_M_init_511 (fun f_94 H locs hP hD hS => ?_)
  have hP : va_P (dC, dI) cls [(o, .inr (4, [.null, .null, .null, .int 0, .int 0, .int 0, .int 0, .int 0, .null, .null, .int 0, .int 0, .int 0, .int 0, .int 0, .int 0, .int 0, .int 0, .null])), (q_1, .inl (g_2, 220, .inr (.inl f_94)))] H := hP
  have hD : va_D A [(o, .inr (4, [.null, .null, .null, .int 0, .int 0, .int 0, .int 0, .int 0, .null, .null, .int 0, .int 0, .int 0, .int 0, .int 0, .int 0, .int 0, .int 0, .null])), (q_1, .inl (g_2, 220, .inr (.inl f_94)))] := hD
  refine lv_dup hx hb d_M_init_512 rfl ?_
  refine lv_bipush (v := 92) hx hb d_M_init_513 (by decide) ?_
  refine lv_ldc2 (v := 8390898132396802048) hx hb hown (ht _ k_587) d_M_init_515 ?_
  refine va_lastG hx hb hK hP hD hS 1 0 rfl rfl (by unfold vp_in; decide) d_M_init_518 (fun f_95 H locs hP hD hS => ?_)
  have hP : va_P (dC, dI) cls [(o, .inr (4, [.null, .null, .null, .int 0, .int 0, .int 0, .int 0, .int 0, .null, .null, .int 0, .int 0, .int 0, .int 0, .int 0, .int 0, .int 0, .int 0, .null])), (q_1, .inl (g_2, 220, .inr (.inl f_95)))] H := hP
  have hD : va_D A [(o, .inr (4, [.null, .null, .null, .int 0, .int 0, .int 0, .int 0, .int 0, .null, .null, .int 0, .int 0, .int 0, .int 0, .int 0, .int 0, .int 0, .int 0, .null])), (q_1, .inl (g_2, 220, .inr (.inl f_95)))] := hD
  refine lv_dup hx hb d_M_init_519 rfl ?_
  refine lv_bipush (v := 93) hx hb d_M_init_520 (by decide) ?_
  refine lv_lconst (v := 0) hx hb d_M_init_522 (by decide) ?_
  refine va_lastG hx hb hK hP hD hS 1 0 rfl rfl (by unfold vp_in; decide) d_M_init_523 (fun f_96 H locs hP hD hS => ?_)
  have hP : va_P (dC, dI) cls [(o, .inr (4, [.null, .null, .null, .int 0, .int 0, .int 0, .int 0, .int 0, .null, .null, .int 0, .int 0, .int 0, .int 0, .int 0, .int 0, .int 0, .int 0, .null])), (q_1, .inl (g_2, 220, .inr (.inl f_96)))] H := hP
  have hD : va_D A [(o, .inr (4, [.null, .null, .null, .int 0, .int 0, .int 0, .int 0, .int 0, .null, .null, .int 0, .int 0, .int 0, .int 0, .int 0, .int 0, .int 0, .int 0, .null])), (q_1, .inl (g_2, 220, .inr (.inl f_96)))] := hD
  refine lv_dup hx hb d_M_init_524 rfl ?_
  refine lv_bipush (v := 94) hx hb d_M_init_525 (by decide) ?_
  refine lv_lconst (v := 0) hx hb d_M_init_527 (by decide) ?_
  refine va_lastG hx hb hK hP hD hS 1 0 rfl rfl (by unfold vp_in; decide) d_M_init_528 (fun f_97 H locs hP hD hS => ?_)
  have hP : va_P (dC, dI) cls [(o, .inr (4, [.null, .null, .null, .int 0, .int 0, .int 0, .int 0, .int 0, .null, .null, .int 0, .int 0, .int 0, .int 0, .int 0, .int 0, .int 0, .int 0, .null])), (q_1, .inl (g_2, 220, .inr (.inl f_97)))] H := hP
  have hD : va_D A [(o, .inr (4, [.null, .null, .null, .int 0, .int 0, .int 0, .int 0, .int 0, .null, .null, .int 0, .int 0, .int 0, .int 0, .int 0, .int 0, .int 0, .int 0, .null])), (q_1, .inl (g_2, 220, .inr (.inl f_97)))] := hD
  refine lv_dup hx hb d_M_init_529 rfl ?_
  refine lv_bipush (v := 95) hx hb d_M_init_530 (by decide) ?_
  refine lv_lconst (v := 0) hx hb d_M_init_532 (by decide) ?_
  refine va_lastG hx hb hK hP hD hS 1 0 rfl rfl (by unfold vp_in; decide) d_M_init_533 (fun f_98 H locs hP hD hS => ?_)
  have hP : va_P (dC, dI) cls [(o, .inr (4, [.null, .null, .null, .int 0, .int 0, .int 0, .int 0, .int 0, .null, .null, .int 0, .int 0, .int 0, .int 0, .int 0, .int 0, .int 0, .int 0, .null])), (q_1, .inl (g_2, 220, .inr (.inl f_98)))] H := hP
  have hD : va_D A [(o, .inr (4, [.null, .null, .null, .int 0, .int 0, .int 0, .int 0, .int 0, .null, .null, .int 0, .int 0, .int 0, .int 0, .int 0, .int 0, .int 0, .int 0, .null])), (q_1, .inl (g_2, 220, .inr (.inl f_98)))] := hD
  refine lv_dup hx hb d_M_init_534 rfl ?_
  refine lv_bipush (v := 96) hx hb d_M_init_535 (by decide) ?_
  refine lv_ldc2 (v := 7377296907481120768) hx hb hown (ht _ k_588) d_M_init_537 ?_
  refine va_lastG hx hb hK hP hD hS 1 0 rfl rfl (by unfold vp_in; decide) d_M_init_540 (fun f_99 H locs hP hD hS => ?_)
  have hP : va_P (dC, dI) cls [(o, .inr (4, [.null, .null, .null, .int 0, .int 0, .int 0, .int 0, .int 0, .null, .null, .int 0, .int 0, .int 0, .int 0, .int 0, .int 0, .int 0, .int 0, .null])), (q_1, .inl (g_2, 220, .inr (.inl f_99)))] H := hP
  have hD : va_D A [(o, .inr (4, [.null, .null, .null, .int 0, .int 0, .int 0, .int 0, .int 0, .null, .null, .int 0, .int 0, .int 0, .int 0, .int 0, .int 0, .int 0, .int 0, .null])), (q_1, .inl (g_2, 220, .inr (.inl f_99)))] := hD
  refine lv_dup hx hb d_M_init_541 rfl ?_
  refine lv_bipush (v := 97) hx hb d_M_init_542 (by decide) ?_
  refine lv_lconst (v := 0) hx hb d_M_init_544 (by decide) ?_
  refine va_lastG hx hb hK hP hD hS 1 0 rfl rfl (by unfold vp_in; decide) d_M_init_545 (fun f_100 H locs hP hD hS => ?_)
  have hP : va_P (dC, dI) cls [(o, .inr (4, [.null, .null, .null, .int 0, .int 0, .int 0, .int 0, .int 0, .null, .null, .int 0, .int 0, .int 0, .int 0, .int 0, .int 0, .int 0, .int 0, .null])), (q_1, .inl (g_2, 220, .inr (.inl f_100)))] H := hP
  have hD : va_D A [(o, .inr (4, [.null, .null, .null, .int 0, .int 0, .int 0, .int 0, .int 0, .null, .null, .int 0, .int 0, .int 0, .int 0, .int 0, .int 0, .int 0, .int 0, .null])), (q_1, .inl (g_2, 220, .inr (.inl f_100)))] := hD
  refine lv_dup hx hb d_M_init_546 rfl ?_
  refine lv_bipush (v := 98) hx hb d_M_init_547 (by decide) ?_
  refine lv_lconst (v := 0) hx hb d_M_init_549 (by decide) ?_
  refine va_lastG hx hb hK hP hD hS 1 0 rfl rfl (by unfold vp_in; decide) d_M_init_550 (fun f_101 H locs hP hD hS => ?_)
  have hP : va_P (dC, dI) cls [(o, .inr (4, [.null, .null, .null, .int 0, .int 0, .int 0, .int 0, .int 0, .null, .null, .int 0, .int 0, .int 0, .int 0, .int 0, .int 0, .int 0, .int 0, .null])), (q_1, .inl (g_2, 220, .inr (.inl f_101)))] H := hP
  have hD : va_D A [(o, .inr (4, [.null, .null, .null, .int 0, .int 0, .int 0, .int 0, .int 0, .null, .null, .int 0, .int 0, .int 0, .int 0, .int 0, .int 0, .int 0, .int 0, .null])), (q_1, .inl (g_2, 220, .inr (.inl f_101)))] := hD
  refine lv_dup hx hb d_M_init_551 rfl ?_
  refine lv_bipush (v := 99) hx hb d_M_init_552 (by decide) ?_
  refine lv_lconst (v := 0) hx hb d_M_init_554 (by decide) ?_
  refine va_lastG hx hb hK hP hD hS 1 0 rfl rfl (by unfold vp_in; decide) d_M_init_555 (fun f_102 H locs hP hD hS => ?_)
  have hP : va_P (dC, dI) cls [(o, .inr (4, [.null, .null, .null, .int 0, .int 0, .int 0, .int 0, .int 0, .null, .null, .int 0, .int 0, .int 0, .int 0, .int 0, .int 0, .int 0, .int 0, .null])), (q_1, .inl (g_2, 220, .inr (.inl f_102)))] H := hP
  have hD : va_D A [(o, .inr (4, [.null, .null, .null, .int 0, .int 0, .int 0, .int 0, .int 0, .null, .null, .int 0, .int 0, .int 0, .int 0, .int 0, .int 0, .int 0, .int 0, .null])), (q_1, .inl (g_2, 220, .inr (.inl f_102)))] := hD
  refine lv_dup hx hb d_M_init_556 rfl ?_
  refine lv_bipush (v := 100) hx hb d_M_init_557 (by decide) ?_
  refine lv_ldc2 (v := 7380380986292305920) hx hb hown (ht _ k_589) d_M_init_559 ?_
  refine va_lastG hx hb hK hP hD hS 1 0 rfl rfl (by unfold vp_in; decide) d_M_init_562 (fun f_103 H locs hP hD hS => ?_)
  have hP : va_P (dC, dI) cls [(o, .inr (4, [.null, .null, .null, .int 0, .int 0, .int 0, .int 0, .int 0, .null, .null, .int 0, .int 0, .int 0, .int 0, .int 0, .int 0, .int 0, .int 0, .null])), (q_1, .inl (g_2, 220, .inr (.inl f_103)))] H := hP
  have hD : va_D A [(o, .inr (4, [.null, .null, .null, .int 0, .int 0, .int 0, .int 0, .int 0, .null, .null, .int 0, .int 0, .int 0, .int 0, .int 0, .int 0, .int 0, .int 0, .null])), (q_1, .inl (g_2, 220, .inr (.inl f_103)))] := hD
  refine lv_dup hx hb d_M_init_563 rfl ?_
  refine lv_bipush (v := 101) hx hb d_M_init_564 (by decide) ?_
  refine lv_lconst (v := 0) hx hb d_M_init_566 (by decide) ?_
  refine va_lastG hx hb hK hP hD hS 1 0 rfl rfl (by unfold vp_in; decide) d_M_init_567 (fun f_104 H locs hP hD hS => ?_)
  have hP : va_P (dC, dI) cls [(o, .inr (4, [.null, .null, .null, .int 0, .int 0, .int 0, .int 0, .int 0, .null, .null, .int 0, .int 0, .int 0, .int 0, .int 0, .int 0, .int 0, .int 0, .null])), (q_1, .inl (g_2, 220, .inr (.inl f_104)))] H := hP
  have hD : va_D A [(o, .inr (4, [.null, .null, .null, .int 0, .int 0, .int 0, .int 0, .int 0, .null, .null, .int 0, .int 0, .int 0, .int 0, .int 0, .int 0, .int 0, .int 0, .null])), (q_1, .inl (g_2, 220, .inr (.inl f_104)))] := hD
  refine lv_dup hx hb d_M_init_568 rfl ?_
  refine lv_bipush (v := 102) hx hb d_M_init_569 (by decide) ?_
  refine lv_lconst (v := 0) hx hb d_M_init_571 (by decide) ?_
  refine va_lastG hx hb hK hP hD hS 1 0 rfl rfl (by unfold vp_in; decide) d_M_init_572 (fun f_105 H locs hP hD hS => ?_)
  have hP : va_P (dC, dI) cls [(o, .inr (4, [.null, .null, .null, .int 0, .int 0, .int 0, .int 0, .int 0, .null, .null, .int 0, .int 0, .int 0, .int 0, .int 0, .int 0, .int 0, .int 0, .null])), (q_1, .inl (g_2, 220, .inr (.inl f_105)))] H := hP
  have hD : va_D A [(o, .inr (4, [.null, .null, .null, .int 0, .int 0, .int 0, .int 0, .int 0, .null, .null, .int 0, .int 0, .int 0, .int 0, .int 0, .int 0, .int 0, .int 0, .null])), (q_1, .inl (g_2, 220, .inr (.inl f_105)))] := hD
  refine lv_dup hx hb d_M_init_573 rfl ?_
  refine lv_bipush (v := 103) hx hb d_M_init_574 (by decide) ?_
  refine lv_lconst (v := 0) hx hb d_M_init_576 (by decide) ?_
  refine va_lastG hx hb hK hP hD hS 1 0 rfl rfl (by unfold vp_in; decide) d_M_init_577 (fun f_106 H locs hP hD hS => ?_)
  have hP : va_P (dC, dI) cls [(o, .inr (4, [.null, .null, .null, .int 0, .int 0, .int 0, .int 0, .int 0, .null, .null, .int 0, .int 0, .int 0, .int 0, .int 0, .int 0, .int 0, .int 0, .null])), (q_1, .inl (g_2, 220, .inr (.inl f_106)))] H := hP
  have hD : va_D A [(o, .inr (4, [.null, .null, .null, .int 0, .int 0, .int 0, .int 0, .int 0, .null, .null, .int 0, .int 0, .int 0, .int 0, .int 0, .int 0, .int 0, .int 0, .null])), (q_1, .inl (g_2, 220, .inr (.inl f_106)))] := hD
  refine lv_dup hx hb d_M_init_578 rfl ?_
  refine lv_bipush (v := 104) hx hb d_M_init_579 (by decide) ?_
  refine lv_ldc2 (v := 7165069197163102208) hx hb hown (ht _ k_590) d_M_init_581 ?_
  refine va_lastG hx hb hK hP hD hS 1 0 rfl rfl (by unfold vp_in; decide) d_M_init_584 (fun f_107 H locs hP hD hS => ?_)
  have hP : va_P (dC, dI) cls [(o, .inr (4, [.null, .null, .null, .int 0, .int 0, .int 0, .int 0, .int 0, .null, .null, .int 0, .int 0, .int 0, .int 0, .int 0, .int 0, .int 0, .int 0, .null])), (q_1, .inl (g_2, 220, .inr (.inl f_107)))] H := hP
  have hD : va_D A [(o, .inr (4, [.null, .null, .null, .int 0, .int 0, .int 0, .int 0, .int 0, .null, .null, .int 0, .int 0, .int 0, .int 0, .int 0, .int 0, .int 0, .int 0, .null])), (q_1, .inl (g_2, 220, .inr (.inl f_107)))] := hD
  refine lv_dup hx hb d_M_init_585 rfl ?_
  refine lv_bipush (v := 105) hx hb d_M_init_586 (by decide) ?_
  refine lv_lconst (v := 0) hx hb d_M_init_588 (by decide) ?_
  refine va_lastG hx hb hK hP hD hS 1 0 rfl rfl (by unfold vp_in; decide) d_M_init_589 (fun f_108 H locs hP hD hS => ?_)
  have hP : va_P (dC, dI) cls [(o, .inr (4, [.null, .null, .null, .int 0, .int 0, .int 0, .int 0, .int 0, .null, .null, .int 0, .int 0, .int 0, .int 0, .int 0, .int 0, .int 0, .int 0, .null])), (q_1, .inl (g_2, 220, .inr (.inl f_108)))] H := hP
  have hD : va_D A [(o, .inr (4, [.null, .null, .null, .int 0, .int 0, .int 0, .int 0, .int 0, .null, .null, .int 0, .int 0, .int 0, .int 0, .int 0, .int 0, .int 0, .int 0, .null])), (q_1, .inl (g_2, 220, .inr (.inl f_108)))] := hD
  refine lv_dup hx hb d_M_init_590 rfl ?_
  refine lv_bipush (v := 106) hx hb d_M_init_591 (by decide) ?_
  refine lv_lconst (v := 0) hx hb d_M_init_593 (by decide) ?_
  refine va_lastG hx hb hK hP hD hS 1 0 rfl rfl (by unfold vp_in; decide) d_M_init_594 (fun f_109 H locs hP hD hS => ?_)
  have hP : va_P (dC, dI) cls [(o, .inr (4, [.null, .null, .null, .int 0, .int 0, .int 0, .int 0, .int 0, .null, .null, .int 0, .int 0, .int 0, .int 0, .int 0, .int 0, .int 0, .int 0, .null])), (q_1, .inl (g_2, 220, .inr (.inl f_109)))] H := hP
  have hD : va_D A [(o, .inr (4, [.null, .null, .null, .int 0, .int 0, .int 0, .int 0, .int 0, .null, .null, .int 0, .int 0, .int 0, .int 0, .int 0, .int 0, .int 0, .int 0, .null])), (q_1, .inl (g_2, 220, .inr (.inl f_109)))] := hD
  refine lv_dup hx hb d_M_init_595 rfl ?_
  refine lv_bipush (v := 107) hx hb d_M_init_596 (by decide) ?_
  refine lv_lconst (v := 0) hx hb d_M_init_598 (by decide) ?_
  refine va_lastG hx hb hK hP hD hS 1 0 rfl rfl (by unfold vp_in; decide) d_M_init_599 (fun f_110 H locs hP hD hS => ?_)
  have hP : va_P (dC, dI) cls [(o, .inr (4, [.null, .null, .null, .int 0, .int 0, .int 0, .int 0, .int 0, .null, .null, .int 0, .int 0, .int 0, .int 0, .int 0, .int 0, .int 0, .int 0, .null])), (q_1, .inl (g_2, 220, .inr (.inl f_110)))] H := hP
  have hD : va_D A [(o, .inr (4, [.null, .null, .null, .int 0, .int 0, .int 0, .int 0, .int 0, .null, .null, .int 0, .int 0, .int 0, .int 0, .int 0, .int 0, .int 0, .int 0, .null])), (q_1, .inl (g_2, 220, .inr (.inl f_110)))] := hD
  refine lv_dup hx hb d_M_init_600 rfl ?_
  refine lv_bipush (v := 108) hx hb d_M_init_601 (by decide) ?_
  refine lv_ldc2 (v := 7233196011361927168) hx hb hown (ht _ k_591) d_M_init_603 ?_
  refine va_lastG hx hb hK hP hD hS 1 0 rfl rfl (by unfold vp_in; decide) d_M_init_606 (fun f_111 H locs hP hD hS => ?_)
  have hP : va_P (dC, dI) cls [(o, .inr (4, [.null, .null, .null, .int 0, .int 0, .int 0, .int 0, .int 0, .null, .null, .int 0, .int 0, .int 0, .int 0, .int 0, .int 0, .int 0, .int 0, .null])), (q_1, .inl (g_2, 220, .inr (.inl f_111)))] H := hP
  have hD : va_D A [(o, .inr (4, [.null, .null, .null, .int 0, .int 0, .int 0, .int 0, .int 0, .null, .null, .int 0, .int 0, .int 0, .int 0, .int 0, .int 0, .int 0, .int 0, .null])), (q_1, .inl (g_2, 220, .inr (.inl f_111)))] := hD
  refine lv_dup hx hb d_M_init_607 rfl ?_
  refine lv_bipush (v := 109) hx hb d_M_init_608 (by decide) ?_
  refine lv_lconst (v := 0) hx hb d_M_init_610 (by decide) ?_
  refine va_lastG hx hb hK hP hD hS 1 0 rfl rfl (by unfold vp_in; decide) d_M_init_611 (fun f_112 H locs hP hD hS => ?_)
  have hP : va_P (dC, dI) cls [(o, .inr (4, [.null, .null, .null, .int 0, .int 0, .int 0, .int 0, .int 0, .null, .null, .int 0, .int 0, .int 0, .int 0, .int 0, .int 0, .int 0, .int 0, .null])), (q_1, .inl (g_2, 220, .inr (.inl f_112)))] H := hP
  have hD : va_D A [(o, .inr (4, [.null, .null, .null, .int 0, .int 0, .int 0, .int 0, .int 0, .null, .null, .int 0, .int 0, .int 0, .int 0, .int 0, .int 0, .int 0, .int 0, .null])), (q_1, .inl (g_2, 220, .inr (.inl f_112)))] := hD
  refine lv_dup hx hb d_M_init_612 rfl ?_
  refine lv_bipush (v := 110) hx hb d_M_init_613 (by decide) ?_
  refine lv_lconst (v := 0) hx hb d_M_init_615 (by decide) ?_
  refine va_lastG hx hb hK hP hD hS 1 0 rfl rfl (by unfold vp_in; decide) d_M_init_616 (fun f_113 H locs hP hD hS => ?_)
  have hP : va_P (dC, dI) cls [(o, .inr (4, [.null, .null, .null, .int 0, .int 0, .int 0, .int 0, .int 0, .null, .null, .int 0, .int 0, .int 0, .int 0, .int 0, .int 0, .int 0, .int 0, .null])), (q_1, .inl (g_2, 220, .inr (.inl f_113)))] H := hP
  have hD : va_D A [(o, .inr (4, [.null, .null, .null, .int 0, .int 0, .int 0, .int 0, .int 0, .null, .null, .int 0, .int 0, .int 0, .int 0, .int 0, .int 0, .int 0, .int 0, .null])), (q_1, .inl (g_2, 220, .inr (.inl f_113)))] := hD
  refine lv_dup hx hb d_M_init_617 rfl ?_
  refine lv_bipush (v := 111) hx hb d_M_init_618 (by decide) ?_
  refine lv_lconst (v := 0) hx hb d_M_init_620 (by decide) ?_
  refine va_lastG hx hb hK hP hD hS 1 0 rfl rfl (by unfold vp_in; decide) d_M_init_621 (fun f_114 H locs hP hD hS => ?_)
  have hP : va_P (dC, dI) cls [(o, .inr (4, [.null, .null, .null, .int 0, .int 0, .int 0, .int 0, .int 0, .null, .null, .int 0, .int 0, .int 0, .int 0, .int 0, .int 0, .int 0, .int 0, .null])), (q_1, .inl (g_2, 220, .inr (.inl f_114)))] H := hP
  have hD : va_D A [(o, .inr (4, [.null, .null, .null, .int 0, .int 0, .int 0, .int 0, .int 0, .null, .null, .int 0, .int 0, .int 0, .int 0, .int 0, .int 0, .int 0, .int 0, .null])), (q_1, .inl (g_2, 220, .inr (.inl f_114)))] := hD
  refine lv_dup hx hb d_M_init_622 rfl ?_
  refine lv_bipush (v := 112) hx hb d_M_init_623 (by decide) ?_
  refine lv_ldc2 (v := 8319664095743931392) hx hb hown (ht _ k_592) d_M_init_625 ?_
  refine va_lastG hx hb hK hP hD hS 1 0 rfl rfl (by unfold vp_in; decide) d_M_init_628 (fun f_115 H locs hP hD hS => ?_)
  have hP : va_P (dC, dI) cls [(o, .inr (4, [.null, .null, .null, .int 0, .int 0, .int 0, .int 0, .int 0, .null, .null, .int 0, .int 0, .int 0, .int 0, .int 0, .int 0, .int 0, .int 0, .null])), (q_1, .inl (g_2, 220, .inr (.inl f_115)))] H := hP
  have hD : va_D A [(o, .inr (4, [.null, .null, .null, .int 0, .int 0, .int 0, .int 0, .int 0, .null, .null, .int 0, .int 0, .int 0, .int 0, .int 0, .int 0, .int 0, .int 0, .null])), (q_1, .inl (g_2, 220, .inr (.inl f_115)))] := hD
  refine lv_dup hx hb d_M_init_629 rfl ?_
  refine lv_bipush (v := 113) hx hb d_M_init_630 (by decide) ?_
  refine lv_lconst (v := 0) hx hb d_M_init_632 (by decide) ?_
  refine va_lastG hx hb hK hP hD hS 1 0 rfl rfl (by unfold vp_in; decide) d_M_init_633 (fun f_116 H locs hP hD hS => ?_)
  have hP : va_P (dC, dI) cls [(o, .inr (4, [.null, .null, .null, .int 0, .int 0, .int 0, .int 0, .int 0, .null, .null, .int 0, .int 0, .int 0, .int 0, .int 0, .int 0, .int 0, .int 0, .null])), (q_1, .inl (g_2, 220, .inr (.inl f_116)))] H := hP
  have hD : va_D A [(o, .inr (4, [.null, .null, .null, .int 0, .int 0, .int 0, .int 0, .int 0, .null, .null, .int 0, .int 0, .int 0, .int 0, .int 0, .int 0, .int 0, .int 0, .null])), (q_1, .inl (g_2, 220, .inr (.inl f_116)))] := hD
  refine lv_dup hx hb d_M_init_634 rfl ?_
  refine lv_bipush (v := 114) hx hb d_M_init_635 (by decide) ?_
  refine lv_lconst (v := 0) hx hb d_M_init_637 (by decide) ?_
  refine va_lastG hx hb hK hP hD hS 1 0 rfl rfl (by unfold vp_in; decide) d_M_init_638 (fun f_117 H locs hP hD hS => ?_)
  have hP : va_P (dC, dI) cls [(o, .inr (4, [.null, .null, .null, .int 0, .int 0, .int 0, .int 0, .int 0, .null, .null, .int 0, .int 0, .int 0, .int 0, .int 0, .int 0, .int 0, .int 0, .null])), (q_1, .inl (g_2, 220, .inr (.inl f_117)))] H := hP
  have hD : va_D A [(o, .inr (4, [.null, .null, .null, .int 0, .int 0, .int 0, .int 0, .int 0, .null, .null, .int 0, .int 0, .int 0, .int 0, .int 0, .int 0, .int 0, .int 0, .null])), (q_1, .inl (g_2, 220, .inr (.inl f_117)))] := hD
  refine lv_dup hx hb d_M_init_639 rfl ?_
  refine lv_bipush (v := 115) hx hb d_M_init_640 (by decide) ?_
  refine lv_lconst (v := 0) hx hb d_M_init_642 (by decide) ?_
  refine va_lastG hx hb hK hP hD hS 1 0 rfl rfl (by unfold vp_in; decide) d_M_init_643 (fun f_118 H locs hP hD hS => ?_)
  have hP : va_P (dC, dI) cls [(o, .inr (4, [.null, .null, .null, .int 0, .int 0, .int 0, .int 0, .int 0, .null, .null, .int 0, .int 0, .int 0, .int 0, .int 0, .int 0, .int 0, .int 0, .null])), (q_1, .inl (g_2, 220, .inr (.inl f_118)))] H := hP
  have hD : va_D A [(o, .inr (4, [.null, .null, .null, .int 0, .int 0, .int 0, .int 0, .int 0, .null, .null, .int 0, .int 0, .int 0, .int 0, .int 0, .int 0, .int 0, .int 0, .null])), (q_1, .inl (g_2, 220, .inr (.inl f_118)))] := hD
  refine lv_dup hx hb d_M_init_644 rfl ?_
  refine lv_bipush (v := 116) hx hb d_M_init_645 (by decide) ?_
  refine lv_ldc2 (v := 7017844561841189733) hx hb hown (ht _ k_593) d_M_init_647 ?_
  refine va_lastG hx hb hK hP hD hS 1 0 rfl rfl (by unfold vp_in; decide) d_M_init_650 (fun f_119 H locs hP hD hS => ?_)
  have hP : va_P (dC, dI) cls [(o, .inr (4, [.null, .null, .null, .int 0, .int 0, .int 0, .int 0, .int 0, .null, .null, .int 0, .int 0, .int 0, .int 0, .int 0, .int 0, .int 0, .int 0, .null])), (q_1, .inl (g_2, 220, .inr (.inl f_119)))] H := hP
  have hD : va_D A [(o, .inr (4, [.null, .null, .null, .int 0, .int 0, .int 0, .int 0, .int 0, .null, .null, .int 0, .int 0, .int 0, .int 0, .int 0, .int 0, .int 0, .int 0, .null])), (q_1, .inl (g_2, 220, .inr (.inl f_119)))] := hD
  refine lv_dup hx hb d_M_init_651 rfl ?_
  refine lv_bipush (v := 117) hx hb d_M_init_652 (by decide) ?_
  refine lv_ldc2 (v := 8286623314361712640) hx hb hown (ht _ k_594) d_M_init_654 ?_
  refine va_lastG hx hb hK hP hD hS 1 0 rfl rfl (by unfold vp_in; decide) d_M_init_657 (fun f_120 H locs hP hD hS => ?_)
  have hP : va_P (dC, dI) cls [(o, .inr (4, [.null, .null, .null, .int 0, .int 0, .int 0, .int 0, .int 0, .null, .null, .int 0, .int 0, .int 0, .int 0, .int 0, .int 0, .int 0, .int 0, .null])), (q_1, .inl (g_2, 220, .inr (.inl f_120)))] H := hP
  have hD : va_D A [(o, .inr (4, [.null, .null, .null, .int 0, .int 0, .int 0, .int 0, .int 0, .null, .null, .int 0, .int 0, .int 0, .int 0, .int 0, .int 0, .int 0, .int 0, .null])), (q_1, .inl (g_2, 220, .inr (.inl f_120)))] := hD
  refine lv_dup hx hb d_M_init_658 rfl ?_
  refine lv_bipush (v := 118) hx hb d_M_init_659 (by decide) ?_
  refine lv_lconst (v := 0) hx hb d_M_init_661 (by decide) ?_
  refine va_lastG hx hb hK hP hD hS 1 0 rfl rfl (by unfold vp_in; decide) d_M_init_662 (fun f_121 H locs hP hD hS => ?_)
  have hP : va_P (dC, dI) cls [(o, .inr (4, [.null, .null, .null, .int 0, .int 0, .int 0, .int 0, .int 0, .null, .null, .int 0, .int 0, .int 0, .int 0, .int 0, .int 0, .int 0, .int 0, .null])), (q_1, .inl (g_2, 220, .inr (.inl f_121)))] H := hP
  have hD : va_D A [(o, .inr (4, [.null, .null, .null, .int 0, .int 0, .int 0, .int 0, .int 0, .null, .null, .int 0, .int 0, .int 0, .int 0, .int 0, .int 0, .int 0, .int 0, .null])), (q_1, .inl (g_2, 220, .inr (.inl f_121)))] := hD
  refine lv_dup hx hb d_M_init_663 rfl ?_
  refine lv_bipush (v := 119) hx hb d_M_init_664 (by decide) ?_
  refine lv_lconst (v := 0) hx hb d_M_init_666 (by decide) ?_
  refine va_lastG hx hb hK hP hD hS 1 0 rfl rfl (by unfold vp_in; decide) d_M_init_667 (fun f_122 H locs hP hD hS => ?_)
  have hP : va_P (dC, dI) cls [(o, .inr (4, [.null, .null, .null, .int 0, .int 0, .int 0, .int 0, .int 0, .null, .null, .int 0, .int 0, .int 0, .int 0, .int 0, .int 0, .int 0, .int 0, .null])), (q_1, .inl (g_2, 220, .inr (.inl f_122)))] H := hP
  have hD : va_D A [(o, .inr (4, [.null, .null, .null, .int 0, .int 0, .int 0, .int 0, .int 0, .null, .null, .int 0, .int 0, .int 0, .int 0, .int 0, .int 0, .int 0, .int 0, .null])), (q_1, .inl (g_2, 220, .inr (.inl f_122)))] := hD
  refine lv_dup hx hb d_M_init_668 rfl ?_
  refine lv_bipush (v := 120) hx hb d_M_init_669 (by decide) ?_
  refine lv_ldc2 (v := 7521414230279782400) hx hb hown (ht _ k_595) d_M_init_671 ?_
  refine va_lastG hx hb hK hP hD hS 1 0 rfl rfl (by unfold vp_in; decide) d_M_init_674 (fun f_123 H locs hP hD hS => ?_)
  have hP : va_P (dC, dI) cls [(o, .inr (4, [.null, .null, .null, .int 0, .int 0, .int 0, .int 0, .int 0, .null, .null, .int 0, .int 0, .int 0, .int 0, .int 0, .int 0, .int 0, .int 0, .null])), (q_1, .inl (g_2, 220, .inr (.inl f_123)))] H := hP
  have hD : va_D A [(o, .inr (4, [.null, .null, .null, .int 0, .int 0, .int 0, .int 0, .int 0, .null, .null, .int 0, .int 0, .int 0, .int 0, .int 0, .int 0, .int 0, .int 0, .null])), (q_1, .inl (g_2, 220, .inr (.inl f_123)))] := hD
  refine lv_dup hx hb d_M_init_675 rfl ?_
  refine lv_bipush (v := 121) hx hb d_M_init_676 (by decide) ?_
  refine lv_lconst (v := 0) hx hb d_M_init_678 (by decide) ?_
  refine va_lastG hx hb hK hP hD hS 1 0 rfl rfl (by unfold vp_in; decide) d_M_init_679 (fun f_124 H locs hP hD hS => ?_)
  have hP : va_P (dC, dI) cls [(o, .inr (4, [.null, .null, .null, .int 0, .int 0, .int 0, .int 0, .int 0, .null, .null, .int 0, .int 0, .int 0, .int 0, .int 0, .int 0, .int 0, .int 0, .null])), (q_1, .inl (g_2, 220, .inr (.inl f_124)))] H := hP
  have hD : va_D A [(o, .inr (4, [.null, .null, .null, .int 0, .int 0, .int 0, .int 0, .int 0, .null, .null, .int 0, .int 0, .int 0, .int 0, .int 0, .int 0, .int 0, .int 0, .null])), (q_1, .inl (g_2, 220, .inr (.inl f_124)))] := hD
  refine lv_dup hx hb d_M_init_680 rfl ?_
  refine lv_bipush (v := 122) hx hb d_M_init_681 (by decide) ?_
  refine lv_lconst (v := 0) hx hb d_M_init_683 (by decide) ?_
  refine va_lastG hx hb hK hP hD hS 1 0 rfl rfl (by unfold vp_in; decide) d_M_init_684 (fun f_125 H locs hP hD hS => ?_)
  have hP : va_P (dC, dI) cls [(o, .inr (4, [.null, .null, .null, .int 0, .int 0, .int 0, .int 0, .int 0, .null, .null, .int 0, .int 0, .int 0, .int 0, .int 0, .int 0, .int 0, .int 0, .null])), (q_1, .inl (g_2, 220, .inr (.inl f_125)))] H := hP
  have hD : va_D A [(o, .inr (4, [.null, .null, .null, .int 0, .int 0, .int 0, .int 0, .int 0, .null, .null, .int 0, .int 0, .int 0, .int 0, .int 0, .int 0, .int 0, .int 0, .null])), (q_1, .inl (g_2, 220, .inr (.inl f_125)))] := hD
  refine lv_dup hx hb d_M_init_685 rfl ?_
  refine lv_bipush (v := 123) hx hb d_M_init_686 (by decide) ?_
  refine lv_lconst (v := 0) hx hb d_M_init_688 (by decide) ?_
  refine va_lastG hx hb hK hP hD hS 1 0 rfl rfl (by unfold vp_in; decide) d_M_init_689 (fun f_126 H locs hP hD hS => ?_)
  have hP : va_P (dC, dI) cls [(o, .inr (4, [.null, .null, .null, .int 0, .int 0, .int 0, .int 0, .int 0, .null, .null, .int 0, .int 0, .int 0, .int 0, .int 0, .int 0, .int 0, .int 0, .null])), (q_1, .inl (g_2, 220, .inr (.inl f_126)))] H := hP
  have hD : va_D A [(o, .inr (4, [.null, .null, .null, .int 0, .int 0, .int 0, .int 0, .int 0, .null, .null, .int 0, .int 0, .int 0, .int 0, .int 0, .int 0, .int 0, .int 0, .null])), (q_1, .inl (g_2, 220, .inr (.inl f_126)))] := hD
  refine lv_dup hx hb d_M_init_690 rfl ?_
  refine lv_bipush (v := 124) hx hb d_M_init_691 (by decide) ?_
  refine lv_ldc2 (v := 8031718525762535424) hx hb hown (ht _ k_596) d_M_init_693 ?_
  refine va_lastG hx hb hK hP hD hS 1 0 rfl rfl (by unfold vp_in; decide) d_M_init_696 (fun f_127 H locs hP hD hS => ?_)
  have hP : va_P (dC, dI) cls [(o, .inr (4, [.null, .null, .null, .int 0, .int 0, .int 0, .int 0, .int 0, .null, .null, .int 0, .int 0, .int 0, .int 0, .int 0, .int 0, .int 0, .int 0, .null])), (q_1, .inl (g_2, 220, .inr (.inl f_127)))] H := hP
  have hD : va_D A [(o, .inr (4, [.null, .null, .null, .int 0, .int 0, .int 0, .int 0, .int 0, .null, .null, .int 0, .int 0, .int 0, .int 0, .int 0, .int 0, .int 0, .int 0, .null])), (q_1, .inl (g_2, 220, .inr (.inl f_127)))] := hD
  refine lv_dup hx hb d_M_init_697 rfl ?_
  refine lv_bipush (v := 125) hx hb d_M_init_698 (by decide) ?_
  refine lv_lconst (v := 0) hx hb d_M_init_700 (by decide) ?_
  refine va_lastG hx hb hK hP hD hS 1 0 rfl rfl (by unfold vp_in; decide) d_M_init_701 (fun f_128 H locs hP hD hS => ?_)
  have hP : va_P (dC, dI) cls [(o, .inr (4, [.null, .null, .null, .int 0, .int 0, .int 0, .int 0, .int 0, .null, .null, .int 0, .int 0, .int 0, .int 0, .int 0, .int 0, .int 0, .int 0, .null])), (q_1, .inl (g_2, 220, .inr (.inl f_128)))] H := hP
  have hD : va_D A [(o, .inr (4, [.null, .null, .null, .int 0, .int 0, .int 0, .int 0, .int 0, .null, .null, .int 0, .int 0, .int 0, .int 0, .int 0, .int 0, .int 0, .int 0, .null])), (q_1, .inl (g_2, 220, .inr (.inl f_128)))] := hD
  refine lv_dup hx hb d_M_init_702 rfl ?_
  refine lv_bipush (v := 126) hx hb d_M_init_703 (by decide) ?_
  refine lv_lconst (v := 0) hx hb d_M_init_705 (by decide) ?_
  refine va_lastG hx hb hK hP hD hS 1 0 rfl rfl (by unfold vp_in; decide) d_M_init_706 (fun f_129 H locs hP hD hS => ?_)
  have hP : va_P (dC, dI) cls [(o, .inr (4, [.null, .null, .null, .int 0, .int 0, .int 0, .int 0, .int 0, .null, .null, .int 0, .int 0, .int 0, .int 0, .int 0, .int 0, .int 0, .int 0, .null])), (q_1, .inl (g_2, 220, .inr (.inl f_129)))] H := hP
  have hD : va_D A [(o, .inr (4, [.null, .null, .null, .int 0, .int 0, .int 0, .int 0, .int 0, .null, .null, .int 0, .int 0, .int 0, .int 0, .int 0, .int 0, .int 0, .int 0, .null])), (q_1, .inl (g_2, 220, .inr (.inl f_129)))] := hD
  refine lv_dup hx hb d_M_init_707 rfl ?_
  refine lv_bipush (v := 127) hx hb d_M_init_708 (by decide) ?_
  refine lv_lconst (v := 0) hx hb d_M_init_710 (by decide) ?_
  refine va_lastG hx hb hK hP hD hS 1 0 rfl rfl (by unfold vp_in; decide) d_M_init_711 (fun f_130 H locs hP hD hS => ?_)
  have hP : va_P (dC, dI) cls [(o, .inr (4, [.null, .null, .null, .int 0, .int 0, .int 0, .int 0, .int 0, .null, .null, .int 0, .int 0, .int 0, .int 0, .int 0, .int 0, .int 0, .int 0, .null])), (q_1, .inl (g_2, 220, .inr (.inl f_130)))] H := hP
  have hD : va_D A [(o, .inr (4, [.null, .null, .null, .int 0, .int 0, .int 0, .int 0, .int 0, .null, .null, .int 0, .int 0, .int 0, .int 0, .int 0, .int 0, .int 0, .int 0, .null])), (q_1, .inl (g_2, 220, .inr (.inl f_130)))] := hD
  refine lv_dup hx hb d_M_init_712 rfl ?_
  refine lv_sipush (v := 128) hx hb d_M_init_713 (by decide) ?_
  refine lv_ldc2 (v := 8461811136742817792) hx hb hown (ht _ k_597) d_M_init_716 ?_
  refine va_lastG hx hb hK hP hD hS 1 0 rfl rfl (by unfold vp_in; decide) d_M_init_719 (fun f_131 H locs hP hD hS => ?_)
  have hP : va_P (dC, dI) cls [(o, .inr (4, [.null, .null, .null, .int 0, .int 0, .int 0, .int 0, .int 0, .null, .null, .int 0, .int 0, .int 0, .int 0, .int 0, .int 0, .int 0, .int 0, .null])), (q_1, .inl (g_2, 220, .inr (.inl f_131)))] H := hP
  have hD : va_D A [(o, .inr (4, [.null, .null, .null, .int 0, .int 0, .int 0, .int 0, .int 0, .null, .null, .int 0, .int 0, .int 0, .int 0, .int 0, .int 0, .int 0, .int 0, .null])), (q_1, .inl (g_2, 220, .inr (.inl f_131)))] := hD
  refine lv_dup hx hb d_M_init_720 rfl ?_
  refine lv_sipush (v := 129) hx hb d_M_init_721 (by decide) ?_
  refine lv_lconst (v := 0) hx hb d_M_init_724 (by decide) ?_
  refine va_lastG hx hb hK hP hD hS 1 0 rfl rfl (by unfold vp_in; decide) d_M_init_725 (fun f_132 H locs hP hD hS => ?_)
  have hP : va_P (dC, dI) cls [(o, .inr (4, [.null, .null, .null, .int 0, .int 0, .int 0, .int 0, .int 0, .null, .null, .int 0, .int 0, .int 0, .int 0, .int 0, .int 0, .int 0, .int 0, .null])), (q_1, .inl (g_2, 220, .inr (.inl f_132)))] H := hP
  have hD : va_D A [(o, .inr (4, [.null, .null, .null, .int 0, .int 0, .int 0, .int 0, .int 0, .null, .null, .int 0, .int 0, .int 0, .int 0, .int 0, .int 0, .int 0, .int 0, .null])), (q_1, .inl (g_2, 220, .inr (.inl f_132)))] := hD
  refine lv_dup hx hb d_M_init_726 rfl ?_
  refine lv_sipush (v := 130) hx hb d_M_init_727 (by decide) ?_
  refine lv_lconst (v := 0) hx hb d_M_init_730 (by decide) ?_
  refine va_lastG hx hb hK hP hD hS 1 0 rfl rfl (by unfold vp_in; decide) d_M_init_731 (fun f_133 H locs hP hD hS => ?_)
  have hP : va_P (dC, dI) cls [(o, .inr (4, [.null, .null, .null, .int 0, .int 0, .int 0, .int 0, .int 0, .null, .null, .int 0, .int 0, .int 0, .int 0, .int 0, .int 0, .int 0, .int 0, .null])), (q_1, .inl (g_2, 220, .inr (.inl f_133)))] H := hP
  have hD : va_D A [(o, .inr (4, [.null, .null, .null, .int 0, .int 0, .int 0, .int 0, .int 0, .null, .null, .int 0, .int 0, .int 0, .int 0, .int 0, .int 0, .int 0, .int 0, .null])), (q_1, .inl (g_2, 220, .inr (.inl f_133)))] := hD
  refine lv_dup hx hb d_M_init_732 rfl ?_
  refine lv_sipush (v := 131) hx hb d_M_init_733 (by decide) ?_
  refine lv_lconst (v := 0) hx hb d_M_init_736 (by decide) ?_
  refine va_lastG hx hb hK hP hD hS 1 0 rfl rfl (by unfold vp_in; decide) d_M_init_737 (fun f_134 H locs hP hD hS => ?_)
  have hP : va_P (dC, dI) cls [(o, .inr (4, [.null, .null, .null, .int 0, .int 0, .int 0, .int 0, .int 0, .null, .null, .int 0, .int 0, .int 0, .int 0, .int 0, .int 0, .int 0, .int 0, .null])), (q_1, .inl (g_2, 220, .inr (.inl f_134)))] H := hP
  have hD : va_D A [(o, .inr (4, [.null, .null, .null, .int 0, .int 0, .int 0, .int 0, .int 0, .null, .null, .int 0, .int 0, .int 0, .int 0, .int 0, .int 0, .int 0, .int 0, .null])), (q_1, .inl (g_2, 220, .inr (.inl f_134)))] := hD
  refine lv_dup hx hb d_M_init_738 rfl ?_
  refine lv_sipush (v := 132) hx hb d_M_init_739 (by decide) ?_
  refine lv_ldc2 (v := 7598416996304158720) hx hb hown (ht _ k_598) d_M_init_742 ?_
  refine va_lastG hx hb hK hP hD hS 1 0 rfl rfl (by unfold vp_in; decide) d_M_init_745 (fun f_135 H locs hP hD hS => ?_)
  have hP : va_P (dC, dI) cls [(o, .inr (4, [.null, .null, .null, .int 0, .int 0, .int 0, .int 0, .int 0, .null, .null, .int 0, .int 0, .int 0, .int 0, .int 0, .int 0, .int 0, .int 0, .null])), (q_1, .inl (g_2, 220, .inr (.inl f_135)))] H := hP
  have hD : va_D A [(o, .inr (4, [.null, .null, .null, .int 0, .int 0, .int 0, .int 0, .int 0, .null, .null, .int 0, .int 0, .int 0, .int 0, .int 0, .int 0, .int 0, .int 0, .null])), (q_1, .inl (g_2, 220, .inr (.inl f_135)))] := hD
  refine lv_dup hx hb d_M_init_746 rfl ?_
  refine lv_sipush (v := 133) hx hb d_M_init_747 (by decide) ?_
  refine lv_lconst (v := 0) hx hb d_M_init_750 (by decide) ?_
  refine va_lastG hx hb hK hP hD hS 1 0 rfl rfl (by unfold vp_in; decide) d_M_init_751 (fun f_136 H locs hP hD hS => ?_)
  have hP : va_P (dC, dI) cls [(o, .inr (4, [.null, .null, .null, .int 0, .int 0, .int 0, .int 0, .int 0, .null, .null, .int 0, .int 0, .int 0, .int 0, .int 0, .int 0, .int 0, .int 0, .null])), (q_1, .inl (g_2, 220, .inr (.inl f_136)))] H := hP
  have hD : va_D A [(o, .inr (4, [.null, .null, .null, .int 0, .int 0, .int 0, .int 0, .int 0, .null, .null, .int 0, .int 0, .int 0, .int 0, .int 0, .int 0, .int 0, .int 0, .null])), (q_1, .inl (g_2, 220, .inr (.inl f_136)))] := hD
  refine lv_dup hx hb d_M_init_752 rfl ?_
  refine lv_sipush (v := 134) hx hb d_M_init_753 (by decide) ?_
  refine lv_lconst (v := 0) hx hb d_M_init_756 (by decide) ?_
  refine va_lastG hx hb hK hP hD hS 1 0 rfl rfl (by unfold vp_in; decide) d_M_init_757 (fun f_137 H locs hP hD hS => ?_)
  have hP : va_P (dC, dI) cls [(o, .inr (4, [.null, .null, .null, .int 0, .int 0, .int 0, .int 0, .int 0, .null, .null, .int 0, .int 0, .int 0, .int 0, .int 0, .int 0, .int 0, .int 0, .null])), (q_1, .inl (g_2, 220, .inr (.inl f_137)))] H := hP
  have hD : va_D A [(o, .inr (4, [.null, .null, .null, .int 0, .int 0, .int 0, .int 0, .int 0, .null, .null, .int 0, .int 0, .int 0, .int 0, .int 0, .int 0, .int 0, .int 0, .null])), (q_1, .inl (g_2, 220, .inr (.inl f_137)))] := hD
  refine lv_dup hx hb d_M_init_758 rfl ?_
  refine lv_sipush (v := 135) hx hb d_M_init_759 (by decide) ?_
  refine lv_lconst (v := 0) hx hb d_M_init_762 (by decide) ?_
  refine va_lastG hx hb hK hP hD hS 1 0 rfl rfl (by unfold vp_in; decide) d_M_init_763 (fun f_138 H locs hP hD hS => ?_)
  have hP : va_P (dC, dI) cls [(o, .inr (4, [.null, .null, .null, .int 0, .int 0, .int 0, .int 0, .int 0, .null, .null, .int 0, .int 0, .int 0, .int 0, .int 0, .int 0, .int 0, .int 0, .null])), (q_1, .inl (g_2, 220, .inr (.inl f_138)))] H := hP
  have hD : va_D A [(o, .inr (4, [.null, .null, .null, .int 0, .int 0, .int 0, .int 0, .int 0, .null, .null, .int 0, .int 0, .int 0, .int 0, .int 0, .int 0, .int 0, .int 0, .null])), (q_1, .inl (g_2, 220, .inr (.inl f_138)))] := hD
  refine lv_dup hx hb d_M_init_764 rfl ?_
  refine lv_sipush (v := 136) hx hb d_M_init_765 (by decide) ?_
  refine lv_ldc2 (v := 7165066978299309683) hx hb hown (ht _ k_599) d_M_init_768 ?_
  refine va_lastG hx hb hK hP hD hS 1 0 rfl rfl (by unfold vp_in; decide) d_M_init_771 (fun f_139 H locs hP hD hS => ?_)
  have hP : va_P (dC, dI) cls [(o, .inr (4, [.null, .null, .null, .int 0, .int 0, .int 0, .int 0, .int 0, .null, .null, .int 0, .int 0, .int 0, .int 0, .int 0, .int 0, .int 0, .int 0, .null])), (q_1, .inl (g_2, 220, .inr (.inl f_139)))] H := hP
  have hD : va_D A [(o, .inr (4, [.null, .null, .null, .int 0, .int 0, .int 0, .int 0, .int 0, .null, .null, .int 0, .int 0, .int 0, .int 0, .int 0, .int 0, .int 0, .int 0, .null])), (q_1, .inl (g_2, 220, .inr (.inl f_139)))] := hD
  refine lv_dup hx hb d_M_init_772 rfl ?_
  refine lv_sipush (v := 137) hx hb d_M_init_773 (by decide) ?_
  refine lv_lconst (v := 0) hx hb d_M_init_776 (by decide) ?_
  refine va_lastG hx hb hK hP hD hS 1 0 rfl rfl (by unfold vp_in; decide) d_M_init_777 (fun f_140 H locs hP hD hS => ?_)
  have hP : va_P (dC, dI) cls [(o, .inr (4, [.null, .null, .null, .int 0, .int 0, .int 0, .int 0, .int 0, .null, .null, .int 0, .int 0, .int 0, .int 0, .int 0, .int 0, .int 0, .int 0, .null])), (q_1, .inl (g_2, 220, .inr (.inl f_140)))] H := hP
  have hD : va_D A [(o, .inr (4, [.null, .null, .null, .int 0, .int 0, .int 0, .int 0, .int 0, .null, .null, .int 0, .int 0, .int 0, .int 0, .int 0, .int 0, .int 0, .int 0, .null])), (q_1, .inl (g_2, 220, .inr (.inl f_140)))] := hD
  refine lv_dup hx hb d_M_init_778 rfl ?_
  refine lv_sipush (v := 138) hx hb d_M_init_779 (by decide) ?_
  refine lv_lconst (v := 0) hx hb d_M_init_782 (by decide) ?_
  refine va_lastG hx hb hK hP hD hS 1 0 rfl rfl (by unfold vp_in; decide) d_M_init_783 (fun f_141 H locs hP hD hS => ?_)
  have hP : va_P (dC, dI) cls [(o, .inr (4, [.null, .null, .null, .int 0, .int 0, .int 0, .int 0, .int 0, .null, .null, .int 0, .int 0, .int 0, .int 0, .int 0, .int 0, .int 0, .int 0, .null])), (q_1, .inl (g_2, 220, .inr (.inl f_141)))] H := hP
  have hD : va_D A [(o, .inr (4, [.null, .null, .null, .int 0, .int 0, .int 0, .int 0, .int 0, .null, .null, .int 0, .int 0, .int 0, .int 0, .int 0, .int 0, .int 0, .int 0, .null])), (q_1, .inl (g_2, 220, .inr (.inl f_141)))] := hD
  refine lv_dup hx hb d_M_init_784 rfl ?_
  refine lv_sipush (v := 139) hx hb d_M_init_785 (by decide) ?_
  refine lv_lconst (v := 0) hx hb d_M_init_788 (by decide) ?_
  refine va_lastG hx hb hK hP hD hS 1 0 rfl rfl (by unfold vp_in; decide) d_M_init_789 (fun f_142 H locs hP hD hS => ?_)
  have hP : va_P (dC, dI) cls [(o, .inr (4, [.null, .null, .null, .int 0, .int 0, .int 0, .int 0, .int 0, .null, .null, .int 0, .int 0, .int 0, .int 0, .int 0, .int 0, .int 0, .int 0, .null])), (q_1, .inl (g_2, 220, .inr (.inl f_142)))] H := hP
  have hD : va_D A [(o, .inr (4, [.null, .null, .null, .int 0, .int 0, .int 0, .int 0, .int 0, .null, .null, .int 0, .int 0, .int 0, .int 0, .int 0, .int 0, .int 0, .int 0, .null])), (q_1, .inl (g_2, 220, .inr (.inl f_142)))] := hD
  refine lv_dup hx hb d_M_init_790 rfl ?_
  refine lv_sipush (v := 140) hx hb d_M_init_791 (by decide) ?_
  refine lv_ldc2 (v := 7881708793177142016) hx hb hown (ht _ k_600) d_M_init_794 ?_
  refine va_lastG hx hb hK hP hD hS 1 0 rfl rfl (by unfold vp_in; decide) d_M_init_797 (fun f_143 H locs hP hD hS => ?_)
  have hP : va_P (dC, dI) cls [(o, .inr (4, [.null, .null, .null, .int 0, .int 0, .int 0, .int 0, .int 0, .null, .null, .int 0, .int 0, .int 0, .int 0, .int 0, .int 0, .int 0, .int 0, .null])), (q_1, .inl (g_2, 220, .inr (.inl f_143)))] H := hP
  have hD : va_D A [(o, .inr (4, [.null, .null, .null, .int 0, .int 0, .int 0, .int 0, .int 0, .null, .null, .int 0, .int 0, .int 0, .int 0, .int 0, .int 0, .int 0, .int 0, .null])), (q_1, .inl (g_2, 220, .inr (.inl f_143)))] := hD
  refine lv_dup hx hb d_M_init_798 rfl ?_
  refine lv_sipush (v := 141) hx hb d_M_init_799 (by decide) ?_
  refine lv_lconst (v := 0) hx hb d_M_init_802 (by decide) ?_
  refine va_lastG hx hb hK hP hD hS 1 0 rfl rfl (by unfold vp_in; decide) d_M_init_803 (fun f_144 H locs hP hD hS => ?_)
  have hP : va_P (dC, dI) cls [(o, .inr (4, [.null, .null, .null, .int 0, .int 0, .int 0, .int 0, .int 0, .null, .null, .int 0, .int 0, .int 0, .int 0, .int 0, .int 0, .int 0, .int 0, .null])), (q_1, .inl (g_2, 220, .inr (.inl f_144)))] H := hP
  have hD : va_D A [(o, .inr (4, [.null, .null, .null, .int 0, .int 0, .int 0, .int 0, .int 0, .null, .null, .int 0, .int 0, .int 0, .int 0, .int 0, .int 0, .int 0, .int 0, .null])), (q_1, .inl (g_2, 220, .inr (.inl f_144)))] := hD
  refine lv_dup hx hb d_M_init_804 rfl ?_
  refine lv_sipush (v := 142) hx hb d_M_init_805 (by decide) ?_
  refine lv_lconst (v := 0) hx hb d_M_init_808 (by decide) ?_
  refine va_lastG hx hb hK hP hD hS 1 0 rfl rfl (by unfold vp_in; decide) d_M_init_809 (fun f_145 H locs hP hD hS => ?_)
  have hP : va_P (dC, dI) cls [(o, .inr (4, [.null, .null, .null, .int 0, .int 0, .int 0, .int 0, .int 0, .null, .null, .int 0, .int 0, .int 0, .int 0, .int 0, .int 0, .int 0, .int 0, .null])), (q_1, .inl (g_2, 220, .inr (.inl f_145)))] H := hP
  have hD : va_D A [(o, .inr (4, [.null, .null, .null, .int 0, .int 0, .int 0, .int 0, .int 0, .null, .null, .int 0, .int 0, .int 0, .int 0, .int 0, .int 0, .int 0, .int 0, .null])), (q_1, .inl (g_2, 220, .inr (.inl f_145)))] := hD
  refine lv_dup hx hb d_M_init_810 rfl ?_
  refine lv_sipush (v := 143) hx hb d_M_init_811 (by decide) ?_
  refine lv_lconst (v := 0) hx hb d_M_init_814 (by decide) ?_
  refine va_lastG hx hb hK hP hD hS 1 0 rfl rfl (by unfold vp_in; decide) d_M_init_815 (fun f_146 H locs hP hD hS => ?_)
  have hP : va_P (dC, dI) cls [(o, .inr (4, [.null, .null, .null, .int 0, .int 0, .int 0, .int 0, .int 0, .null, .null, .int 0, .int 0, .int 0, .int 0, .int 0, .int 0, .int 0, .int 0, .null])), (q_1, .inl (g_2, 220, .inr (.inl f_146)))] H := hP
  have hD : va_D A [(o, .inr (4, [.null, .null, .null, .int 0, .int 0, .int 0, .int 0, .int 0, .null, .null, .int 0, .int 0, .int 0, .int 0, .int 0, .int 0, .int 0, .int 0, .null])), (q_1, .inl (g_2, 220, .inr (.inl f_146)))] := hD
  refine lv_dup hx hb d_M_init_816 rfl ?_
  refine lv_sipush (v := 144) hx hb d_M_init_817 (by decide) ?_
  refine lv_ldc2 (v := 7165074649422757888) hx hb hown (ht _ k_601) d_M_init_820 ?_
  refine va_lastG hx hb hK hP hD hS 1 0 rfl rfl (by unfold vp_in; decide) d_M_init_823 (fun f_147 H locs hP hD hS => ?_)
  have hP : va_P (dC, dI) cls [(o, .inr (4, [.null, .null, .null, .int 0, .int 0, .int 0, .int 0, .int 0, .null, .null, .int 0, .int 0, .int 0, .int 0, .int 0, .int 0, .int 0, .int 0, .null])), (q_1, .inl (g_2, 220, .inr (.inl f_147)))] H := hP
  have hD : va_D A [(o, .inr (4, [.null, .null, .null, .int 0, .int 0, .int 0, .int 0, .int 0, .null, .null, .int 0, .int 0, .int 0, .int 0, .int 0, .int 0, .int 0, .int 0, .null])), (q_1, .inl (g_2, 220, .inr (.inl f_147)))] := hD
  refine lv_dup hx hb d_M_init_824 rfl ?_
  refine lv_sipush (v := 145) hx hb d_M_init_825 (by decide) ?_
  refine lv_lconst (v := 0) hx hb d_M_init_828 (by decide) ?_
  refine va_lastG hx hb hK hP hD hS 1 0 rfl rfl (by unfold vp_in; decide) d_M_init_829 (fun f_148 H locs hP hD hS => ?_)
  have hP : va_P (dC, dI) cls [(o, .inr (4, [.null, .null, .null, .int 0, .int 0, .int 0, .int 0, .int 0, .null, .null, .int 0, .int 0, .int 0, .int 0, .int 0, .int 0, .int 0, .int 0, .null])), (q_1, .inl (g_2, 220, .inr (.inl f_148)))] H := hP
  have hD : va_D A [(o, .inr (4, [.null, .null, .null, .int 0, .int 0, .int 0, .int 0, .int 0, .null, .null, .int 0, .int 0, .int 0, .int 0, .int 0, .int 0, .int 0, .int 0, .null])), (q_1, .inl (g_2, 220, .inr (.inl f_148)))] := hD
  refine lv_dup hx hb d_M_init_830 rfl ?_
  refine lv_sipush (v := 146) hx hb d_M_init_831 (by decide) ?_
  refine lv_lconst (v := 0) hx hb d_M_init_834 (by decide) ?_
  refine va_lastG hx hb hK hP hD hS 1 0 rfl rfl (by unfold vp_in; decide) d_M_init_835 (fun f_149 H locs hP hD hS => ?_)
  have hP : va_P (dC, dI) cls [(o, .inr (4, [.null, .null, .null, .int 0, .int 0, .int 0, .int 0, .int 0, .null, .null, .int 0, .int 0, .int 0, .int 0, .int 0, .int 0, .int 0, .int 0, .null])), (q_1, .inl (g_2, 220, .inr (.inl f_149)))] H := hP
  have hD : va_D A [(o, .inr (4, [.null, .null, .null, .int 0, .int 0, .int 0, .int 0, .int 0, .null, .null, .int 0, .int 0, .int 0, .int 0, .int 0, .int 0, .int 0, .int 0, .null])), (q_1, .inl (g_2, 220, .inr (.inl f_149)))] := hD
  refine lv_dup hx hb d_M_init_836 rfl ?_
  refine lv_sipush (v := 147) hx hb d_M_init_837 (by decide) ?_
  refine lv_lconst (v := 0) hx hb d_M_init_840 (by decide) ?_
  refine va_lastG hx hb hK hP hD hS 1 0 rfl rfl (by unfold vp_in; decide) d_M_init_841 (fun f_150 H locs hP hD hS => ?_)
  have hP : va_P (dC, dI) cls [(o, .inr (4, [.null, .null, .null, .int 0, .int 0, .int 0, .int 0, .int 0, .null, .null, .int 0, .int 0, .int 0, .int 0, .int 0, .int 0, .int 0, .int 0, .null])), (q_1, .inl (g_2, 220, .inr (.inl f_150)))] H := hP
  have hD : va_D A [(o, .inr (4, [.null, .null, .null, .int 0, .int 0, .int 0, .int 0, .int 0, .null, .null, .int 0, .int 0, .int 0, .int 0, .int 0, .int 0, .int 0, .int 0, .null])), (q_1, .inl (g_2, 220, .inr (.inl f_150)))] := hD
  refine lv_dup hx hb d_M_init_842 rfl ?_
  refine lv_sipush (v := 148) hx hb d_M_init_843 (by decide) ?_
  refine lv_ldc2 (v := 8530218420677902336) hx hb hown (ht _ k_602) d_M_init_846 ?_
  refine va_lastG hx hb hK hP hD hS 1 0 rfl rfl (by unfold vp_in; decide) d_M_init_849 (fun f_151 H locs hP hD hS => ?_)
  have hP : va_P (dC, dI) cls [(o, .inr (4, [.null, .null, .null, .int 0, .int 0, .int 0, .int 0, .int 0, .null, .null, .int 0, .int 0, .int 0, .int 0, .int 0, .int 0, .int 0, .int 0, .null])), (q_1, .inl (g_2, 220, .inr (.inl f_151)))] H := hP
  have hD : va_D A [(o, .inr (4, [.null, .null, .null, .int 0, .int 0, .int 0, .int 0, .int 0, .null, .null, .int 0, .int 0, .int 0, .int 0, .int 0, .int 0, .int 0, .int 0, .null])), (q_1, .inl (g_2, 220, .inr (.inl f_151)))] := hD
  refine lv_dup hx hb d_M_init_850 rfl ?_
  refine lv_sipush (v := 149) hx hb d_M_init_851 (by decide) ?_
  refine lv_lconst (v := 0) hx hb d_M_init_854 (by decide) ?_
  refine va_lastG hx hb hK hP hD hS 1 0 rfl rfl (by unfold vp_in; decide) d_M_init_855 (fun f_152 H locs hP hD hS => ?_)
  have hP : va_P (dC, dI) cls [(o, .inr (4, [.null, .null, .null, .int 0, .int 0, .int 0, .int 0, .int 0, .null, .null, .int 0, .int 0, .int 0, .int 0, .int 0, .int 0, .int 0, .int 0, .null])), (q_1, .inl (g_2, 220, .inr (.inl f_152)))] H := hP
  have hD : va_D A [(o, .inr (4, [.null, .null, .null, .int 0, .int 0, .int 0, .int 0, .int 0, .null, .null, .int 0, .int 0, .int 0, .int 0, .int 0, .int 0, .int 0, .int 0, .null])), (q_1, .inl (g_2, 220, .inr (.inl f_152)))] := hD
  refine lv_dup hx hb d_M_init_856 rfl ?_
  refine lv_sipush (v := 150) hx hb d_M_init_857 (by decide) ?_
  refine lv_lconst (v := 0) hx hb d_M_init_860 (by decide) ?_
  refine va_lastG hx hb hK hP hD hS 1 0 rfl rfl (by unfold vp_in; decide) d_M_init_861 (fun f_153 H locs hP hD hS => ?_)
  have hP : va_P (dC, dI) cls [(o, .inr (4, [.null, .null, .null, .int 0, .int 0, .int 0, .int 0, .int 0, .null, .null, .int 0, .int 0, .int 0, .int 0, .int 0, .int 0, .int 0, .int 0, .null])), (q_1, .inl (g_2, 220, .inr (.inl f_153)))] H := hP
  have hD : va_D A [(o, .inr (4, [.null, .null, .null, .int 0, .int 0, .int 0, .int 0, .int 0, .null, .null, .int 0, .int 0, .int 0, .int 0, .int 0, .int 0, .int 0, .int 0, .null])), (q_1, .inl (g_2, 220, .inr (.inl f_153)))] := hD
  refine lv_dup hx hb d_M_init_862 rfl ?_
  refine lv_sipush (v := 151) hx hb d_M_init_863 (by decide) ?_
  refine lv_lconst (v := 0) hx hb d_M_init_866 (by decide) ?_
  refine va_lastG hx hb hK hP hD hS 1 0 rfl rfl (by unfold vp_in; decide) d_M_init_867 (fun f_154 H locs hP hD hS => ?_)
  have hP : va_P (dC, dI) cls [(o, .inr (4, [.null, .null, .null, .int 0, .int 0, .int 0, .int 0, .int 0, .null, .null, .int 0, .int 0, .int 0, .int 0, .int 0, .int 0, .int 0, .int 0, .null])), (q_1, .inl (g_2, 220, .inr (.inl f_154)))] H := hP
  have hD : va_D A [(o, .inr (4, [.null, .null, .null, .int 0, .int 0, .int 0, .int 0, .int 0, .null, .null, .int 0, .int 0, .int 0, .int 0, .int 0, .int 0, .int 0, .int 0, .null])), (q_1, .inl (g_2, 220, .inr (.inl f_154)))] := hD
  refine lv_dup hx hb d_M_init_868 rfl ?_
  refine lv_sipush (v := 152) hx hb d_M_init_869 (by decide) ?_
  refine lv_ldc2 (v := 7165065861608399220) hx hb hown (ht _ k_603) d_M_init_872 ?_
  refine va_lastG hx hb hK hP hD hS 1 0 rfl rfl (by unfold vp_in; decide) d_M_init_875 (fun f_155 H locs hP hD hS => ?_)
  have hP : va_P (dC, dI) cls [(o, .inr (4, [.null, .null, .null, .int 0, .int 0, .int 0, .int 0, .int 0, .null, .null, .int 0, .int 0, .int 0, .int 0, .int 0, .int 0, .int 0, .int 0, .null])), (q_1, .inl (g_2, 220, .inr (.inl f_155)))] H := hP
  have hD : va_D A [(o, .inr (4, [.null, .null, .null, .int 0, .int 0, .int 0, .int 0, .int 0, .null, .null, .int 0, .int 0, .int 0, .int 0, .int 0, .int 0, .int 0, .int 0, .null])), (q_1, .inl (g_2, 220, .inr (.inl f_155)))] := hD
  refine lv_dup hx hb d_M_init_876 rfl ?_
  refine lv_sipush (v := 153) hx hb d_M_init_877 (by decide) ?_
  refine lv_ldc2 (v := 8030481085555015680) hx hb hown (ht _ k_604) d_M_init_880 ?_
  refine va_lastG hx hb hK hP hD hS 1 0 rfl rfl (by unfold vp_in; decide) d_M_init_883 (fun f_156 H locs hP hD hS => ?_)
  have hP : va_P (dC, dI) cls [(o, .inr (4, [.null, .null, .null, .int 0, .int 0, .int 0, .int 0, .int 0, .null, .null, .int 0, .int 0, .int 0, .int 0, .int 0, .int 0, .int 0, .int 0, .null])), (q_1, .inl (g_2, 220, .inr (.inl f_156)))] H := hP
  have hD : va_D A [(o, .inr (4, [.null, .null, .null, .int 0, .int 0, .int 0, .int 0, .int 0, .null, .null, .int 0, .int 0, .int 0, .int 0, .int 0, .int 0, .int 0, .int 0, .null])), (q_1, .inl (g_2, 220, .inr (.inl f_156)))] := hD
  refine lv_dup hx hb d_M_init_884 rfl ?_
  refine lv_sipush (v := 154) hx hb d_M_init_885 (by decide) ?_
  refine lv_lconst (v := 0) hx hb d_M_init_888 (by decide) ?_
  refine va_lastG hx hb hK hP hD hS 1 0 rfl rfl (by unfold vp_in; decide) d_M_init_889 (fun f_157 H locs hP hD hS => ?_)
  have hP : va_P (dC, dI) cls [(o, .inr (4, [.null, .null, .null, .int 0, .int 0, .int 0, .int 0, .int 0, .null, .null, .int 0, .int 0, .int 0, .int 0, .int 0, .int 0, .int 0, .int 0, .null])), (q_1, .inl (g_2, 220, .inr (.inl f_157)))] H := hP
  have hD : va_D A [(o, .inr (4, [.null, .null, .null, .int 0, .int 0, .int 0, .int 0, .int 0, .null, .null, .int 0, .int 0, .int 0, .int 0, .int 0, .int 0, .int 0, .int 0, .null])), (q_1, .inl (g_2, 220, .inr (.inl f_157)))] := hD
  refine lv_dup hx hb d_M_init_890 rfl ?_
  refine lv_sipush (v := 155) hx hb d_M_init_891 (by decide) ?_
  refine lv_lconst (v := 0) hx hb d_M_init_894 (by decide) ?_
  refine va_lastG hx hb hK hP hD hS 1 0 rfl rfl (by unfold vp_in; decide) d_M_init_895 (fun f_158 H locs hP hD hS => ?_)
  have hP : va_P (dC, dI) cls [(o, .inr (4, [.null, .null, .null, .int 0, .int 0, .int 0, .int 0, .int 0, .null, .null, .int 0, .int 0, .int 0, .int 0, .int 0, .int 0, .int 0, .int 0, .null])), (q_1, .inl (g_2, 220, .inr (.inl f_158)))] H := hP
  have hD : va_D A [(o, .inr (4, [.null, .null, .null, .int 0, .int 0, .int 0, .int 0, .int 0, .null, .null, .int 0, .int 0, .int 0, .int 0, .int 0, .int 0, .int 0, .int 0, .null])), (q_1, .inl (g_2, 220, .inr (.inl f_158)))] := hD
  refine lv_dup hx hb d_M_init_896 rfl ?_
  refine lv_sipush (v := 156) hx hb d_M_init_897 (by decide) ?_
  refine lv_ldc2 (v := 7020104666419560448) hx hb hown (ht _ k_605) d_M_init_900 ?_
  refine va_lastG hx hb hK hP hD hS 1 0 rfl rfl (by unfold vp_in; decide) d_M_init_903 (fun f_159 H locs hP hD hS => ?_)
  have hP : va_P (dC, dI) cls [(o, .inr (4, [.null, .null, .null, .int 0, .int 0, .int 0, .int 0, .int 0, .null, .null, .int 0, .int 0, .int 0, .int 0, .int 0, .int 0, .int 0, .int 0, .null])), (q_1, .inl (g_2, 220, .inr (.inl f_159)))] H := hP
  have hD : va_D A [(o, .inr (4, [.null, .null, .null, .int 0, .int 0, .int 0, .int 0, .int 0, .null, .null, .int 0, .int 0, .int 0, .int 0, .int 0, .int 0, .int 0, .int 0, .null])), (q_1, .inl (g_2, 220, .inr (.inl f_159)))] := hD
  refine lv_dup hx hb d_M_init_904 rfl ?_
  refine lv_sipush (v := 157) hx hb d_M_init_905 (by decide) ?_
  refine lv_lconst (v := 0) hx hb d_M_init_908 (by decide) ?_
  refine va_lastG hx hb hK hP hD hS 1 0 rfl rfl (by unfold vp_in; decide) d_M_init_909 (fun f_160 H locs hP hD hS => ?_)
  have hP : va_P (dC, dI) cls [(o, .inr (4, [.null, .null, .null, .int 0, .int 0, .int 0, .int 0, .int 0, .null, .null, .int 0, .int 0, .int 0, .int 0, .int 0, .int 0, .int 0, .int 0, .null])), (q_1, .inl (g_2, 220, .inr (.inl f_160)))] H := hP
  have hD : va_D A [(o, .inr (4, [.null, .null, .null, .int 0, .int 0, .int 0, .int 0, .int 0, .null, .null, .int 0, .int 0, .int 0, .int 0, .int 0, .int 0, .int 0, .int 0, .null])), (q_1, .inl (g_2, 220, .inr (.inl f_160)))] := hD
  refine lv_dup hx hb d_M_init_910 rfl ?_
  refine lv_sipush (v := 158) hx hb d_M_init_911 (by decide) ?_
  refine lv_lconst (v := 0) hx hb d_M_init_914 (by decide) ?_
  refine va_lastG hx hb hK hP hD hS 1 0 rfl rfl (by unfold vp_in; decide) d_M_init_915 (fun f_161 H locs hP hD hS => ?_)
  have hP : va_P (dC, dI) cls [(o, .inr (4, [.null, .null, .null, .int 0, .int 0, .int 0, .int 0, .int 0, .null, .null, .int 0, .int 0, .int 0, .int 0, .int 0, .int 0, .int 0, .int 0, .null])), (q_1, .inl (g_2, 220, .inr (.inl f_161)))] H := hP
  have hD : va_D A [(o, .inr (4, [.null, .null, .null, .int 0, .int 0, .int 0, .int 0, .int 0, .null, .null, .int 0, .int 0, .int 0, .int 0, .int 0, .int 0, .int 0, .int 0, .null])), (q_1, .inl (g_2, 220, .inr (.inl f_161)))] := hD
  refine lv_dup hx hb d_M_init_916 rfl ?_
  refine lv_sipush (v := 159) hx hb d_M_init_917 (by decide) ?_
  refine lv_lconst (v := 0) hx hb d_M_init_920 (by decide) ?_
  refine va_lastG hx hb hK hP hD hS 1 0 rfl rfl (by unfold vp_in; decide) d_M_init_921 (fun f_162 H locs hP hD hS => ?_)
  have hP : va_P (dC, dI) cls [(o, .inr (4, [.null, .null, .null, .int 0, .int 0, .int 0, .int 0, .int 0, .null, .null, .int 0, .int 0, .int 0, .int 0, .int 0, .int 0, .int 0, .int 0, .null])), (q_1, .inl (g_2, 220, .inr (.inl f_162)))] H := hP
  have hD : va_D A [(o, .inr (4, [.null, .null, .null, .int 0, .int 0, .int 0, .int 0, .int 0, .null, .null, .int 0, .int 0, .int 0, .int 0, .int 0, .int 0, .int 0, .int 0, .null])), (q_1, .inl (g_2, 220, .inr (.inl f_162)))] := hD
  refine lv_dup hx hb d_M_init_922 rfl ?_
  refine lv_sipush (v := 160) hx hb d_M_init_923 (by decide) ?_
  refine lv_ldc2 (v := 7813573148593381746) hx hb hown (ht _ k_606) d_M_init_926 ?_
  refine va_lastG hx hb hK hP hD hS 1 0 rfl rfl (by unfold vp_in; decide) d_M_init_929 (fun f_163 H locs hP hD hS => ?_)
  have hP : va_P (dC, dI) cls [(o, .inr (4, [.null, .null, .null, .int 0, .int 0, .int 0, .int 0, .int 0, .null, .null, .int 0, .int 0, .int 0, .int 0, .int 0, .int 0, .int 0, .int 0, .null])), (q_1, .inl (g_2, 220, .inr (.inl f_163)))] H := hP
  have hD : va_D A [(o, .inr (4, [.null, .null, .null, .int 0, .int 0, .int 0, .int 0, .int 0, .null, .null, .int 0, .int 0, .int 0, .int 0, .int 0, .int 0, .int 0, .int 0, .null])), (q_1, .inl (g_2, 220, .inr (.inl f_163)))] := hD
  refine lv_dup hx hb d_M_init_930 rfl ?_
  refine lv_sipush (v := 161) hx hb d_M_init_931 (by decide) ?_
  refine lv_ldc2 (v := 8358680908399640576) hx hb hown (ht _ k_607) d_M_init_934 ?_
  refine va_lastG hx hb hK hP hD hS 1 0 rfl rfl (by unfold vp_in; decide) d_M_init_937 (fun f_164 H locs hP hD hS => ?_)
  have hP : va_P (dC, dI) cls [(o, .inr (4, [.null, .null, .null, .int 0, .int 0, .int 0, .int 0, .int 0, .null, .null, .int 0, .int 0, .int 0, .int 0, .int 0, .int 0, .int 0, .int 0, .null])), (q_1, .inl (g_2, 220, .inr (.inl f_164)))] H := hP
  have hD : va_D A [(o, .inr (4, [.null, .null, .null, .int 0, .int 0, .int 0, .int 0, .int 0, .null, .null, .int 0, .int 0, .int 0, .int 0, .int 0, .int 0, .int 0, .int 0, .null])), (q_1, .inl (g_2, 220, .inr (.inl f_164)))] := hD
  refine lv_dup hx hb d_M_init_938 rfl ?_
  refine lv_sipush (v := 162) hx hb d_M_init_939 (by decide) ?_
  refine lv_lconst (v := 0) hx hb d_M_init_942 (by decide) ?_
  refine va_lastG hx hb hK hP hD hS 1 0 rfl rfl (by unfold vp_in; decide) d_M_init_943 (fun f_165 H locs hP hD hS => ?_)
  have hP : va_P (dC, dI) cls [(o, .inr (4, [.null, .null, .null, .int 0, .int 0, .int 0, .int 0, .int 0, .null, .null, .int 0, .int 0, .int 0, .int 0, .int 0, .int 0, .int 0, .int 0, .null])), (q_1, .inl (g_2, 220, .inr (.inl f_165)))] H := hP
  have hD : va_D A [(o, .inr (4, [.null, .null, .null, .int 0, .int 0, .int 0, .int 0, .int 0, .null, .null, .int 0, .int 0, .int 0, .int 0, .int 0, .int 0, .int 0, .int 0, .null])), (q_1, .inl (g_2, 220, .inr (.inl f_165)))] := hD
  refine lv_dup hx hb d_M_init_944 rfl ?_
  refine lv_sipush (v := 163) hx hb d_M_init_945 (by decide) ?_
  refine lv_lconst (v := 0) hx hb d_M_init_948 (by decide) ?_
  refine va_lastG hx hb hK hP hD hS 1 0 rfl rfl (by unfold vp_in; decide) d_M_init_949 (fun f_166 H locs hP hD hS => ?_)
  have hP : va_P (dC, dI) cls [(o, .inr (4, [.null, .null, .null, .int 0, .int 0, .int 0, .int 0, .int 0, .null, .null, .int 0, .int 0, .int 0, .int 0, .int 0, .int 0, .int 0, .int 0, .null])), (q_1, .inl (g_2, 220, .inr (.inl f_166)))] H := hP
  have hD : va_D A [(o, .inr (4, [.null, .null, .null, .int 0, .int 0, .int 0, .int 0, .int 0, .null, .null, .int 0, .int 0, .int 0, .int 0, .int 0, .int 0, .int 0, .int 0, .null])), (q_1, .inl (g_2, 220, .inr (.inl f_166)))] := hD
  refine lv_dup hx hb d_M_init_950 rfl ?_
  refine lv_sipush (v := 164) hx hb d_M_init_951 (by decide) ?_
  refine lv_ldc2 (v := 7237123391355748352) hx hb hown (ht _ k_608) d_M_init_954 ?_
  refine va_lastG hx hb hK hP hD hS 1 0 rfl rfl (by unfold vp_in; decide) d_M_init_957 (fun f_167 H locs hP hD hS => ?_)
  have hP : va_P (dC, dI) cls [(o, .inr (4, [.null, .null, .null, .int 0, .int 0, .int 0, .int 0, .int 0, .null, .null, .int 0, .int 0, .int 0, .int 0, .int 0, .int 0, .int 0, .int 0, .null])), (q_1, .inl (g_2, 220, .inr (.inl f_167)))] H := hP
  have hD : va_D A [(o, .inr (4, [.null, .null, .null, .int 0, .int 0, .int 0, .int 0, .int 0, .null, .null, .int 0, .int 0, .int 0, .int 0, .int 0, .int 0, .int 0, .int 0, .null])), (q_1, .inl (g_2, 220, .inr (.inl f_167)))] := hD
  refine lv_dup hx hb d_M_init_958 rfl ?_
  refine lv_sipush (v := 165) hx hb d_M_init_959 (by decide) ?_
  refine lv_lconst (v := 0) hx hb d_M_init_962 (by decide) ?_
  refine va_lastG hx hb hK hP hD hS 1 0 rfl rfl (by unfold vp_in; decide) d_M_init_963 (fun f_168 H locs hP hD hS => ?_)
  have hP : va_P (dC, dI) cls [(o, .inr (4, [.null, .null, .null, .int 0, .int 0, .int 0, .int 0, .int 0, .null, .null, .int 0, .int 0, .int 0, .int 0, .int 0, .int 0, .int 0, .int 0, .null])), (q_1, .inl (g_2, 220, .inr (.inl f_168)))] H := hP
  have hD : va_D A [(o, .inr (4, [.null, .null, .null, .int 0, .int 0, .int 0, .int 0, .int 0, .null, .null, .int 0, .int 0, .int 0, .int 0, .int 0, .int 0, .int 0, .int 0, .null])), (q_1, .inl (g_2, 220, .inr (.inl f_168)))] := hD
  refine lv_dup hx hb d_M_init_964 rfl ?_
  refine lv_sipush (v := 166) hx hb d_M_init_965 (by decide) ?_
  refine lv_lconst (v := 0) hx hb d_M_init_968 (by decide) ?_
  refine va_lastG hx hb hK hP hD hS 1 0 rfl rfl (by unfold vp_in; decide) d_M_init_969 (fun f_169 H locs hP hD hS => ?_)
  have hP : va_P (dC, dI) cls [(o, .inr (4, [.null, .null, .null, .int 0, .int 0, .int 0, .int 0, .int 0, .null, .null, .int 0, .int 0, .int 0, .int 0, .int 0, .int 0, .int 0, .int 0, .null])), (q_1, .inl (g_2, 220, .inr (.inl f_169)))] H := hP
  have hD : va_D A [(o, .inr (4, [.null, .null, .null, .int 0, .int 0, .int 0, .int 0, .int 0, .null, .null, .int 0, .int 0, .int 0, .int 0, .int 0, .int 0, .int 0, .int 0, .null])), (q_1, .inl (g_2, 220, .inr (.inl f_169)))] := hD
  refine lv_dup hx hb d_M_init_970 rfl ?_
  refine lv_sipush (v := 167) hx hb d_M_init_971 (by decide) ?_
  refine lv_lconst (v := 0) hx hb d_M_init_974 (by decide) ?_
  refine va_lastG hx hb hK hP hD hS 1 0 rfl rfl (by unfold vp_in; decide) d_M_init_975 (fun f_170 H locs hP hD hS => ?_)
  have hP : va_P (dC, dI) cls [(o, .inr (4, [.null, .null, .null, .int 0, .int 0, .int 0, .int 0, .int 0, .null, .null, .int 0, .int 0, .int 0, .int 0, .int 0, .int 0, .int 0, .int 0, .null])), (q_1, .inl (g_2, 220, .inr (.inl f_170)))] H := hP
  have hD : va_D A [(o, .inr (4, [.null, .null, .null, .int 0, .int 0, .int 0, .int 0, .int 0, .null, .null, .int 0, .int 0, .int 0, .int 0, .int 0, .int 0, .int 0, .int 0, .null])), (q_1, .inl (g_2, 220, .inr (.inl f_170)))] := hD
  refine lv_dup hx hb d_M_init_976 rfl ?_
  refine lv_sipush (v := 168) hx hb d_M_init_977 (by decide) ?_
  refine lv_ldc2 (v := 7454583283205013504) hx hb hown (ht _ k_609) d_M_init_980 ?_
  refine va_lastG hx hb hK hP hD hS 1 0 rfl rfl (by unfold vp_in; decide) d_M_init_983 (fun f_171 H locs hP hD hS => ?_)
  have hP : va_P (dC, dI) cls [(o, .inr (4, [.null, .null, .null, .int 0, .int 0, .int 0, .int 0, .int 0, .null, .null, .int 0, .int 0, .int 0, .int 0, .int 0, .int 0, .int 0, .int 0, .null])), (q_1, .inl (g_2, 220, .inr (.inl f_171)))] H := hP
  have hD : va_D A [(o, .inr (4, [.null, .null, .null, .int 0, .int 0, .int 0, .int 0, .int 0, .null, .null, .int 0, .int 0, .int 0, .int 0, .int 0, .int 0, .int 0, .int 0, .null])), (q_1, .inl (g_2, 220, .inr (.inl f_171)))] := hD
  refine lv_dup hx hb d_M_init_984 rfl ?_
  refine lv_sipush (v := 169) hx hb d_M_init_985 (by decide) ?_
  refine lv_lconst (v := 0) hx hb d_M_init_988 (by decide) ?_
  refine va_lastG hx hb hK hP hD hS 1 0 rfl rfl (by unfold vp_in; decide) d_M_init_989 (fun f_172 H locs hP hD hS => ?_)
  have hP : va_P (dC, dI) cls [(o, .inr (4, [.null, .null, .null, .int 0, .int 0, .int 0, .int 0, .int 0, .null, .null, .int 0, .int 0, .int 0, .int 0, .int 0, .int 0, .int 0, .int 0, .null])), (q_1, .inl (g_2, 220, .inr (.inl f_172)))] H := hP
  have hD : va_D A [(o, .inr (4, [.null, .null, .null, .int 0, .int 0, .int 0, .int 0, .int 0, .null, .null, .int 0, .int 0, .int 0, .int 0, .int 0, .int 0, .int 0, .int 0, .null])), (q_1, .inl (g_2, 220, .inr (.inl f_172)))] := hD
  refine lv_dup hx hb d_M_init_990 rfl ?_
  refine lv_sipush (v := 170) hx hb d_M_init_991 (by decide) ?_
  refine lv_lconst (v := 0) hx hb d_M_init_994 (by decide) ?_
  refine va_lastG hx hb hK hP hD hS 1 0 rfl rfl (by unfold vp_in; decide) d_M_init_995 (fun f_173 H locs hP hD hS => ?_)
  have hP : va_P (dC, dI) cls [(o, .inr (4, [.null, .null, .null, .int 0, .int 0, .int 0, .int 0, .int 0, .null, .null, .int 0, .int 0, .int 0, .int 0, .int 0, .int 0, .int 0, .int 0, .null])), (q_1, .inl (g_2, 220, .inr (.inl f_173)))] H := hP
  have hD : va_D A [(o, .inr (4, [.null, .null, .null, .int 0, .int 0, .int 0, .int 0, .int 0, .null, .null, .int 0, .int 0, .int 0, .int 0, .int 0, .int 0, .int 0, .int 0, .null])), (q_1, .inl (g_2, 220, .inr (.inl f_173)))] := hD
  refine lv_dup hx hb d_M_init_996 rfl ?_
  refine lv_sipush (v := 171) hx hb d_M_init_997 (by decide) ?_
  refine lv_lconst (v := 0) hx hb d_M_init_1000 (by decide) ?_
  refine va_lastG hx hb hK hP hD hS 1 0 rfl rfl (by unfold vp_in; decide) d_M_init_1001 (fun f_174 H locs hP hD hS => ?_)
  have hP : va_P (dC, dI) cls [(o, .inr (4, [.null, .null, .null, .int 0, .int 0, .int 0, .int 0, .int 0, .null, .null, .int 0, .int 0, .int 0, .int 0, .int 0, .int 0, .int 0, .int 0, .null])), (q_1, .inl (g_2, 220, .inr (.inl f_174)))] H := hP
  have hD : va_D A [(o, .inr (4, [.null, .null, .null, .int 0, .int 0, .int 0, .int 0, .int 0, .null, .null, .int 0, .int 0, .int 0, .int 0, .int 0, .int 0, .int 0, .int 0, .null])), (q_1, .inl (g_2, 220, .inr (.inl f_174)))] := hD
  refine lv_dup hx hb d_M_init_1002 rfl ?_
  refine lv_sipush (v := 172) hx hb d_M_init_1003 (by decide) ?_
  refine lv_ldc2 (v := 7450361158554353664) hx hb hown (ht _ k_610) d_M_init_1006 ?_
  refine va_lastG hx hb hK hP hD hS 1 0 rfl rfl (by unfold vp_in; decide) d_M_init_1009 (fun f_175 H locs hP hD hS => ?_)
  have hP : va_P (dC, dI) cls [(o, .inr (4, [.null, .null, .null, .int 0, .int 0, .int 0, .int 0, .int 0, .null, .null, .int 0, .int 0, .int 0, .int 0, .int 0, .int 0, .int 0, .int 0, .null])), (q_1, .inl (g_2, 220, .inr (.inl f_175)))] H := hP
  have hD : va_D A [(o, .inr (4, [.null, .null, .null, .int 0, .int 0, .int 0, .int 0, .int 0, .null, .null, .int 0, .int 0, .int 0, .int 0, .int 0, .int 0, .int 0, .int 0, .null])), (q_1, .inl (g_2, 220, .inr (.inl f_175)))] := hD
  refine lv_dup hx hb d_M_init_1010 rfl ?_
  refine lv_sipush (v := 173) hx hb d_M_init_1011 (by decide) ?_
  refine lv_lconst (v := 0) hx hb d_M_init_1014 (by decide) ?_
  refine va_lastG hx hb hK hP hD hS 1 0 rfl rfl (by unfold vp_in; decide) d_M_init_1015 (fun f_176 H locs hP hD hS => ?_)
  have hP : va_P (dC, dI) cls [(o, .inr (4, [.null, .null, .null, .int 0, .int 0, .int 0, .int 0, .int 0, .null, .null, .int 0, .int 0, .int 0, .int 0, .int 0, .int 0, .int 0, .int 0, .null])), (q_1, .inl (g_2, 220, .inr (.inl f_176)))] H := hP
  have hD : va_D A [(o, .inr (4, [.null, .null, .null, .int 0, .int 0, .int 0, .int 0, .int 0, .null, .null, .int 0, .int 0, .int 0, .int 0, .int 0, .int 0, .int 0, .int 0, .null])), (q_1, .inl (g_2, 220, .inr (.inl f_176)))] := hD
  refine lv_dup hx hb d_M_init_1016 rfl ?_
  refine lv_sipush (v := 174) hx hb d_M_init_1017 (by decide) ?_
  refine lv_lconst (v := 0) hx hb d_M_init_1020 (by decide) ?_
  refine va_lastG hx hb hK hP hD hS 1 0 rfl rfl (by unfold vp_in; decide) d_M_init_1021 (fun f_177 H locs hP hD hS => ?_)
  have hP : va_P (dC, dI) cls [(o, .inr (4, [.null, .null, .null, .int 0, .int 0, .int 0, .int 0, .int 0, .null, .null, .int 0, .int 0, .int 0, .int 0, .int 0, .int 0, .int 0, .int 0, .null])), (q_1, .inl (g_2, 220, .inr (.inl f_177)))] H := hP
  have hD : va_D A [(o, .inr (4, [.null, .null, .null, .int 0, .int 0, .int 0, .int 0, .int 0, .null, .null, .int 0, .int 0, .int 0, .int 0, .int 0, .int 0, .int 0, .int 0, .null])), (q_1, .inl (g_2, 220, .inr (.inl f_177)))] := hD
  refine lv_dup hx hb d_M_init_1022 rfl ?_
  refine lv_sipush (v := 175) hx hb d_M_init_1023 (by decide) ?_
  refine lv_lconst (v := 0) hx hb d_M_init_1026 (by decide) ?_
  refine va_lastG hx hb hK hP hD hS 1 0 rfl rfl (by unfold vp_in; decide) d_M_init_1027 (fun f_178 H locs hP hD hS => ?_)
  have hP : va_P (dC, dI) cls [(o, .inr (4, [.null, .null, .null, .int 0, .int 0, .int 0, .int 0, .int 0, .null, .null, .int 0, .int 0, .int 0, .int 0, .int 0, .int 0, .int 0, .int 0, .null])), (q_1, .inl (g_2, 220, .inr (.inl f_178)))] H := hP
  have hD : va_D A [(o, .inr (4, [.null, .null, .null, .int 0, .int 0, .int 0, .int 0, .int 0, .null, .null, .int 0, .int 0, .int 0, .int 0, .int 0, .int 0, .int 0, .int 0, .null])), (q_1, .inl (g_2, 220, .inr (.inl f_178)))] := hD
  refine lv_dup hx hb d_M_init_1028 rfl ?_
  refine lv_sipush (v := 176) hx hb d_M_init_1029 (by decide) ?_
  refine lv_ldc2 (v := 7814871253394653184) hx hb hown (ht _ k_611) d_M_init_1032 ?_
  refine va_lastG hx hb hK hP hD hS 1 0 rfl rfl (by unfold vp_in; decide) d_M_init_1035 (fun f_179 H locs hP hD hS => ?_)
  have hP : va_P (dC, dI) cls [(o, .inr (4, [.null, .null, .null, .int 0, .int 0, .int 0, .int 0, .int 0, .null, .null, .int 0, .int 0, .int 0, .int 0, .int 0, .int 0, .int 0, .int 0, .null])), (q_1, .inl (g_2, 220, .inr (.inl f_179)))] H := hP
  have hD : va_D A [(o, .inr (4, [.null, .null, .null, .int 0, .int 0, .int 0, .int 0, .int 0, .null, .null, .int 0, .int 0, .int 0, .int 0, .int 0, .int 0, .int 0, .int 0, .null])), (q_1, .inl (g_2, 220, .inr (.inl f_179)))] := hD
  refine lv_dup hx hb d_M_init_1036 rfl ?_
  refine lv_sipush (v := 177) hx hb d_M_init_1037 (by decide) ?_
  refine lv_lconst (v := 0) hx hb d_M_init_1040 (by decide) ?_
  refine va_lastG hx hb hK hP hD hS 1 0 rfl rfl (by unfold vp_in; decide) d_M_init_1041 (fun f_180 H locs hP hD hS => ?_)
  have hP : va_P (dC, dI) cls [(o, .inr (4, [.null, .null, .null, .int 0, .int 0, .int 0, .int 0, .int 0, .null, .null, .int 0, .int 0, .int 0, .int 0, .int 0, .int 0, .int 0, .int 0, .null])), (q_1, .inl (g_2, 220, .inr (.inl f_180)))] H := hP
  have hD : va_D A [(o, .inr (4, [.null, .null, .null, .int 0, .int 0, .int 0, .int 0, .int 0, .null, .null, .int 0, .int 0, .int 0, .int 0, .int 0, .int 0, .int 0, .int 0, .null])), (q_1, .inl (g_2, 220, .inr (.inl f_180)))] := hD
  refine lv_dup hx hb d_M_init_1042 rfl ?_
  refine lv_sipush (v := 178) hx hb d_M_init_1043 (by decide) ?_
  refine lv_lconst (v := 0) hx hb d_M_init_1046 (by decide) ?_
  refine va_lastG hx hb hK hP hD hS 1 0 rfl rfl (by unfold vp_in; decide) d_M_init_1047 (fun f_181 H locs hP hD hS => ?_)
  have hP : va_P (dC, dI) cls [(o, .inr (4, [.null, .null, .null, .int 0, .int 0, .int 0, .int 0, .int 0, .null, .null, .int 0, .int 0, .int 0, .int 0, .int 0, .int 0, .int 0, .int 0, .null])), (q_1, .inl (g_2, 220, .inr (.inl f_181)))] H := hP
  have hD : va_D A [(o, .inr (4, [.null, .null, .null, .int 0, .int 0, .int 0, .int 0, .int 0, .null, .null, .int 0, .int 0, .int 0, .int 0, .int 0, .int 0, .int 0, .int 0, .null])), (q_1, .inl (g_2, 220, .inr (.inl f_181)))] := hD
  refine lv_dup hx hb d_M_init_1048 rfl ?_
  refine lv_sipush (v := 179) hx hb d_M_init_1049 (by decide) ?_
  refine lv_lconst (v := 0) hx hb d_M_init_1052 (by decide) ?_
  refine va_lastG hx hb hK hP hD hS 1 0 rfl rfl (by unfold vp_in; decide) d_M_init_1053 (fun f_182 H locs hP hD hS => ?_)
  have hP : va_P (dC, dI) cls [(o, .inr (4, [.null, .null, .null, .int 0, .int 0, .int 0, .int 0, .int 0, .null, .null, .int 0, .int 0, .int 0, .int 0, .int 0, .int 0, .int 0, .int 0, .null])), (q_1, .inl (g_2, 220, .inr (.inl f_182)))] H := hP
  have hD : va_D A [(o, .inr (4, [.null, .null, .null, .int 0, .int 0, .int 0, .int 0, .int 0, .null, .null, .int 0, .int 0, .int 0, .int 0, .int 0, .int 0, .int 0, .int 0, .null])), (q_1, .inl (g_2, 220, .inr (.inl f_182)))] := hD
  refine lv_dup hx hb d_M_init_1054 rfl ?_
  refine lv_sipush (v := 180) hx hb d_M_init_1055 (by decide) ?_
  refine lv_ldc2 (v := 7810649128743993344) hx hb hown (ht _ k_612) d_M_init_1058 ?_
  refine va_lastG hx hb hK hP hD hS 1 0 rfl rfl (by unfold vp_in; decide) d_M_init_1061 (fun f_183 H locs hP hD hS => ?_)
  have hP : va_P (dC, dI) cls [(o, .inr (4, [.null, .null, .null, .int 0, .int 0, .int 0, .int 0, .int 0, .null, .null, .int 0, .int 0, .int 0, .int 0, .int 0, .int 0, .int 0, .int 0, .null])), (q_1, .inl (g_2, 220, .inr (.inl f_183)))] H := hP
  have hD : va_D A [(o, .inr (4, [.null, .null, .null, .int 0, .int 0, .int 0, .int 0, .int 0, .null, .null, .int 0, .int 0, .int 0, .int 0, .int 0, .int 0, .int 0, .int 0, .null])), (q_1, .inl (g_2, 220, .inr (.inl f_183)))] := hD
  refine lv_dup hx hb d_M_init_1062 rfl ?_
  refine lv_sipush (v := 181) hx hb d_M_init_1063 (by decide) ?_
  refine lv_lconst (v := 0) hx hb d_M_init_1066 (by decide) ?_
  refine va_lastG hx hb hK hP hD hS 1 0 rfl rfl (by unfold vp_in; decide) d_M_init_1067 (fun f_184 H locs hP hD hS => ?_)
  have hP : va_P (dC, dI) cls [(o, .inr (4, [.null, .null, .null, .int 0, .int 0, .int 0, .int 0, .int 0, .null, .null, .int 0, .int 0, .int 0, .int 0, .int 0, .int 0, .int 0, .int 0, .null])), (q_1, .inl (g_2, 220, .inr (.inl f_184)))] H := hP
  have hD : va_D A [(o, .inr (4, [.null, .null, .null, .int 0, .int 0, .int 0, .int 0, .int 0, .null, .null, .int 0, .int 0, .int 0, .int 0, .int 0, .int 0, .int 0, .int 0, .null])), (q_1, .inl (g_2, 220, .inr (.inl f_184)))] := hD
  refine lv_dup hx hb d_M_init_1068 rfl ?_
  refine lv_sipush (v := 182) hx hb d_M_init_1069 (by decide) ?_
  refine lv_lconst (v := 0) hx hb d_M_init_1072 (by decide) ?_
  refine va_lastG hx hb hK hP hD hS 1 0 rfl rfl (by unfold vp_in; decide) d_M_init_1073 (fun f_185 H locs hP hD hS => ?_)
  have hP : va_P (dC, dI) cls [(o, .inr (4, [.null, .null, .null, .int 0, .int 0, .int 0, .int 0, .int 0, .null, .null, .int 0, .int 0, .int 0, .int 0, .int 0, .int 0, .int 0, .int 0, .null])), (q_1, .inl (g_2, 220, .inr (.inl f_185)))] H := hP
  have hD : va_D A [(o, .inr (4, [.null, .null, .null, .int 0, .int 0, .int 0, .int 0, .int 0, .null, .null, .int 0, .int 0, .int 0, .int 0, .int 0, .int 0, .int 0, .int 0, .null])), (q_1, .inl (g_2, 220, .inr (.inl f_185)))] := hD
  refine lv_dup hx hb d_M_init_1074 rfl ?_
  refine lv_sipush (v := 183) hx hb d_M_init_1075 (by decide) ?_
  refine lv_lconst (v := 0) hx hb d_M_init_1078 (by decide) ?_
  refine va_lastG hx hb hK hP hD hS 1 0 rfl rfl (by unfold vp_in; decide) d_M_init_1079 (fun f_186 H locs hP hD hS => ?_)
  have hP : va_P (dC, dI) cls [(o, .inr (4, [.null, .null, .null, .int 0, .int 0, .int 0, .int 0, .int 0, .null, .null, .int 0, .int 0, .int 0, .int 0, .int 0, .int 0, .int 0, .int 0, .null])), (q_1, .inl (g_2, 220, .inr (.inl f_186)))] H := hP
  have hD : va_D A [(o, .inr (4, [.null, .null, .null, .int 0, .int 0, .int 0, .int 0, .int 0, .null, .null, .int 0, .int 0, .int 0, .int 0, .int 0, .int 0, .int 0, .int 0, .null])), (q_1, .inl (g_2, 220, .inr (.inl f_186)))] := hD
  refine lv_dup hx hb d_M_init_1080 rfl ?_
  refine lv_sipush (v := 184) hx hb d_M_init_1081 (by decide) ?_
  refine lv_ldc2 (v := 7309623670199025664) hx hb hown (ht _ k_613) d_M_init_1084 ?_
  refine va_lastG hx hb hK hP hD hS 1 0 rfl rfl (by unfold vp_in; decide) d_M_init_1087 (fun f_187 H locs hP hD hS => ?_)
  have hP : va_P (dC, dI) cls [(o, .inr (4, [.null, .null, .null, .int 0, .int 0, .int 0, .int 0, .int 0, .null, .null, .int 0, .int 0, .int 0, .int 0, .int 0, .int 0, .int 0, .int 0, .null])), (q_1, .inl (g_2, 220, .inr (.inl f_187)))] H := hP
  have hD : va_D A [(o, .inr (4, [.null, .null, .null, .int 0, .int 0, .int 0, .int 0, .int 0, .null, .null, .int 0, .int 0, .int 0, .int 0, .int 0, .int 0, .int 0, .int 0, .null])), (q_1, .inl (g_2, 220, .inr (.inl f_187)))] := hD
  refine lv_dup hx hb d_M_init_1088 rfl ?_
  refine lv_sipush (v := 185) hx hb d_M_init_1089 (by decide) ?_
  refine lv_lconst (v := 0) hx hb d_M_init_1092 (by decide) ?_
  refine va_lastG hx hb hK hP hD hS 1 0 rfl rfl (by unfold vp_in; decide) d_M_init_1093 (fun f_188 H locs hP hD hS => ?_)
  have hP : va_P (dC, dI) cls [(o, .inr (4, [.null, .null, .null, .int 0, .int 0, .int 0, .int 0, .int 0, .null, .null, .int 0, .int 0, .int 0, .int 0, .int 0, .int 0, .int 0, .int 0, .null])), (q_1, .inl (g_2, 220, .inr (.inl f_188)))] H := hP
  have hD : va_D A [(o, .inr (4, [.null, .null, .null, .int 0, .int 0, .int 0, .int 0, .int 0, .null, .null, .int 0, .int 0, .int 0, .int 0, .int 0, .int 0, .int 0, .int 0, .null])), (q_1, .inl (g_2, 220, .inr (.inl f_188)))] := hD
  refine lv_dup hx hb d_M_init_1094 rfl ?_
  refine lv_sipush (v := 186) hx hb d_M_init_1095 (by decide) ?_
  refine lv_lconst (v := 0) hx hb d_M_init_1098 (by decide) ?_
  refine va_lastG hx hb hK hP hD hS 1 0 rfl rfl (by unfold vp_in; decide) d_M_init_1099 (fun f_189 H locs hP hD hS => ?_)
  have hP : va_P (dC, dI) cls [(o, .inr (4, [.null, .null, .null, .int 0, .int 0, .int 0, .int 0, .int 0, .null, .null, .int 0, .int 0, .int 0, .int 0, .int 0, .int 0, .int 0, .int 0, .null])), (q_1, .inl (g_2, 220, .inr (.inl f_189)))] H := hP
  have hD : va_D A [(o, .inr (4, [.null, .null, .null, .int 0, .int 0, .int 0, .int 0, .int 0, .null, .null, .int 0, .int 0, .int 0, .int 0, .int 0, .int 0, .int 0, .int 0, .null])), (q_1, .inl (g_2, 220, .inr (.inl f_189)))] := hD
  refine lv_dup hx hb d_M_init_1100 rfl ?_
  refine lv_sipush (v := 187) hx hb d_M_init_1101 (by decide) ?_
  refine lv_lconst (v := 0) hx hb d_M_init_1104 (by decide) ?_
  refine va_lastG hx hb hK hP hD hS 1 0 rfl rfl (by unfold vp_in; decide) d_M_init_1105 (fun f_190 H locs hP hD hS => ?_)
  have hP : va_P (dC, dI) cls [(o, .inr (4, [.null, .null, .null, .int 0, .int 0, .int 0, .int 0, .int 0, .null, .null, .int 0, .int 0, .int 0, .int 0, .int 0, .int 0, .int 0, .int 0, .null])), (q_1, .inl (g_2, 220, .inr (.inl f_190)))] H := hP
  have hD : va_D A [(o, .inr (4, [.null, .null, .null, .int 0, .int 0, .int 0, .int 0, .int 0, .null, .null, .int 0, .int 0, .int 0, .int 0, .int 0, .int 0, .int 0, .int 0, .null])), (q_1, .inl (g_2, 220, .inr (.inl f_190)))] := hD
  refine lv_dup hx hb d_M_init_1106 rfl ?_
  refine lv_sipush (v := 188) hx hb d_M_init_1107 (by decide) ?_
  refine lv_ldc2 (v := 7954764316819849216) hx hb hown (ht _ k_614) d_M_init_1110 ?_
  refine va_lastG hx hb hK hP hD hS 1 0 rfl rfl (by unfold vp_in; decide) d_M_init_1113 (fun f_191 H locs hP hD hS => ?_)
  have hP : va_P (dC, dI) cls [(o, .inr (4, [.null, .null, .null, .int 0, .int 0, .int 0, .int 0, .int 0, .null, .null, .int 0, .int 0, .int 0, .int 0, .int 0, .int 0, .int 0, .int 0, .null])), (q_1, .inl (g_2, 220, .inr (.inl f_191)))] H := hP
  have hD : va_D A [(o, .inr (4, [.null, .null, .null, .int 0, .int 0, .int 0, .int 0, .int 0, .null, .null, .int 0, .int 0, .int 0, .int 0, .int 0, .int 0, .int 0, .int 0, .null])), (q_1, .inl (g_2, 220, .inr (.inl f_191)))] := hD
  refine lv_dup hx hb d_M_init_1114 rfl ?_
  refine lv_sipush (v := 189) hx hb d_M_init_1115 (by decide) ?_
  refine lv_lconst (v := 0) hx hb d_M_init_1118 (by decide) ?_
  refine va_lastG hx hb hK hP hD hS 1 0 rfl rfl (by unfold vp_in; decide) d_M_init_1119 (fun f_192 H locs hP hD hS => ?_)
  have hP : va_P (dC, dI) cls [(o, .inr (4, [.null, .null, .null, .int 0, .int 0, .int 0, .int 0, .int 0, .null, .null, .int 0, .int 0, .int 0, .int 0, .int 0, .int 0, .int 0, .int 0, .null])), (q_1, .inl (g_2, 220, .inr (.inl f_192)))] H := hP
  have hD : va_D A [(o, .inr (4, [.null, .null, .null, .int 0, .int 0, .int 0, .int 0, .int 0, .null, .null, .int 0, .int 0, .int 0, .int 0, .int 0, .int 0, .int 0, .int 0, .null])), (q_1, .inl (g_2, 220, .inr (.inl f_192)))] := hD
  refine lv_dup hx hb d_M_init_1120 rfl ?_
  refine lv_sipush (v := 190) hx hb d_M_init_1121 (by decide) ?_
  refine lv_lconst (v := 0) hx hb d_M_init_1124 (by decide) ?_
  refine va_lastG hx hb hK hP hD hS 1 0 rfl rfl (by unfold vp_in; decide) d_M_init_1125 (fun f_193 H locs hP hD hS => ?_)
  have hP : va_P (dC, dI) cls [(o, .inr (4, [.null, .null, .null, .int 0, .int 0, .int 0, .int 0, .int 0, .null, .null, .int 0, .int 0, .int 0, .int 0, .int 0, .int 0, .int 0, .int 0, .null])), (q_1, .inl (g_2, 220, .inr (.inl f_193)))] H := hP
  have hD : va_D A [(o, .inr (4, [.null, .null, .null, .int 0, .int 0, .int 0, .int 0, .int 0, .null, .null, .int 0, .int 0, .int 0, .int 0, .int 0, .int 0, .int 0, .int 0, .null])), (q_1, .inl (g_2, 220, .inr (.inl f_193)))] := hD
  refine lv_dup hx hb d_M_init_1126 rfl ?_
  refine lv_sipush (v := 191) hx hb d_M_init_1127 (by decide) ?_
  refine lv_lconst (v := 0) hx hb d_M_init_1130 (by decide) ?_
  refine va_lastG hx hb hK hP hD hS 1 0 rfl rfl (by unfold vp_in; decide) d_M_init_1131 (fun f_194 H locs hP hD hS => ?_)
  have hP : va_P (dC, dI) cls [(o, .inr (4, [.null, .null, .null, .int 0, .int 0, .int 0, .int 0, .int 0, .null, .null, .int 0, .int 0, .int 0, .int 0, .int 0, .int 0, .int 0, .int 0, .null])), (q_1, .inl (g_2, 220, .inr (.inl f_194)))] H := hP
  have hD : va_D A [(o, .inr (4, [.null, .null, .null, .int 0, .int 0, .int 0, .int 0, .int 0, .null, .null, .int 0, .int 0, .int 0, .int 0, .int 0, .int 0, .int 0, .int 0, .null])), (q_1, .inl (g_2, 220, .inr (.inl f_194)))] := hD
  refine lv_dup hx hb d_M_init_1132 rfl ?_
  refine lv_sipush (v := 192) hx hb d_M_init_1133 (by decide) ?_
  refine lv_ldc2 (v := 7582776870553613312) hx hb hown (ht _ k_615) d_M_init_1136 ?_
  refine va_lastG hx hb hK hP hD hS 1 0 rfl rfl (by unfold vp_in; decide) d_M_init_1139 (fun f_195 H locs hP hD hS => ?_)
  have hP : va_P (dC, dI) cls [(o, .inr (4, [.null, .null, .null, .int 0, .int 0, .int 0, .int 0, .int 0, .null, .null, .int 0, .int 0, .int 0, .int 0, .int 0, .int 0, .int 0, .int 0, .null])), (q_1, .inl (g_2, 220, .inr (.inl f_195)))] H := hP
  have hD : va_D A [(o, .inr (4, [.null, .null, .null, .int 0, .int 0, .int 0, .int 0, .int 0, .null, .null, .int 0, .int 0, .int 0, .int 0, .int 0, .int 0, .int 0, .int 0, .null])), (q_1, .inl (g_2, 220, .inr (.inl f_195)))] := hD
  refine lv_dup hx hb d_M_init_1140 rfl ?_
  refine lv_sipush (v := 193) hx hb d_M_init_1141 (by decide) ?_
  refine lv_lconst (v := 0) hx hb d_M_init_1144 (by decide) ?_
  refine va_lastG hx hb hK hP hD hS 1 0 rfl rfl (by unfold vp_in; decide) d_M_init_1145 (fun f_196 H locs hP hD hS => ?_)
  have hP : va_P (dC, dI) cls [(o, .inr (4, [.null, .null, .null, .int 0, .int 0, .int 0, .int 0, .int 0, .null, .null, .int 0, .int 0, .int 0, .int 0, .int 0, .int 0, .int 0, .int 0, .null])), (q_1, .inl (g_2, 220, .inr (.inl f_196)))] H := hP
  have hD : va_D A [(o, .inr (4, [.null, .null, .null, .int 0, .int 0, .int 0, .int 0, .int 0, .null, .null, .int 0, .int 0, .int 0, .int 0, .int 0, .int 0, .int 0, .int 0, .null])), (q_1, .inl (g_2, 220, .inr (.inl f_196)))] := hD
  refine lv_dup hx hb d_M_init_1146 rfl ?_
  refine lv_sipush (v := 194) hx hb d_M_init_1147 (by decide) ?_
  refine lv_lconst (v := 0) hx hb d_M_init_1150 (by decide) ?_
  refine va_lastG hx hb hK hP hD hS 1 0 rfl rfl (by unfold vp_in; decide) d_M_init_1151 (fun f_197 H locs hP hD hS => ?_)
  have hP : va_P (dC, dI) cls [(o, .inr (4, [.null, .null, .null, .int 0, .int 0, .int 0, .int 0, .int 0, .null, .null, .int 0, .int 0, .int 0, .int 0, .int 0, .int 0, .int 0, .int 0, .null])), (q_1, .inl (g_2, 220, .inr (.inl f_197)))] H := hP
  have hD : va_D A [(o, .inr (4, [.null, .null, .null, .int 0, .int 0, .int 0, .int 0, .int 0, .null, .null, .int 0, .int 0, .int 0, .int 0, .int 0, .int 0, .int 0, .int 0, .null])), (q_1, .inl (g_2, 220, .inr (.inl f_197)))] := hD
  refine lv_dup hx hb d_M_init_1152 rfl ?_
  refine lv_sipush (v := 195) hx hb d_M_init_1153 (by decide) ?_
  refine lv_lconst (v := 0) hx hb d_M_init_1156 (by decide) ?_
  refine va_lastG hx hb hK hP hD hS 1 0 rfl rfl (by unfold vp_in; decide) d_M_init_1157 (fun f_198 H locs hP hD hS => ?_)
  have hP : va_P (dC, dI) cls [(o, .inr (4, [.null, .null, .null, .int 0, .int 0, .int 0, .int 0, .int 0, .null, .null, .int 0, .int 0, .int 0, .int 0, .int 0, .int 0, .int 0, .int 0, .null])), (q_1, .inl (g_2, 220, .inr (.inl f_198)))] H := hP
  have hD : va_D A [(o, .inr (4, [.null, .null, .null, .int 0, .int 0, .int 0, .int 0, .int 0, .null, .null, .int 0, .int 0, .int 0, .int 0, .int 0, .int 0, .int 0, .int 0, .null])), (q_1, .inl (g_2, 220, .inr (.inl f_198)))] := hD
  refine lv_dup hx hb d_M_init_1158 rfl ?_
  refine lv_sipush (v := 196) hx hb d_M_init_1159 (by decide) ?_
  refine lv_ldc2 (v := 7582761545825347885) hx hb hown (ht _ k_616) d_M_init_1162 ?_
  refine va_lastG hx hb hK hP hD hS 1 0 rfl rfl (by unfold vp_in; decide) d_M_init_1165 (fun f_199 H locs hP hD hS => ?_)
  have hP : va_P (dC, dI) cls [(o, .inr (4, [.null, .null, .null, .int 0, .int 0, .int 0, .int 0, .int 0, .null, .null, .int 0, .int 0, .int 0, .int 0, .int 0, .int 0, .int 0, .int 0, .null])), (q_1, .inl (g_2, 220, .inr (.inl f_199)))] H := hP
  have hD : va_D A [(o, .inr (4, [.null, .null, .null, .int 0, .int 0, .int 0, .int 0, .int 0, .null, .null, .int 0, .int 0, .int 0, .int 0, .int 0, .int 0, .int 0, .int 0, .null])), (q_1, .inl (g_2, 220, .inr (.inl f_199)))] := hD
  refine lv_dup hx hb d_M_init_1166 rfl ?_
  refine lv_sipush (v := 197) hx hb d_M_init_1167 (by decide) ?_
  refine lv_ldc2 (v := 7161131761959792640) hx hb hown (ht _ k_617) d_M_init_1170 ?_
  refine va_lastG hx hb hK hP hD hS 1 0 rfl rfl (by unfold vp_in; decide) d_M_init_1173 (fun f_200 H locs hP hD hS => ?_)
  have hP : va_P (dC, dI) cls [(o, .inr (4, [.null, .null, .null, .int 0, .int 0, .int 0, .int 0, .int 0, .null, .null, .int 0, .int 0, .int 0, .int 0, .int 0, .int 0, .int 0, .int 0, .null])), (q_1, .inl (g_2, 220, .inr (.inl f_200)))] H := hP
  have hD : va_D A [(o, .inr (4, [.null, .null, .null, .int 0, .int 0, .int 0, .int 0, .int 0, .null, .null, .int 0, .int 0, .int 0, .int 0, .int 0, .int 0, .int 0, .int 0, .null])), (q_1, .inl (g_2, 220, .inr (.inl f_200)))] := hD
  refine lv_dup hx hb d_M_init_1174 rfl ?_
  refine lv_sipush (v := 198) hx hb d_M_init_1175 (by decide) ?_
  refine lv_lconst (v := 0) hx hb d_M_init_1178 (by decide) ?_
  refine va_lastG hx hb hK hP hD hS 1 0 rfl rfl (by unfold vp_in; decide) d_M_init_1179 (fun f_201 H locs hP hD hS => ?_)
  have hP : va_P (dC, dI) cls [(o, .inr (4, [.null, .null, .null, .int 0, .int 0, .int 0, .int 0, .int 0, .null, .null, .int 0, .int 0, .int 0, .int 0, .int 0, .int 0, .int 0, .int 0, .null])), (q_1, .inl (g_2, 220, .inr (.inl f_201)))] H := hP
  have hD : va_D A [(o, .inr (4, [.null, .null, .null, .int 0, .int 0, .int 0, .int 0, .int 0, .null, .null, .int 0, .int 0, .int 0, .int 0, .int 0, .int 0, .int 0, .int 0, .null])), (q_1, .inl (g_2, 220, .inr (.inl f_201)))] := hD
  refine lv_dup hx hb d_M_init_1180 rfl ?_
  refine lv_sipush (v := 199) hx hb d_M_init_1181 (by decide) ?_
  refine lv_lconst (v := 0) hx hb d_M_init_1184 (by decide) ?_
  refine va_lastG hx hb hK hP hD hS 1 0 rfl rfl (by unfold vp_in; decide) d_M_init_1185 (fun f_202 H locs hP hD hS => ?_)
  have hP : va_P (dC, dI) cls [(o, .inr (4, [.null, .null, .null, .int 0, .int 0, .int 0, .int 0, .int 0, .null, .null, .int 0, .int 0, .int 0, .int 0, .int 0, .int 0, .int 0, .int 0, .null])), (q_1, .inl (g_2, 220, .inr (.inl f_202)))] H := hP
  have hD : va_D A [(o, .inr (4, [.null, .null, .null, .int 0, .int 0, .int 0, .int 0, .int 0, .null, .null, .int 0, .int 0, .int 0, .int 0, .int 0, .int 0, .int 0, .int 0, .null])), (q_1, .inl (g_2, 220, .inr (.inl f_202)))] := hD
  refine lv_dup hx hb d_M_init_1186 rfl ?_
  refine lv_sipush (v := 200) hx hb d_M_init_1187 (by decide) ?_
  refine lv_ldc2 (v := 7582761545825347885) hx hb hown (ht _ k_616) d_M_init_1190 ?_
  refine va_lastG hx hb hK hP hD hS 1 0 rfl rfl (by unfold vp_in; decide) d_M_init_1193 (fun f_203 H locs hP hD hS => ?_)
  have hP : va_P (dC, dI) cls [(o, .inr (4, [.null, .null, .null, .int 0, .int 0, .int 0, .int 0, .int 0, .null, .null, .int 0, .int 0, .int 0, .int 0, .int 0, .int 0, .int 0, .int 0, .null])), (q_1, .inl (g_2, 220, .inr (.inl f_203)))] H := hP
  have hD : va_D A [(o, .inr (4, [.null, .null, .null, .int 0, .int 0, .int 0, .int 0, .int 0, .null, .null, .int 0, .int 0, .int 0, .int 0, .int 0, .int 0, .int 0, .int 0, .null])), (q_1, .inl (g_2, 220, .inr (.inl f_203)))] := hD
  refine lv_dup hx hb d_M_init_1194 rfl ?_
  refine lv_sipush (v := 201) hx hb d_M_init_1195 (by decide) ?_
  refine lv_ldc2 (v := 7959388198925853440) hx hb hown (ht _ k_618) d_M_init_1198 ?_
  refine va_lastG hx hb hK hP hD hS 1 0 rfl rfl (by unfold vp_in; decide) d_M_init_1201 (fun f_204 H locs hP hD hS => ?_)
  have hP : va_P (dC, dI) cls [(o, .inr (4, [.null, .null, .null, .int 0, .int 0, .int 0, .int 0, .int 0, .null, .null, .int 0, .int 0, .int 0, .int 0, .int 0, .int 0, .int 0, .int 0, .null])), (q_1, .inl (g_2, 220, .inr (.inl f_204)))] H := hP
  have hD : va_D A [(o, .inr (4, [.null, .null, .null, .int 0, .int 0, .int 0, .int 0, .int 0, .null, .null, .int 0, .int 0, .int 0, .int 0, .int 0, .int 0, .int 0, .int 0, .null])), (q_1, .inl (g_2, 220, .inr (.inl f_204)))] := hD
  refine lv_dup hx hb d_M_init_1202 rfl ?_
  refine lv_sipush (v := 202) hx hb d_M_init_1203 (by decide) ?_
  refine lv_lconst (v := 0) hx hb d_M_init_1206 (by decide) ?_
  refine va_lastG hx hb hK hP hD hS 1 0 rfl rfl (by unfold vp_in; decide) d_M_init_1207 (fun f_205 H locs hP hD hS => ?_)
  have hP : va_P (dC, dI) cls [(o, .inr (4, [.null, .null, .null, .int 0, .int 0, .int 0, .int 0, .int 0, .null, .null, .int 0, .int 0, .int 0, .int 0, .int 0, .int 0, .int 0, .int 0, .null])), (q_1, .inl (g_2, 220, .inr (.inl f_205)))] H := hP
  have hD : va_D A [(o, .inr (4, [.null, .null, .null, .int 0, .int 0, .int 0, .int 0, .int 0, .null, .null, .int 0, .int 0, .int 0, .int 0, .int 0, .int 0, .int 0, .int 0, .null])), (q_1, .inl (g_2, 220, .inr (.inl f_205)))] := hD
  refine lv_dup hx hb d_M_init_1208 rfl ?_
  refine lv_sipush (v := 203) hx hb d_M_init_1209 (by decide) ?_
  refine lv_lconst (v := 0) hx hb d_M_init_1212 (by decide) ?_
  refine va_lastG hx hb hK hP hD hS 1 0 rfl rfl (by unfold vp_in; decide) d_M_init_1213 (fun f_206 H locs hP hD hS => ?_)
  have hP : va_P (dC, dI) cls [(o, .inr (4, [.null, .null, .null, .int 0, .int 0, .int 0, .int 0, .int 0, .null, .null, .int 0, .int 0, .int 0, .int 0, .int 0, .int 0, .int 0, .int 0, .null])), (q_1, .inl (g_2, 220, .inr (.inl f_206)))] H := hP
  have hD : va_D A [(o, .inr (4, [.null, .null, .null, .int 0, .int 0, .int 0, .int 0, .int 0, .null, .null, .int 0, .int 0, .int 0, .int 0, .int 0, .int 0, .int 0, .int 0, .null])), (q_1, .inl (g_2, 220, .inr (.inl f_206)))] := hD
  refine lv_dup hx hb d_M_init_1214 rfl ?_
  refine lv_sipush (v := 204) hx hb d_M_init_1215 (by decide) ?_
  refine lv_ldc2 (v := 7596835280987253857) hx hb hown (ht _ k_619) d_M_init_1218 ?_
  refine va_lastG hx hb hK hP hD hS 1 0 rfl rfl (by unfold vp_in; decide) d_M_init_1221 (fun f_207 H locs hP hD hS => ?_)
  have hP : va_P (dC, dI) cls [(o, .inr (4, [.null, .null, .null, .int 0, .int 0, .int 0, .int 0, .int 0, .null, .null, .int 0, .int 0, .int 0, .int 0, .int 0, .int 0, .int 0, .int 0, .null])), (q_1, .inl (g_2, 220, .inr (.inl f_207)))] H := hP
  have hD : va_D A [(o, .inr (4, [.null, .null, .null, .int 0, .int 0, .int 0, .int 0, .int 0, .null, .null, .int 0, .int 0, .int 0, .int 0, .int 0, .int 0, .int 0, .int 0, .null])), (q_1, .inl (g_2, 220, .inr (.inl f_207)))] := hD
  refine lv_dup hx hb d_M_init_1222 rfl ?_
  refine lv_sipush (v := 205) hx hb d_M_init_1223 (by decide) ?_
  refine lv_ldc2 (v := 7454301808228302848) hx hb hown (ht _ k_620) d_M_init_1226 ?_
  refine va_lastG hx hb hK hP hD hS 1 0 rfl rfl (by unfold vp_in; decide) d_M_init_1229 (fun f_208 H locs hP hD hS => ?_)
  have hP : va_P (dC, dI) cls [(o, .inr (4, [.null, .null, .null, .int 0, .int 0, .int 0, .int 0, .int 0, .null, .null, .int 0, .int 0, .int 0, .int 0, .int 0, .int 0, .int 0, .int 0, .null])), (q_1, .inl (g_2, 220, .inr (.inl f_208)))] H := hP
  have hD : va_D A [(o, .inr (4, [.null, .null, .null, .int 0, .int 0, .int 0, .int 0, .int 0, .null, .null, .int 0, .int 0, .int 0, .int 0, .int 0, .int 0, .int 0, .int 0, .null])), (q_1, .inl (g_2, 220, .inr (.inl f_208)))] := hD
  refine lv_dup hx hb d_M_init_1230 rfl ?_
  refine lv_sipush (v := 206) hx hb d_M_init_1231 (by decide) ?_
  refine lv_lconst (v := 0) hx hb d_M_init_1234 (by decide) ?_
  refine va_lastG hx hb hK hP hD hS 1 0 rfl rfl (by unfold vp_in; decide) d_M_init_1235 (fun f_209 H locs hP hD hS => ?_)
  have hP : va_P (dC, dI) cls [(o, .inr (4, [.null, .null, .null, .int 0, .int 0, .int 0, .int 0, .int 0, .null, .null, .int 0, .int 0, .int 0, .int 0, .int 0, .int 0, .int 0, .int 0, .null])), (q_1, .inl (g_2, 220, .inr (.inl f_209)))] H := hP
  have hD : va_D A [(o, .inr (4, [.null, .null, .null, .int 0, .int 0, .int 0, .int 0, .int 0, .null, .null, .int 0, .int 0, .int 0, .int 0, .int 0, .int 0, .int 0, .int 0, .null])), (q_1, .inl (g_2, 220, .inr (.inl f_209)))] := hD
  refine lv_dup hx hb d_M_init_1236 rfl ?_
  refine lv_sipush (v := 207) hx hb d_M_init_1237 (by decide) ?_
  refine lv_lconst (v := 0) hx hb d_M_init_1240 (by decide) ?_
  refine va_lastG hx hb hK hP hD hS 1 0 rfl rfl (by unfold vp_in; decide) d_M_init_1241 (fun f_210 H locs hP hD hS => ?_)
  have hP : va_P (dC, dI) cls [(o, .inr (4, [.null, .null, .null, .int 0, .int 0, .int 0, .int 0, .int 0, .null, .null, .int 0, .int 0, .int 0, .int 0, .int 0, .int 0, .int 0, .int 0, .null])), (q_1, .inl (g_2, 220, .inr (.inl f_210)))] H := hP
  have hD : va_D A [(o, .inr (4, [.null, .null, .null, .int 0, .int 0, .int 0, .int 0, .int 0, .null, .null, .int 0, .int 0, .int 0, .int 0, .int 0, .int 0, .int 0, .int 0, .null])), (q_1, .inl (g_2, 220, .inr (.inl f_210)))] := hD
  refine lv_dup hx hb d_M_init_1242 rfl ?_
  refine lv_sipush (v := 208) hx hb d_M_init_1243 (by decide) ?_
  refine lv_ldc2 (v := 8243113858792255342) hx hb hown (ht _ k_621) d_M_init_1246 ?_
  refine va_lastG hx hb hK hP hD hS 1 0 rfl rfl (by unfold vp_in; decide) d_M_init_1249 (fun f_211 H locs hP hD hS => ?_)
  have hP : va_P (dC, dI) cls [(o, .inr (4, [.null, .null, .null, .int 0, .int 0, .int 0, .int 0, .int 0, .null, .null, .int 0, .int 0, .int 0, .int 0, .int 0, .int 0, .int 0, .int 0, .null])), (q_1, .inl (g_2, 220, .inr (.inl f_211)))] H := hP
  have hD : va_D A [(o, .inr (4, [.null, .null, .null, .int 0, .int 0, .int 0, .int 0, .int 0, .null, .null, .int 0, .int 0, .int 0, .int 0, .int 0, .int 0, .int 0, .int 0, .null])), (q_1, .inl (g_2, 220, .inr (.inl f_211)))] := hD
  refine lv_dup hx hb d_M_init_1250 rfl ?_
  refine lv_sipush (v := 209) hx hb d_M_init_1251 (by decide) ?_
  refine lv_ldc2 (v := 7019985919163760640) hx hb hown (ht _ k_622) d_M_init_1254 ?_
  refine va_lastG hx hb hK hP hD hS 1 0 rfl rfl (by unfold vp_in; decide) d_M_init_1257 (fun f_212 H locs hP hD hS => ?_)
  have hP : va_P (dC, dI) cls [(o, .inr (4, [.null, .null, .null, .int 0, .int 0, .int 0, .int 0, .int 0, .null, .null, .int 0, .int 0, .int 0, .int 0, .int 0, .int 0, .int 0, .int 0, .null])), (q_1, .inl (g_2, 220, .inr (.inl f_212)))] H := hP
  have hD : va_D A [(o, .inr (4, [.null, .null, .null, .int 0, .int 0, .int 0, .int 0, .int 0, .null, .null, .int 0, .int 0, .int 0, .int 0, .int 0, .int 0, .int 0, .int 0, .null])), (q_1, .inl (g_2, 220, .inr (.inl f_212)))] := hD
  refine lv_dup hx hb d_M_init_1258 rfl ?_
  refine lv_sipush (v := 210) hx hb d_M_init_1259 (by decide) ?_
  refine lv_lconst (v := 0) hx hb d_M_init_1262 (by decide) ?_
  refine va_lastG hx hb hK hP hD hS 1 0 rfl rfl (by unfold vp_in; decide) d_M_init_1263 (fun f_213 H locs hP hD hS => ?_)
  have hP : va_P (dC, dI) cls [(o, .inr (4, [.null, .null, .null, .int 0, .int 0, .int 0, .int 0, .int 0, .null, .null, .int 0, .int 0, .int 0, .int 0, .int 0, .int 0, .int 0, .int 0, .null])), (q_1, .inl (g_2, 220, .inr (.inl f_213)))] H := hP
  have hD : va_D A [(o, .inr (4, [.null, .null, .null, .int 0, .int 0, .int 0, .int 0, .int 0, .null, .null, .int 0, .int 0, .int 0, .int 0, .int 0, .int 0, .int 0, .int 0, .null])), (q_1, .inl (g_2, 220, .inr (.inl f_213)))] := hD
  refine lv_dup hx hb d_M_init_1264 rfl ?_
  refine lv_sipush (v := 211) hx hb d_M_init_1265 (by decide) ?_
  refine lv_lconst (v := 0) hx hb d_M_init_1268 (by decide) ?_
  refine va_lastG hx hb hK hP hD hS 1 0 rfl rfl (by unfold vp_in; decide) d_M_init_1269 (fun f_214 H locs hP hD hS => ?_)
  have hP : va_P (dC, dI) cls [(o, .inr (4, [.null, .null, .null, .int 0, .int 0, .int 0, .int 0, .int 0, .null, .null, .int 0, .int 0, .int 0, .int 0, .int 0, .int 0, .int 0, .int 0, .null])), (q_1, .inl (g_2, 220, .inr (.inl f_214)))] H := hP
  have hD : va_D A [(o, .inr (4, [.null, .null, .null, .int 0, .int 0, .int 0, .int 0, .int 0, .null, .null, .int 0, .int 0, .int 0, .int 0, .int 0, .int 0, .int 0, .int 0, .null])), (q_1, .inl (g_2, 220, .inr (.inl f_214)))] := hD
  refine lv_dup hx hb d_M_init_1270 rfl ?_
  refine lv_sipush (v := 212) hx hb d_M_init_1271 (by decide) ?_
  refine lv_ldc2 (v := 7165065861608399220) hx hb hown (ht _ k_603) d_M_init_1274 ?_
  refine va_lastG hx hb hK hP hD hS 1 0 rfl rfl (by unfold vp_in; decide) d_M_init_1277 (fun f_215 H locs hP hD hS => ?_)
  have hP : va_P (dC, dI) cls [(o, .inr (4, [.null, .null, .null, .int 0, .int 0, .int 0, .int 0, .int 0, .null, .null, .int 0, .int 0, .int 0, .int 0, .int 0, .int 0, .int 0, .int 0, .null])), (q_1, .inl (g_2, 220, .inr (.inl f_215)))] H := hP
  have hD : va_D A [(o, .inr (4, [.null, .null, .null, .int 0, .int 0, .int 0, .int 0, .int 0, .null, .null, .int 0, .int 0, .int 0, .int 0, .int 0, .int 0, .int 0, .int 0, .null])), (q_1, .inl (g_2, 220, .inr (.inl f_215)))] := hD
  refine lv_dup hx hb d_M_init_1278 rfl ?_
  refine lv_sipush (v := 213) hx hb d_M_init_1279 (by decide) ?_
  refine lv_ldc2 (v := 8030531015546073955) hx hb hown (ht _ k_623) d_M_init_1282 ?_
  refine va_lastG hx hb hK hP hD hS 1 0 rfl rfl (by unfold vp_in; decide) d_M_init_1285 (fun f_216 H locs hP hD hS => ?_)
  have hP : va_P (dC, dI) cls [(o, .inr (4, [.null, .null, .null, .int 0, .int 0, .int 0, .int 0, .int 0, .null, .null, .int 0, .int 0, .int 0, .int 0, .int 0, .int 0, .int 0, .int 0, .null])), (q_1, .inl (g_2, 220, .inr (.inl f_216)))] H := hP
  have hD : va_D A [(o, .inr (4, [.null, .null, .null, .int 0, .int 0, .int 0, .int 0, .int 0, .null, .null, .int 0, .int 0, .int 0, .int 0, .int 0, .int 0, .int 0, .int 0, .null])), (q_1, .inl (g_2, 220, .inr (.inl f_216)))] := hD
  refine lv_dup hx hb d_M_init_1286 rfl ?_
  refine lv_sipush (v := 214) hx hb d_M_init_1287 (by decide) ?_
  refine lv_ldc2 (v := 7595652198976808306) hx hb hown (ht _ k_624) d_M_init_1290 ?_
  refine va_lastG hx hb hK hP hD hS 1 0 rfl rfl (by unfold vp_in; decide) d_M_init_1293 (fun f_217 H locs hP hD hS => ?_)
  have hP : va_P (dC, dI) cls [(o, .inr (4, [.null, .null, .null, .int 0, .int 0, .int 0, .int 0, .int 0, .null, .null, .int 0, .int 0, .int 0, .int 0, .int 0, .int 0, .int 0, .int 0, .null])), (q_1, .inl (g_2, 220, .inr (.inl f_217)))] H := hP
  have hD : va_D A [(o, .inr (4, [.null, .null, .null, .int 0, .int 0, .int 0, .int 0, .int 0, .null, .null, .int 0, .int 0, .int 0, .int 0, .int 0, .int 0, .int 0, .int 0, .null])), (q_1, .inl (g_2, 220, .inr (.inl f_217)))] := hD
  refine lv_dup hx hb d_M_init_1294 rfl ?_
  refine lv_sipush (v := 215) hx hb d_M_init_1295 (by decide) ?_
  refine lv_ldc2 (v := 7593913396676788224) hx hb hown (ht _ k_625) d_M_init_1298 ?_
  refine va_lastG hx hb hK hP hD hS 1 0 rfl rfl (by unfold vp_in; decide) d_M_init_1301 (fun f_218 H locs hP hD hS => ?_)
  have hP : va_P (dC, dI) cls [(o, .inr (4, [.null, .null, .null, .int 0, .int 0, .int 0, .int 0, .int 0, .null, .null, .int 0, .int 0, .int 0, .int 0, .int 0, .int 0, .int 0, .int 0, .null])), (q_1, .inl (g_2, 220, .inr (.inl f_218)))] H := hP
  have hD : va_D A [(o, .inr (4, [.null, .null, .null, .int 0, .int 0, .int 0, .int 0, .int 0, .null, .null, .int 0, .int 0, .int 0, .int 0, .int 0, .int 0, .int 0, .int 0, .null])), (q_1, .inl (g_2, 220, .inr (.inl f_218)))] := hD
  refine lv_dup hx hb d_M_init_1302 rfl ?_
  refine lv_sipush (v := 216) hx hb d_M_init_1303 (by decide) ?_
  refine lv_ldc2 (v := 8387242320658956288) hx hb hown (ht _ k_626) d_M_init_1306 ?_
  refine va_lastG hx hb hK hP hD hS 1 0 rfl rfl (by unfold vp_in; decide) d_M_init_1309 (fun f_219 H locs hP hD hS => ?_)
  have hP : va_P (dC, dI) cls [(o, .inr (4, [.null, .null, .null, .int 0, .int 0, .int 0, .int 0, .int 0, .null, .null, .int 0, .int 0, .int 0, .int 0, .int 0, .int 0, .int 0, .int 0, .null])), (q_1, .inl (g_2, 220, .inr (.inl f_219)))] H := hP
  have hD : va_D A [(o, .inr (4, [.null, .null, .null, .int 0, .int 0, .int 0, .int 0, .int 0, .null, .null, .int 0, .int 0, .int 0, .int 0, .int 0, .int 0, .int 0, .int 0, .null])), (q_1, .inl (g_2, 220, .inr (.inl f_219)))] := hD
  refine lv_dup hx hb d_M_init_1310 rfl ?_
  refine lv_sipush (v := 217) hx hb d_M_init_1311 (by decide) ?_
  refine lv_lconst (v := 0) hx hb d_M_init_1314 (by decide) ?_
  refine va_lastG hx hb hK hP hD hS 1 0 rfl rfl (by unfold vp_in; decide) d_M_init_1315 (fun f_220 H locs hP hD hS => ?_)
  have hP : va_P (dC, dI) cls [(o, .inr (4, [.null, .null, .null, .int 0, .int 0, .int 0, .int 0, .int 0, .null, .null, .int 0, .int 0, .int 0, .int 0, .int 0, .int 0, .int 0, .int 0, .null])), (q_1, .inl (g_2, 220, .inr (.inl f_220)))] H := hP
  have hD : va_D A [(o, .inr (4, [.null, .null, .null, .int 0, .int 0, .int 0, .int 0, .int 0, .null, .null, .int 0, .int 0, .int 0, .int 0, .int 0, .int 0, .int 0, .int 0, .null])), (q_1, .inl (g_2, 220, .inr (.inl f_220)))] := hD
  refine lv_dup hx hb d_M_init_1316 rfl ?_
  refine lv_sipush (v := 218) hx hb d_M_init_1317 (by decide) ?_
  refine lv_lconst (v := 0) hx hb d_M_init_1320 (by decide) ?_
  refine va_lastG hx hb hK hP hD hS 1 0 rfl rfl (by unfold vp_in; decide) d_M_init_1321 (fun f_221 H locs hP hD hS => ?_)
  have hP : va_P (dC, dI) cls [(o, .inr (4, [.null, .null, .null, .int 0, .int 0, .int 0, .int 0, .int 0, .null, .null, .int 0, .int 0, .int 0, .int 0, .int 0, .int 0, .int 0, .int 0, .null])), (q_1, .inl (g_2, 220, .inr (.inl f_221)))] H := hP
  have hD : va_D A [(o, .inr (4, [.null, .null, .null, .int 0, .int 0, .int 0, .int 0, .int 0, .null, .null, .int 0, .int 0, .int 0, .int 0, .int 0, .int 0, .int 0, .int 0, .null])), (q_1, .inl (g_2, 220, .inr (.inl f_221)))] := hD
  refine lv_dup hx hb d_M_init_1322 rfl ?_
  refine lv_sipush (v := 219) hx hb d_M_init_1323 (by decide) ?_
  refine lv_lconst (v := 0) hx hb d_M_init_1326 (by decide) ?_
  refine va_lastG hx hb hK hP hD hS 1 0 rfl rfl (by unfold vp_in; decide) d_M_init_1327 (fun f_222 H locs hP hD hS => ?_)
  have hP : va_P (dC, dI) cls [(o, .inr (4, [.null, .null, .null, .int 0, .int 0, .int 0, .int 0, .int 0, .null, .null, .int 0, .int 0, .int 0, .int 0, .int 0, .int 0, .int 0, .int 0, .null])), (q_1, .inl (g_2, 220, .inr (.inl f_222)))] H := hP
  have hD : va_D A [(o, .inr (4, [.null, .null, .null, .int 0, .int 0, .int 0, .int 0, .int 0, .null, .null, .int 0, .int 0, .int 0, .int 0, .int 0, .int 0, .int 0, .int 0, .null])), (q_1, .inl (g_2, 220, .inr (.inl f_222)))] := hD
  refine va_putF (D := (dC, dI)) (ci := 4) (v := .ref q_1) (ty := .array .long) (C := "SieveDeskModel") (T := F_M) (N := 19) hx hb ht i_M ty_M ty_M_ok n_M hown hK hP hD hS 0 rfl rfl 0 (by decide) (ht _ k_627) (fun _ h9 => h9) rfl hin rfl (ty_M_ok 0 (by decide)) rfl rfl (Nat.le_of_ble_eq_true rfl) d_M_init_1328 (fun H locs hP hD hS => ?_)
  have hP : va_P (dC, dI) cls [(o, .inr (4, [.ref q_1, .null, .null, .int 0, .int 0, .int 0, .int 0, .int 0, .null, .null, .int 0, .int 0, .int 0, .int 0, .int 0, .int 0, .int 0, .int 0, .null])), (q_1, .inl (g_2, 220, .inr (.inl f_222)))] H := hP
  have hD : va_D A [(o, .inr (4, [.ref q_1, .null, .null, .int 0, .int 0, .int 0, .int 0, .int 0, .null, .null, .int 0, .int 0, .int 0, .int 0, .int 0, .int 0, .int 0, .int 0, .null])), (q_1, .inl (g_2, 220, .inr (.inl f_222)))] := hD
  refine lv_aload_n hx hb d_M_init_1331 rfl (lv_at hl 0 rfl) ?_
  refine lv_bipush (v := 55) hx hb d_M_init_1332 (by decide) ?_
  refine va_newa (atype := .int) (ty := .int) (N' := 55) (a0 := (55, .inl (fun _ => 0))) hx hb (ht _ k_118) rfl hK hP hD hS hA (fun _ => rfl) (by decide) (by decide) (by decide) (Nat.le_of_ble_eq_true rfl) (Nat.le_of_ble_eq_true rfl) d_M_init_1334 (fun q_223 g_224 H hK hP hD hS => ?_)
  have hP : va_P (dC, dI) cls [(o, .inr (4, [.ref q_1, .null, .null, .int 0, .int 0, .int 0, .int 0, .int 0, .null, .null, .int 0, .int 0, .int 0, .int 0, .int 0, .int 0, .int 0, .int 0, .null])), (q_1, .inl (g_2, 220, .inr (.inl f_222))), (q_223, .inl (g_224, 55, .inl (fun _ => 0)))] H := hP
  have hD : va_D A [(o, .inr (4, [.ref q_1, .null, .null, .int 0, .int 0, .int 0, .int 0, .int 0, .null, .null, .int 0, .int 0, .int 0, .int 0, .int 0, .int 0, .int 0, .int 0, .null])), (q_1, .inl (g_2, 220, .inr (.inl f_222))), (q_223, .inl (g_224, 55, .inl (fun _ => 0)))] := hD
  have hK : va_K (dC, dI) cls [(g_2, .long), (g_224, .int)] s := hK
  refine W.widen (k := 2) (n := 275) (by decide) (by decide) ?_
  refine lv_dup hx hb d_M_init_1336 rfl ?_
  refine lv_iconst (v := 0) hx hb d_M_init_1337 (by decide) ?_
  refine lv_bipush (v := 7) hx hb d_M_init_1338 (by decide) ?_
  refine va_iastG hx hb hK hP hD hS 2 1 rfl rfl (by unfold vp_in; decide) d_M_init_1340 (fun f_225 H locs hP hD hS => ?_)
  have hP : va_P (dC, dI) cls [(o, .inr (4, [.ref q_1, .null, .null, .int 0, .int 0, .int 0, .int 0, .int 0, .null, .null, .int 0, .int 0, .int 0, .int 0, .int 0, .int 0, .int 0, .int 0, .null])), (q_1, .inl (g_2, 220, .inr (.inl f_222))), (q_223, .inl (g_224, 55, .inl f_225))] H := hP
  have hD : va_D A [(o, .inr (4, [.ref q_1, .null, .null, .int 0, .int 0, .int 0, .int 0, .int 0, .null, .null, .int 0, .int 0, .int 0, .int 0, .int 0, .int 0, .int 0, .int 0, .null])), (q_1, .inl (g_2, 220, .inr (.inl f_222))), (q_223, .inl (g_224, 55, .inl f_225))] := hD
  refine lv_dup hx hb d_M_init_1341 rfl ?_
  refine lv_iconst (v := 1) hx hb d_M_init_1342 (by decide) ?_
  refine lv_iconst (v := 2) hx hb d_M_init_1343 (by decide) ?_
  refine va_iastG hx hb hK hP hD hS 2 1 rfl rfl (by unfold vp_in; decide) d_M_init_1344 (fun f_226 H locs hP hD hS => ?_)
  have hP : va_P (dC, dI) cls [(o, .inr (4, [.ref q_1, .null, .null, .int 0, .int 0, .int 0, .int 0, .int 0, .null, .null, .int 0, .int 0, .int 0, .int 0, .int 0, .int 0, .int 0, .int 0, .null])), (q_1, .inl (g_2, 220, .inr (.inl f_222))), (q_223, .inl (g_224, 55, .inl f_226))] H := hP
  have hD : va_D A [(o, .inr (4, [.ref q_1, .null, .null, .int 0, .int 0, .int 0, .int 0, .int 0, .null, .null, .int 0, .int 0, .int 0, .int 0, .int 0, .int 0, .int 0, .int 0, .null])), (q_1, .inl (g_2, 220, .inr (.inl f_222))), (q_223, .inl (g_224, 55, .inl f_226))] := hD
  refine lv_dup hx hb d_M_init_1345 rfl ?_
  refine lv_iconst (v := 2) hx hb d_M_init_1346 (by decide) ?_
  refine lv_iconst (v := 5) hx hb d_M_init_1347 (by decide) ?_
  refine va_iastG hx hb hK hP hD hS 2 1 rfl rfl (by unfold vp_in; decide) d_M_init_1348 (fun f_227 H locs hP hD hS => ?_)
  have hP : va_P (dC, dI) cls [(o, .inr (4, [.ref q_1, .null, .null, .int 0, .int 0, .int 0, .int 0, .int 0, .null, .null, .int 0, .int 0, .int 0, .int 0, .int 0, .int 0, .int 0, .int 0, .null])), (q_1, .inl (g_2, 220, .inr (.inl f_222))), (q_223, .inl (g_224, 55, .inl f_227))] H := hP
  have hD : va_D A [(o, .inr (4, [.ref q_1, .null, .null, .int 0, .int 0, .int 0, .int 0, .int 0, .null, .null, .int 0, .int 0, .int 0, .int 0, .int 0, .int 0, .int 0, .int 0, .null])), (q_1, .inl (g_2, 220, .inr (.inl f_222))), (q_223, .inl (g_224, 55, .inl f_227))] := hD
  refine lv_dup hx hb d_M_init_1349 rfl ?_
  refine lv_iconst (v := 3) hx hb d_M_init_1350 (by decide) ?_
  refine lv_iconst (v := 4) hx hb d_M_init_1351 (by decide) ?_
  refine va_iastG hx hb hK hP hD hS 2 1 rfl rfl (by unfold vp_in; decide) d_M_init_1352 (fun f_228 H locs hP hD hS => ?_)
  have hP : va_P (dC, dI) cls [(o, .inr (4, [.ref q_1, .null, .null, .int 0, .int 0, .int 0, .int 0, .int 0, .null, .null, .int 0, .int 0, .int 0, .int 0, .int 0, .int 0, .int 0, .int 0, .null])), (q_1, .inl (g_2, 220, .inr (.inl f_222))), (q_223, .inl (g_224, 55, .inl f_228))] H := hP
  have hD : va_D A [(o, .inr (4, [.ref q_1, .null, .null, .int 0, .int 0, .int 0, .int 0, .int 0, .null, .null, .int 0, .int 0, .int 0, .int 0, .int 0, .int 0, .int 0, .int 0, .null])), (q_1, .inl (g_2, 220, .inr (.inl f_222))), (q_223, .inl (g_224, 55, .inl f_228))] := hD
  refine lv_dup hx hb d_M_init_1353 rfl ?_
  refine lv_iconst (v := 4) hx hb d_M_init_1354 (by decide) ?_
  refine lv_iconst (v := 4) hx hb d_M_init_1355 (by decide) ?_
  refine va_iastG hx hb hK hP hD hS 2 1 rfl rfl (by unfold vp_in; decide) d_M_init_1356 (fun f_229 H locs hP hD hS => ?_)
  have hP : va_P (dC, dI) cls [(o, .inr (4, [.ref q_1, .null, .null, .int 0, .int 0, .int 0, .int 0, .int 0, .null, .null, .int 0, .int 0, .int 0, .int 0, .int 0, .int 0, .int 0, .int 0, .null])), (q_1, .inl (g_2, 220, .inr (.inl f_222))), (q_223, .inl (g_224, 55, .inl f_229))] H := hP
  have hD : va_D A [(o, .inr (4, [.ref q_1, .null, .null, .int 0, .int 0, .int 0, .int 0, .int 0, .null, .null, .int 0, .int 0, .int 0, .int 0, .int 0, .int 0, .int 0, .int 0, .null])), (q_1, .inl (g_2, 220, .inr (.inl f_222))), (q_223, .inl (g_224, 55, .inl f_229))] := hD
  refine lv_dup hx hb d_M_init_1357 rfl ?_
  refine lv_iconst (v := 5) hx hb d_M_init_1358 (by decide) ?_
  refine lv_bipush (v := 7) hx hb d_M_init_1359 (by decide) ?_
  refine va_iastG hx hb hK hP hD hS 2 1 rfl rfl (by unfold vp_in; decide) d_M_init_1361 (fun f_230 H locs hP hD hS => ?_)
  have hP : va_P (dC, dI) cls [(o, .inr (4, [.ref q_1, .null, .null, .int 0, .int 0, .int 0, .int 0, .int 0, .null, .null, .int 0, .int 0, .int 0, .int 0, .int 0, .int 0, .int 0, .int 0, .null])), (q_1, .inl (g_2, 220, .inr (.inl f_222))), (q_223, .inl (g_224, 55, .inl f_230))] H := hP
  have hD : va_D A [(o, .inr (4, [.ref q_1, .null, .null, .int 0, .int 0, .int 0, .int 0, .int 0, .null, .null, .int 0, .int 0, .int 0, .int 0, .int 0, .int 0, .int 0, .int 0, .null])), (q_1, .inl (g_2, 220, .inr (.inl f_222))), (q_223, .inl (g_224, 55, .inl f_230))] := hD
  refine lv_dup hx hb d_M_init_1362 rfl ?_
  refine lv_bipush (v := 6) hx hb d_M_init_1363 (by decide) ?_
  refine lv_iconst (v := 4) hx hb d_M_init_1365 (by decide) ?_
  refine va_iastG hx hb hK hP hD hS 2 1 rfl rfl (by unfold vp_in; decide) d_M_init_1366 (fun f_231 H locs hP hD hS => ?_)
  have hP : va_P (dC, dI) cls [(o, .inr (4, [.ref q_1, .null, .null, .int 0, .int 0, .int 0, .int 0, .int 0, .null, .null, .int 0, .int 0, .int 0, .int 0, .int 0, .int 0, .int 0, .int 0, .null])), (q_1, .inl (g_2, 220, .inr (.inl f_222))), (q_223, .inl (g_224, 55, .inl f_231))] H := hP
  have hD : va_D A [(o, .inr (4, [.ref q_1, .null, .null, .int 0, .int 0, .int 0, .int 0, .int 0, .null, .null, .int 0, .int 0, .int 0, .int 0, .int 0, .int 0, .int 0, .int 0, .null])), (q_1, .inl (g_2, 220, .inr (.inl f_222))), (q_223, .inl (g_224, 55, .inl f_231))] := hD
  refine lv_dup hx hb d_M_init_1367 rfl ?_
  refine lv_bipush (v := 7) hx hb d_M_init_1368 (by decide) ?_
  refine lv_bipush (v := 8) hx hb d_M_init_1370 (by decide) ?_
  refine va_iastG hx hb hK hP hD hS 2 1 rfl rfl (by unfold vp_in; decide) d_M_init_1372 (fun f_232 H locs hP hD hS => ?_)
  have hP : va_P (dC, dI) cls [(o, .inr (4, [.ref q_1, .null, .null, .int 0, .int 0, .int 0, .int 0, .int 0, .null, .null, .int 0, .int 0, .int 0, .int 0, .int 0, .int 0, .int 0, .int 0, .null])), (q_1, .inl (g_2, 220, .inr (.inl f_222))), (q_223, .inl (g_224, 55, .inl f_232))] H := hP
  have hD : va_D A [(o, .inr (4, [.ref q_1, .null, .null, .int 0, .int 0, .int 0, .int 0, .int 0, .null, .null, .int 0, .int 0, .int 0, .int 0, .int 0, .int 0, .int 0, .int 0, .null])), (q_1, .inl (g_2, 220, .inr (.inl f_222))), (q_223, .inl (g_224, 55, .inl f_232))] := hD
  refine lv_dup hx hb d_M_init_1373 rfl ?_
  refine lv_bipush (v := 8) hx hb d_M_init_1374 (by decide) ?_
  refine lv_bipush (v := 8) hx hb d_M_init_1376 (by decide) ?_
  refine va_iastG hx hb hK hP hD hS 2 1 rfl rfl (by unfold vp_in; decide) d_M_init_1378 (fun f_233 H locs hP hD hS => ?_)
  have hP : va_P (dC, dI) cls [(o, .inr (4, [.ref q_1, .null, .null, .int 0, .int 0, .int 0, .int 0, .int 0, .null, .null, .int 0, .int 0, .int 0, .int 0, .int 0, .int 0, .int 0, .int 0, .null])), (q_1, .inl (g_2, 220, .inr (.inl f_222))), (q_223, .inl (g_224, 55, .inl f_233))] H := hP
  have hD : va_D A [(o, .inr (4, [.ref q_1, .null, .null, .int 0, .int 0, .int 0, .int 0, .int 0, .null, .null, .int 0, .int 0, .int 0, .int 0, .int 0, .int 0, .int 0, .int 0, .null])), (q_1, .inl (g_2, 220, .inr (.inl f_222))), (q_223, .inl (g_224, 55, .inl f_233))] := hD
  refine lv_dup hx hb d_M_init_1379 rfl ?_
  refine lv_bipush (v := 9) hx hb d_M_init_1380 (by decide) ?_
  refine lv_bipush (v := 6) hx hb d_M_init_1382 (by decide) ?_
  refine va_iastG hx hb hK hP hD hS 2 1 rfl rfl (by unfold vp_in; decide) d_M_init_1384 (fun f_234 H locs hP hD hS => ?_)
  have hP : va_P (dC, dI) cls [(o, .inr (4, [.ref q_1, .null, .null, .int 0, .int 0, .int 0, .int 0, .int 0, .null, .null, .int 0, .int 0, .int 0, .int 0, .int 0, .int 0, .int 0, .int 0, .null])), (q_1, .inl (g_2, 220, .inr (.inl f_222))), (q_223, .inl (g_224, 55, .inl f_234))] H := hP
  have hD : va_D A [(o, .inr (4, [.ref q_1, .null, .null, .int 0, .int 0, .int 0, .int 0, .int 0, .null, .null, .int 0, .int 0, .int 0, .int 0, .int 0, .int 0, .int 0, .int 0, .null])), (q_1, .inl (g_2, 220, .inr (.inl f_222))), (q_223, .inl (g_224, 55, .inl f_234))] := hD
  refine lv_dup hx hb d_M_init_1385 rfl ?_
  refine lv_bipush (v := 10) hx hb d_M_init_1386 (by decide) ?_
  refine lv_bipush (v := 7) hx hb d_M_init_1388 (by decide) ?_
  refine va_iastG hx hb hK hP hD hS 2 1 rfl rfl (by unfold vp_in; decide) d_M_init_1390 (fun f_235 H locs hP hD hS => ?_)
  have hP : va_P (dC, dI) cls [(o, .inr (4, [.ref q_1, .null, .null, .int 0, .int 0, .int 0, .int 0, .int 0, .null, .null, .int 0, .int 0, .int 0, .int 0, .int 0, .int 0, .int 0, .int 0, .null])), (q_1, .inl (g_2, 220, .inr (.inl f_222))), (q_223, .inl (g_224, 55, .inl f_235))] H := hP
  have hD : va_D A [(o, .inr (4, [.ref q_1, .null, .null, .int 0, .int 0, .int 0, .int 0, .int 0, .null, .null, .int 0, .int 0, .int 0, .int 0, .int 0, .int 0, .int 0, .int 0, .null])), (q_1, .inl (g_2, 220, .inr (.inl f_222))), (q_223, .inl (g_224, 55, .inl f_235))] := hD
  refine lv_dup hx hb d_M_init_1391 rfl ?_
  refine lv_bipush (v := 11) hx hb d_M_init_1392 (by decide) ?_
  refine lv_bipush (v := 7) hx hb d_M_init_1394 (by decide) ?_
  refine va_iastG hx hb hK hP hD hS 2 1 rfl rfl (by unfold vp_in; decide) d_M_init_1396 (fun f_236 H locs hP hD hS => ?_)
  have hP : va_P (dC, dI) cls [(o, .inr (4, [.ref q_1, .null, .null, .int 0, .int 0, .int 0, .int 0, .int 0, .null, .null, .int 0, .int 0, .int 0, .int 0, .int 0, .int 0, .int 0, .int 0, .null])), (q_1, .inl (g_2, 220, .inr (.inl f_222))), (q_223, .inl (g_224, 55, .inl f_236))] H := hP
  have hD : va_D A [(o, .inr (4, [.ref q_1, .null, .null, .int 0, .int 0, .int 0, .int 0, .int 0, .null, .null, .int 0, .int 0, .int 0, .int 0, .int 0, .int 0, .int 0, .int 0, .null])), (q_1, .inl (g_2, 220, .inr (.inl f_222))), (q_223, .inl (g_224, 55, .inl f_236))] := hD
  refine lv_dup hx hb d_M_init_1397 rfl ?_
  refine lv_bipush (v := 12) hx hb d_M_init_1398 (by decide) ?_
  refine lv_bipush (v := 10) hx hb d_M_init_1400 (by decide) ?_
  refine va_iastG hx hb hK hP hD hS 2 1 rfl rfl (by unfold vp_in; decide) d_M_init_1402 (fun f_237 H locs hP hD hS => ?_)
  have hP : va_P (dC, dI) cls [(o, .inr (4, [.ref q_1, .null, .null, .int 0, .int 0, .int 0, .int 0, .int 0, .null, .null, .int 0, .int 0, .int 0, .int 0, .int 0, .int 0, .int 0, .int 0, .null])), (q_1, .inl (g_2, 220, .inr (.inl f_222))), (q_223, .inl (g_224, 55, .inl f_237))] H := hP
  have hD : va_D A [(o, .inr (4, [.ref q_1, .null, .null, .int 0, .int 0, .int 0, .int 0, .int 0, .null, .null, .int 0, .int 0, .int 0, .int 0, .int 0, .int 0, .int 0, .int 0, .null])), (q_1, .inl (g_2, 220, .inr (.inl f_222))), (q_223, .inl (g_224, 55, .inl f_237))] := hD
  refine lv_dup hx hb d_M_init_1403 rfl ?_
  refine lv_bipush (v := 13) hx hb d_M_init_1404 (by decide) ?_
  refine lv_bipush (v := 8) hx hb d_M_init_1406 (by decide) ?_
  refine va_iastG hx hb hK hP hD hS 2 1 rfl rfl (by unfold vp_in; decide) d_M_init_1408 (fun f_238 H locs hP hD hS => ?_)
  have hP : va_P (dC, dI) cls [(o, .inr (4, [.ref q_1, .null, .null, .int 0, .int 0, .int 0, .int 0, .int 0, .null, .null, .int 0, .int 0, .int 0, .int 0, .int 0, .int 0, .int 0, .int 0, .null])), (q_1, .inl (g_2, 220, .inr (.inl f_222))), (q_223, .inl (g_224, 55, .inl f_238))] H := hP
  have hD : va_D A [(o, .inr (4, [.ref q_1, .null, .null, .int 0, .int 0, .int 0, .int 0, .int 0, .null, .null, .int 0, .int 0, .int 0, .int 0, .int 0, .int 0, .int 0, .int 0, .null])), (q_1, .inl (g_2, 220, .inr (.inl f_222))), (q_223, .inl (g_224, 55, .inl f_238))] := hD
  refine lv_dup hx hb d_M_init_1409 rfl ?_
  refine lv_bipush (v := 14) hx hb d_M_init_1410 (by decide) ?_
  refine lv_bipush (v := 6) hx hb d_M_init_1412 (by decide) ?_
  refine va_iastG hx hb hK hP hD hS 2 1 rfl rfl (by unfold vp_in; decide) d_M_init_1414 (fun f_239 H locs hP hD hS => ?_)
  have hP : va_P (dC, dI) cls [(o, .inr (4, [.ref q_1, .null, .null, .int 0, .int 0, .int 0, .int 0, .int 0, .null, .null, .int 0, .int 0, .int 0, .int 0, .int 0, .int 0, .int 0, .int 0, .null])), (q_1, .inl (g_2, 220, .inr (.inl f_222))), (q_223, .inl (g_224, 55, .inl f_239))] H := hP
  have hD : va_D A [(o, .inr (4, [.ref q_1, .null, .null, .int 0, .int 0, .int 0, .int 0, .int 0, .null, .null, .int 0, .int 0, .int 0, .int 0, .int 0, .int 0, .int 0, .int 0, .null])), (q_1, .inl (g_2, 220, .inr (.inl f_222))), (q_223, .inl (g_224, 55, .inl f_239))] := hD
  refine lv_dup hx hb d_M_init_1415 rfl ?_
  refine lv_bipush (v := 15) hx hb d_M_init_1416 (by decide) ?_
  refine lv_bipush (v := 7) hx hb d_M_init_1418 (by decide) ?_
  refine va_iastG hx hb hK hP hD hS 2 1 rfl rfl (by unfold vp_in; decide) d_M_init_1420 (fun f_240 H locs hP hD hS => ?_)
  have hP : va_P (dC, dI) cls [(o, .inr (4, [.ref q_1, .null, .null, .int 0, .int 0, .int 0, .int 0, .int 0, .null, .null, .int 0, .int 0, .int 0, .int 0, .int 0, .int 0, .int 0, .int 0, .null])), (q_1, .inl (g_2, 220, .inr (.inl f_222))), (q_223, .inl (g_224, 55, .inl f_240))] H := hP
  have hD : va_D A [(o, .inr (4, [.ref q_1, .null, .null, .int 0, .int 0, .int 0, .int 0, .int 0, .null, .null, .int 0, .int 0, .int 0, .int 0, .int 0, .int 0, .int 0, .int 0, .null])), (q_1, .inl (g_2, 220, .inr (.inl f_222))), (q_223, .inl (g_224, 55, .inl f_240))] := hD
  refine lv_dup hx hb d_M_init_1421 rfl ?_
  refine lv_bipush (v := 16) hx hb d_M_init_1422 (by decide) ?_
  refine lv_bipush (v := 8) hx hb d_M_init_1424 (by decide) ?_
  refine va_iastG hx hb hK hP hD hS 2 1 rfl rfl (by unfold vp_in; decide) d_M_init_1426 (fun f_241 H locs hP hD hS => ?_)
  have hP : va_P (dC, dI) cls [(o, .inr (4, [.ref q_1, .null, .null, .int 0, .int 0, .int 0, .int 0, .int 0, .null, .null, .int 0, .int 0, .int 0, .int 0, .int 0, .int 0, .int 0, .int 0, .null])), (q_1, .inl (g_2, 220, .inr (.inl f_222))), (q_223, .inl (g_224, 55, .inl f_241))] H := hP
  have hD : va_D A [(o, .inr (4, [.ref q_1, .null, .null, .int 0, .int 0, .int 0, .int 0, .int 0, .null, .null, .int 0, .int 0, .int 0, .int 0, .int 0, .int 0, .int 0, .int 0, .null])), (q_1, .inl (g_2, 220, .inr (.inl f_222))), (q_223, .inl (g_224, 55, .inl f_241))] := hD
  refine lv_dup hx hb d_M_init_1427 rfl ?_
  refine lv_bipush (v := 17) hx hb d_M_init_1428 (by decide) ?_
  refine lv_bipush (v := 7) hx hb d_M_init_1430 (by decide) ?_
  refine va_iastG hx hb hK hP hD hS 2 1 rfl rfl (by unfold vp_in; decide) d_M_init_1432 (fun f_242 H locs hP hD hS => ?_)
  have hP : va_P (dC, dI) cls [(o, .inr (4, [.ref q_1, .null, .null, .int 0, .int 0, .int 0, .int 0, .int 0, .null, .null, .int 0, .int 0, .int 0, .int 0, .int 0, .int 0, .int 0, .int 0, .null])), (q_1, .inl (g_2, 220, .inr (.inl f_222))), (q_223, .inl (g_224, 55, .inl f_242))] H := hP
  have hD : va_D A [(o, .inr (4, [.ref q_1, .null, .null, .int 0, .int 0, .int 0, .int 0, .int 0, .null, .null, .int 0, .int 0, .int 0, .int 0, .int 0, .int 0, .int 0, .int 0, .null])), (q_1, .inl (g_2, 220, .inr (.inl f_222))), (q_223, .inl (g_224, 55, .inl f_242))] := hD
  refine lv_dup hx hb d_M_init_1433 rfl ?_
  refine lv_bipush (v := 18) hx hb d_M_init_1434 (by decide) ?_
  refine lv_bipush (v := 6) hx hb d_M_init_1436 (by decide) ?_
  refine va_iastG hx hb hK hP hD hS 2 1 rfl rfl (by unfold vp_in; decide) d_M_init_1438 (fun f_243 H locs hP hD hS => ?_)
  have hP : va_P (dC, dI) cls [(o, .inr (4, [.ref q_1, .null, .null, .int 0, .int 0, .int 0, .int 0, .int 0, .null, .null, .int 0, .int 0, .int 0, .int 0, .int 0, .int 0, .int 0, .int 0, .null])), (q_1, .inl (g_2, 220, .inr (.inl f_222))), (q_223, .inl (g_224, 55, .inl f_243))] H := hP
  have hD : va_D A [(o, .inr (4, [.ref q_1, .null, .null, .int 0, .int 0, .int 0, .int 0, .int 0, .null, .null, .int 0, .int 0, .int 0, .int 0, .int 0, .int 0, .int 0, .int 0, .null])), (q_1, .inl (g_2, 220, .inr (.inl f_222))), (q_223, .inl (g_224, 55, .inl f_243))] := hD
  refine lv_dup hx hb d_M_init_1439 rfl ?_
  refine lv_bipush (v := 19) hx hb d_M_init_1440 (by decide) ?_
  refine lv_iconst (v := 4) hx hb d_M_init_1442 (by decide) ?_
  refine va_iastG hx hb hK hP hD hS 2 1 rfl rfl (by unfold vp_in; decide) d_M_init_1443 (fun f_244 H locs hP hD hS => ?_)
  have hP : va_P (dC, dI) cls [(o, .inr (4, [.ref q_1, .null, .null, .int 0, .int 0, .int 0, .int 0, .int 0, .null, .null, .int 0, .int 0, .int 0, .int 0, .int 0, .int 0, .int 0, .int 0, .null])), (q_1, .inl (g_2, 220, .inr (.inl f_222))), (q_223, .inl (g_224, 55, .inl f_244))] H := hP
  have hD : va_D A [(o, .inr (4, [.ref q_1, .null, .null, .int 0, .int 0, .int 0, .int 0, .int 0, .null, .null, .int 0, .int 0, .int 0, .int 0, .int 0, .int 0, .int 0, .int 0, .null])), (q_1, .inl (g_2, 220, .inr (.inl f_222))), (q_223, .inl (g_224, 55, .inl f_244))] := hD
  refine lv_dup hx hb d_M_init_1444 rfl ?_
  refine lv_bipush (v := 20) hx hb d_M_init_1445 (by decide) ?_
  refine lv_iconst (v := 5) hx hb d_M_init_1447 (by decide) ?_
  refine va_iastG hx hb hK hP hD hS 2 1 rfl rfl (by unfold vp_in; decide) d_M_init_1448 (fun f_245 H locs hP hD hS => ?_)
  have hP : va_P (dC, dI) cls [(o, .inr (4, [.ref q_1, .null, .null, .int 0, .int 0, .int 0, .int 0, .int 0, .null, .null, .int 0, .int 0, .int 0, .int 0, .int 0, .int 0, .int 0, .int 0, .null])), (q_1, .inl (g_2, 220, .inr (.inl f_222))), (q_223, .inl (g_224, 55, .inl f_245))] H := hP
  have hD : va_D A [(o, .inr (4, [.ref q_1, .null, .null, .int 0, .int 0, .int 0, .int 0, .int 0, .null, .null, .int 0, .int 0, .int 0, .int 0, .int 0, .int 0, .int 0, .int 0, .null])), (q_1, .inl (g_2, 220, .inr (.inl f_222))), (q_223, .inl (g_224, 55, .inl f_245))] := hD
  refine lv_dup hx hb d_M_init_1449 rfl ?_
  refine lv_bipush (v := 21) hx hb d_M_init_1450 (by decide) ?_
  refine lv_iconst (v := 5) hx hb d_M_init_1452 (by decide) ?_
  refine va_iastG hx hb hK hP hD hS 2 1 rfl rfl (by unfold vp_in; decide) d_M_init_1453 (fun f_246 H locs hP hD hS => ?_)
  have hP : va_P (dC, dI) cls [(o, .inr (4, [.ref q_1, .null, .null, .int 0, .int 0, .int 0, .int 0, .int 0, .null, .null, .int 0, .int 0, .int 0, .int 0, .int 0, .int 0, .int 0, .int 0, .null])), (q_1, .inl (g_2, 220, .inr (.inl f_222))), (q_223, .inl (g_224, 55, .inl f_246))] H := hP
  have hD : va_D A [(o, .inr (4, [.ref q_1, .null, .null, .int 0, .int 0, .int 0, .int 0, .int 0, .null, .null, .int 0, .int 0, .int 0, .int 0, .int 0, .int 0, .int 0, .int 0, .null])), (q_1, .inl (g_2, 220, .inr (.inl f_222))), (q_223, .inl (g_224, 55, .inl f_246))] := hD
  refine lv_dup hx hb d_M_init_1454 rfl ?_
  refine lv_bipush (v := 22) hx hb d_M_init_1455 (by decide) ?_
  refine lv_iconst (v := 3) hx hb d_M_init_1457 (by decide) ?_
  refine va_iastG hx hb hK hP hD hS 2 1 rfl rfl (by unfold vp_in; decide) d_M_init_1458 (fun f_247 H locs hP hD hS => ?_)
  have hP : va_P (dC, dI) cls [(o, .inr (4, [.ref q_1, .null, .null, .int 0, .int 0, .int 0, .int 0, .int 0, .null, .null, .int 0, .int 0, .int 0, .int 0, .int 0, .int 0, .int 0, .int 0, .null])), (q_1, .inl (g_2, 220, .inr (.inl f_222))), (q_223, .inl (g_224, 55, .inl f_247))] H := hP
  have hD : va_D A [(o, .inr (4, [.ref q_1, .null, .null, .int 0, .int 0, .int 0, .int 0, .int 0, .null, .null, .int 0, .int 0, .int 0, .int 0, .int 0, .int 0, .int 0, .int 0, .null])), (q_1, .inl (g_2, 220, .inr (.inl f_222))), (q_223, .inl (g_224, 55, .inl f_247))] := hD
  refine lv_dup hx hb d_M_init_1459 rfl ?_
  refine lv_bipush (v := 23) hx hb d_M_init_1460 (by decide) ?_
  refine lv_iconst (v := 4) hx hb d_M_init_1462 (by decide) ?_
  refine va_iastG hx hb hK hP hD hS 2 1 rfl rfl (by unfold vp_in; decide) d_M_init_1463 (fun f_248 H locs hP hD hS => ?_)
  have hP : va_P (dC, dI) cls [(o, .inr (4, [.ref q_1, .null, .null, .int 0, .int 0, .int 0, .int 0, .int 0, .null, .null, .int 0, .int 0, .int 0, .int 0, .int 0, .int 0, .int 0, .int 0, .null])), (q_1, .inl (g_2, 220, .inr (.inl f_222))), (q_223, .inl (g_224, 55, .inl f_248))] H := hP
  have hD : va_D A [(o, .inr (4, [.ref q_1, .null, .null, .int 0, .int 0, .int 0, .int 0, .int 0, .null, .null, .int 0, .int 0, .int 0, .int 0, .int 0, .int 0, .int 0, .int 0, .null])), (q_1, .inl (g_2, 220, .inr (.inl f_222))), (q_223, .inl (g_224, 55, .inl f_248))] := hD
  refine lv_dup hx hb d_M_init_1464 rfl ?_
  refine lv_bipush (v := 24) hx hb d_M_init_1465 (by decide) ?_
  refine lv_iconst (v := 5) hx hb d_M_init_1467 (by decide) ?_
  refine va_iastG hx hb hK hP hD hS 2 1 rfl rfl (by unfold vp_in; decide) d_M_init_1468 (fun f_249 H locs hP hD hS => ?_)
  have hP : va_P (dC, dI) cls [(o, .inr (4, [.ref q_1, .null, .null, .int 0, .int 0, .int 0, .int 0, .int 0, .null, .null, .int 0, .int 0, .int 0, .int 0, .int 0, .int 0, .int 0, .int 0, .null])), (q_1, .inl (g_2, 220, .inr (.inl f_222))), (q_223, .inl (g_224, 55, .inl f_249))] H := hP
  have hD : va_D A [(o, .inr (4, [.ref q_1, .null, .null, .int 0, .int 0, .int 0, .int 0, .int 0, .null, .null, .int 0, .int 0, .int 0, .int 0, .int 0, .int 0, .int 0, .int 0, .null])), (q_1, .inl (g_2, 220, .inr (.inl f_222))), (q_223, .inl (g_224, 55, .inl f_249))] := hD
  refine lv_dup hx hb d_M_init_1469 rfl ?_
  refine lv_bipush (v := 25) hx hb d_M_init_1470 (by decide) ?_
  refine lv_iconst (v := 5) hx hb d_M_init_1472 (by decide) ?_
  refine va_iastG hx hb hK hP hD hS 2 1 rfl rfl (by unfold vp_in; decide) d_M_init_1473 (fun f_250 H locs hP hD hS => ?_)
  have hP : va_P (dC, dI) cls [(o, .inr (4, [.ref q_1, .null, .null, .int 0, .int 0, .int 0, .int 0, .int 0, .null, .null, .int 0, .int 0, .int 0, .int 0, .int 0, .int 0, .int 0, .int 0, .null])), (q_1, .inl (g_2, 220, .inr (.inl f_222))), (q_223, .inl (g_224, 55, .inl f_250))] H := hP
  have hD : va_D A [(o, .inr (4, [.ref q_1, .null, .null, .int 0, .int 0, .int 0, .int 0, .int 0, .null, .null, .int 0, .int 0, .int 0, .int 0, .int 0, .int 0, .int 0, .int 0, .null])), (q_1, .inl (g_2, 220, .inr (.inl f_222))), (q_223, .inl (g_224, 55, .inl f_250))] := hD
  refine lv_dup hx hb d_M_init_1474 rfl ?_
  refine lv_bipush (v := 26) hx hb d_M_init_1475 (by decide) ?_
  refine lv_iconst (v := 4) hx hb d_M_init_1477 (by decide) ?_
  refine va_iastG hx hb hK hP hD hS 2 1 rfl rfl (by unfold vp_in; decide) d_M_init_1478 (fun f_251 H locs hP hD hS => ?_)
  have hP : va_P (dC, dI) cls [(o, .inr (4, [.ref q_1, .null, .null, .int 0, .int 0, .int 0, .int 0, .int 0, .null, .null, .int 0, .int 0, .int 0, .int 0, .int 0, .int 0, .int 0, .int 0, .null])), (q_1, .inl (g_2, 220, .inr (.inl f_222))), (q_223, .inl (g_224, 55, .inl f_251))] H := hP
  have hD : va_D A [(o, .inr (4, [.ref q_1, .null, .null, .int 0, .int 0, .int 0, .int 0, .int 0, .null, .null, .int 0, .int 0, .int 0, .int 0, .int 0, .int 0, .int 0, .int 0, .null])), (q_1, .inl (g_2, 220, .inr (.inl f_222))), (q_223, .inl (g_224, 55, .inl f_251))] := hD
  refine lv_dup hx hb d_M_init_1479 rfl ?_
  refine lv_bipush (v := 27) hx hb d_M_init_1480 (by decide) ?_
  refine lv_iconst (v := 4) hx hb d_M_init_1482 (by decide) ?_
  refine va_iastG hx hb hK hP hD hS 2 1 rfl rfl (by unfold vp_in; decide) d_M_init_1483 (fun f_252 H locs hP hD hS => ?_)
  have hP : va_P (dC, dI) cls [(o, .inr (4, [.ref q_1, .null, .null, .int 0, .int 0, .int 0, .int 0, .int 0, .null, .null, .int 0, .int 0, .int 0, .int 0, .int 0, .int 0, .int 0, .int 0, .null])), (q_1, .inl (g_2, 220, .inr (.inl f_222))), (q_223, .inl (g_224, 55, .inl f_252))] H := hP
  have hD : va_D A [(o, .inr (4, [.ref q_1, .null, .null, .int 0, .int 0, .int 0, .int 0, .int 0, .null, .null, .int 0, .int 0, .int 0, .int 0, .int 0, .int 0, .int 0, .int 0, .null])), (q_1, .inl (g_2, 220, .inr (.inl f_222))), (q_223, .inl (g_224, 55, .inl f_252))] := hD
  refine lv_dup hx hb d_M_init_1484 rfl ?_
  refine lv_bipush (v := 28) hx hb d_M_init_1485 (by decide) ?_
  refine lv_bipush (v := 7) hx hb d_M_init_1487 (by decide) ?_
  refine va_iastG hx hb hK hP hD hS 2 1 rfl rfl (by unfold vp_in; decide) d_M_init_1489 (fun f_253 H locs hP hD hS => ?_)
  have hP : va_P (dC, dI) cls [(o, .inr (4, [.ref q_1, .null, .null, .int 0, .int 0, .int 0, .int 0, .int 0, .null, .null, .int 0, .int 0, .int 0, .int 0, .int 0, .int 0, .int 0, .int 0, .null])), (q_1, .inl (g_2, 220, .inr (.inl f_222))), (q_223, .inl (g_224, 55, .inl f_253))] H := hP
  have hD : va_D A [(o, .inr (4, [.ref q_1, .null, .null, .int 0, .int 0, .int 0, .int 0, .int 0, .null, .null, .int 0, .int 0, .int 0, .int 0, .int 0, .int 0, .int 0, .int 0, .null])), (q_1, .inl (g_2, 220, .inr (.inl f_222))), (q_223, .inl (g_224, 55, .inl f_253))] := hD
  refine lv_dup hx hb d_M_init_1490 rfl ?_
  refine lv_bipush (v := 29) hx hb d_M_init_1491 (by decide) ?_
  refine lv_bipush (v := 9) hx hb d_M_init_1493 (by decide) ?_
  refine va_iastG hx hb hK hP hD hS 2 1 rfl rfl (by unfold vp_in; decide) d_M_init_1495 (fun f_254 H locs hP hD hS => ?_)
  have hP : va_P (dC, dI) cls [(o, .inr (4, [.ref q_1, .null, .null, .int 0, .int 0, .int 0, .int 0, .int 0, .null, .null, .int 0, .int 0, .int 0, .int 0, .int 0, .int 0, .int 0, .int 0, .null])), (q_1, .inl (g_2, 220, .inr (.inl f_222))), (q_223, .inl (g_224, 55, .inl f_254))] H := hP
  have hD : va_D A [(o, .inr (4, [.ref q_1, .null, .null, .int 0, .int 0, .int 0, .int 0, .int 0, .null, .null, .int 0, .int 0, .int 0, .int 0, .int 0, .int 0, .int 0, .int 0, .null])), (q_1, .inl (g_2, 220, .inr (.inl f_222))), (q_223, .inl (g_224, 55, .inl f_254))] := hD
  refine lv_dup hx hb d_M_init_1496 rfl ?_
  refine lv_bipush (v := 30) hx hb d_M_init_1497 (by decide) ?_
  refine lv_bipush (v := 6) hx hb d_M_init_1499 (by decide) ?_
  refine va_iastG hx hb hK hP hD hS 2 1 rfl rfl (by unfold vp_in; decide) d_M_init_1501 (fun f_255 H locs hP hD hS => ?_)
  have hP : va_P (dC, dI) cls [(o, .inr (4, [.ref q_1, .null, .null, .int 0, .int 0, .int 0, .int 0, .int 0, .null, .null, .int 0, .int 0, .int 0, .int 0, .int 0, .int 0, .int 0, .int 0, .null])), (q_1, .inl (g_2, 220, .inr (.inl f_222))), (q_223, .inl (g_224, 55, .inl f_255))] H := hP
  have hD : va_D A [(o, .inr (4, [.ref q_1, .null, .null, .int 0, .int 0, .int 0, .int 0, .int 0, .null, .null, .int 0, .int 0, .int 0, .int 0, .int 0, .int 0, .int 0, .int 0, .null])), (q_1, .inl (g_2, 220, .inr (.inl f_222))), (q_223, .inl (g_224, 55, .inl f_255))] := hD
  refine lv_dup hx hb d_M_init_1502 rfl ?_
  refine lv_bipush (v := 31) hx hb d_M_init_1503 (by decide) ?_
  refine lv_iconst (v := 4) hx hb d_M_init_1505 (by decide) ?_
  refine va_iastG hx hb hK hP hD hS 2 1 rfl rfl (by unfold vp_in; decide) d_M_init_1506 (fun f_256 H locs hP hD hS => ?_)
  have hP : va_P (dC, dI) cls [(o, .inr (4, [.ref q_1, .null, .null, .int 0, .int 0, .int 0, .int 0, .int 0, .null, .null, .int 0, .int 0, .int 0, .int 0, .int 0, .int 0, .int 0, .int 0, .null])), (q_1, .inl (g_2, 220, .inr (.inl f_222))), (q_223, .inl (g_224, 55, .inl f_256))] H := hP
  have hD : va_D A [(o, .inr (4, [.ref q_1, .null, .null, .int 0, .int 0, .int 0, .int 0, .int 0, .null, .null, .int 0, .int 0, .int 0, .int 0, .int 0, .int 0, .int 0, .int 0, .null])), (q_1, .inl (g_2, 220, .inr (.inl f_222))), (q_223, .inl (g_224, 55, .inl f_256))] := hD
  refine lv_dup hx hb d_M_init_1507 rfl ?_
  refine lv_bipush (v := 32) hx hb d_M_init_1508 (by decide) ?_
  refine lv_iconst (v := 5) hx hb d_M_init_1510 (by decide) ?_
  refine va_iastG hx hb hK hP hD hS 2 1 rfl rfl (by unfold vp_in; decide) d_M_init_1511 (fun f_257 H locs hP hD hS => ?_)
  have hP : va_P (dC, dI) cls [(o, .inr (4, [.ref q_1, .null, .null, .int 0, .int 0, .int 0, .int 0, .int 0, .null, .null, .int 0, .int 0, .int 0, .int 0, .int 0, .int 0, .int 0, .int 0, .null])), (q_1, .inl (g_2, 220, .inr (.inl f_222))), (q_223, .inl (g_224, 55, .inl f_257))] H := hP
  have hD : va_D A [(o, .inr (4, [.ref q_1, .null, .null, .int 0, .int 0, .int 0, .int 0, .int 0, .null, .null, .int 0, .int 0, .int 0, .int 0, .int 0, .int 0, .int 0, .int 0, .null])), (q_1, .inl (g_2, 220, .inr (.inl f_222))), (q_223, .inl (g_224, 55, .inl f_257))] := hD
  refine lv_dup hx hb d_M_init_1512 rfl ?_
  refine lv_bipush (v := 33) hx hb d_M_init_1513 (by decide) ?_
  refine lv_iconst (v := 2) hx hb d_M_init_1515 (by decide) ?_
  refine va_iastG hx hb hK hP hD hS 2 1 rfl rfl (by unfold vp_in; decide) d_M_init_1516 (fun f_258 H locs hP hD hS => ?_)
  have hP : va_P (dC, dI) cls [(o, .inr (4, [.ref q_1, .null, .null, .int 0, .int 0, .int 0, .int 0, .int 0, .null, .null, .int 0, .int 0, .int 0, .int 0, .int 0, .int 0, .int 0, .int 0, .null])), (q_1, .inl (g_2, 220, .inr (.inl f_222))), (q_223, .inl (g_224, 55, .inl f_258))] H := hP
  have hD : va_D A [(o, .inr (4, [.ref q_1, .null, .null, .int 0, .int 0, .int 0, .int 0, .int 0, .null, .null, .int 0, .int 0, .int 0, .int 0, .int 0, .int 0, .int 0, .int 0, .null])), (q_1, .inl (g_2, 220, .inr (.inl f_222))), (q_223, .inl (g_224, 55, .inl f_258))] := hD
  refine lv_dup hx hb d_M_init_1517 rfl ?_
  refine lv_bipush (v := 34) hx hb d_M_init_1518 (by decide) ?_
  refine lv_bipush (v := 8) hx hb d_M_init_1520 (by decide) ?_
  refine va_iastG hx hb hK hP hD hS 2 1 rfl rfl (by unfold vp_in; decide) d_M_init_1522 (fun f_259 H locs hP hD hS => ?_)
  have hP : va_P (dC, dI) cls [(o, .inr (4, [.ref q_1, .null, .null, .int 0, .int 0, .int 0, .int 0, .int 0, .null, .null, .int 0, .int 0, .int 0, .int 0, .int 0, .int 0, .int 0, .int 0, .null])), (q_1, .inl (g_2, 220, .inr (.inl f_222))), (q_223, .inl (g_224, 55, .inl f_259))] H := hP
  have hD : va_D A [(o, .inr (4, [.ref q_1, .null, .null, .int 0, .int 0, .int 0, .int 0, .int 0, .null, .null, .int 0, .int 0, .int 0, .int 0, .int 0, .int 0, .int 0, .int 0, .null])), (q_1, .inl (g_2, 220, .inr (.inl f_222))), (q_223, .inl (g_224, 55, .inl f_259))] := hD
  refine lv_dup hx hb d_M_init_1523 rfl ?_
  refine lv_bipush (v := 35) hx hb d_M_init_1524 (by decide) ?_
  refine lv_bipush (v := 7) hx hb d_M_init_1526 (by decide) ?_
  refine va_iastG hx hb hK hP hD hS 2 1 rfl rfl (by unfold vp_in; decide) d_M_init_1528 (fun f_260 H locs hP hD hS => ?_)
  have hP : va_P (dC, dI) cls [(o, .inr (4, [.ref q_1, .null, .null, .int 0, .int 0, .int 0, .int 0, .int 0, .null, .null, .int 0, .int 0, .int 0, .int 0, .int 0, .int 0, .int 0, .int 0, .null])), (q_1, .inl (g_2, 220, .inr (.inl f_222))), (q_223, .inl (g_224, 55, .inl f_260))] H := hP
  have hD : va_D A [(o, .inr (4, [.ref q_1, .null, .null, .int 0, .int 0, .int 0, .int 0, .int 0, .null, .null, .int 0, .int 0, .int 0, .int 0, .int 0, .int 0, .int 0, .int 0, .null])), (q_1, .inl (g_2, 220, .inr (.inl f_222))), (q_223, .inl (g_224, 55, .inl f_260))] := hD
  refine lv_dup hx hb d_M_init_1529 rfl ?_
  refine lv_bipush (v := 36) hx hb d_M_init_1530 (by decide) ?_
  refine lv_iconst (v := 5) hx hb d_M_init_1532 (by decide) ?_
  refine va_iastG hx hb hK hP hD hS 2 1 rfl rfl (by unfold vp_in; decide) d_M_init_1533 (fun f_261 H locs hP hD hS => ?_)
  have hP : va_P (dC, dI) cls [(o, .inr (4, [.ref q_1, .null, .null, .int 0, .int 0, .int 0, .int 0, .int 0, .null, .null, .int 0, .int 0, .int 0, .int 0, .int 0, .int 0, .int 0, .int 0, .null])), (q_1, .inl (g_2, 220, .inr (.inl f_222))), (q_223, .inl (g_224, 55, .inl f_261))] H := hP
  have hD : va_D A [(o, .inr (4, [.ref q_1, .null, .null, .int 0, .int 0, .int 0, .int 0, .int 0, .null, .null, .int 0, .int 0, .int 0, .int 0, .int 0, .int 0, .int 0, .int 0, .null])), (q_1, .inl (g_2, 220, .inr (.inl f_222))), (q_223, .inl (g_224, 55, .inl f_261))] := hD
  refine lv_dup hx hb d_M_init_1534 rfl ?_
  refine lv_bipush (v := 37) hx hb d_M_init_1535 (by decide) ?_
  refine lv_iconst (v := 5) hx hb d_M_init_1537 (by decide) ?_
  refine va_iastG hx hb hK hP hD hS 2 1 rfl rfl (by unfold vp_in; decide) d_M_init_1538 (fun f_262 H locs hP hD hS => ?_)
  have hP : va_P (dC, dI) cls [(o, .inr (4, [.ref q_1, .null, .null, .int 0, .int 0, .int 0, .int 0, .int 0, .null, .null, .int 0, .int 0, .int 0, .int 0, .int 0, .int 0, .int 0, .int 0, .null])), (q_1, .inl (g_2, 220, .inr (.inl f_222))), (q_223, .inl (g_224, 55, .inl f_262))] H := hP
  have hD : va_D A [(o, .inr (4, [.ref q_1, .null, .null, .int 0, .int 0, .int 0, .int 0, .int 0, .null, .null, .int 0, .int 0, .int 0, .int 0, .int 0, .int 0, .int 0, .int 0, .null])), (q_1, .inl (g_2, 220, .inr (.inl f_222))), (q_223, .inl (g_224, 55, .inl f_262))] := hD
  refine lv_dup hx hb d_M_init_1539 rfl ?_
  refine lv_bipush (v := 38) hx hb d_M_init_1540 (by decide) ?_
  refine lv_bipush (v := 10) hx hb d_M_init_1542 (by decide) ?_
  refine va_iastG hx hb hK hP hD hS 2 1 rfl rfl (by unfold vp_in; decide) d_M_init_1544 (fun f_263 H locs hP hD hS => ?_)
  have hP : va_P (dC, dI) cls [(o, .inr (4, [.ref q_1, .null, .null, .int 0, .int 0, .int 0, .int 0, .int 0, .null, .null, .int 0, .int 0, .int 0, .int 0, .int 0, .int 0, .int 0, .int 0, .null])), (q_1, .inl (g_2, 220, .inr (.inl f_222))), (q_223, .inl (g_224, 55, .inl f_263))] H := hP
  have hD : va_D A [(o, .inr (4, [.ref q_1, .null, .null, .int 0, .int 0, .int 0, .int 0, .int 0, .null, .null, .int 0, .int 0, .int 0, .int 0, .int 0, .int 0, .int 0, .int 0, .null])), (q_1, .inl (g_2, 220, .inr (.inl f_222))), (q_223, .inl (g_224, 55, .inl f_263))] := hD
  refine lv_dup hx hb d_M_init_1545 rfl ?_
  refine lv_bipush (v := 39) hx hb d_M_init_1546 (by decide) ?_
  refine lv_iconst (v := 3) hx hb d_M_init_1548 (by decide) ?_
  refine va_iastG hx hb hK hP hD hS 2 1 rfl rfl (by unfold vp_in; decide) d_M_init_1549 (fun f_264 H locs hP hD hS => ?_)
  have hP : va_P (dC, dI) cls [(o, .inr (4, [.ref q_1, .null, .null, .int 0, .int 0, .int 0, .int 0, .int 0, .null, .null, .int 0, .int 0, .int 0, .int 0, .int 0, .int 0, .int 0, .int 0, .null])), (q_1, .inl (g_2, 220, .inr (.inl f_222))), (q_223, .inl (g_224, 55, .inl f_264))] H := hP
  have hD : va_D A [(o, .inr (4, [.ref q_1, .null, .null, .int 0, .int 0, .int 0, .int 0, .int 0, .null, .null, .int 0, .int 0, .int 0, .int 0, .int 0, .int 0, .int 0, .int 0, .null])), (q_1, .inl (g_2, 220, .inr (.inl f_222))), (q_223, .inl (g_224, 55, .inl f_264))] := hD
  refine lv_dup hx hb d_M_init_1550 rfl ?_
  refine lv_bipush (v := 40) hx hb d_M_init_1551 (by decide) ?_
  refine lv_bipush (v := 9) hx hb d_M_init_1553 (by decide) ?_
  refine va_iastG hx hb hK hP hD hS 2 1 rfl rfl (by unfold vp_in; decide) d_M_init_1555 (fun f_265 H locs hP hD hS => ?_)
  have hP : va_P (dC, dI) cls [(o, .inr (4, [.ref q_1, .null, .null, .int 0, .int 0, .int 0, .int 0, .int 0, .null, .null, .int 0, .int 0, .int 0, .int 0, .int 0, .int 0, .int 0, .int 0, .null])), (q_1, .inl (g_2, 220, .inr (.inl f_222))), (q_223, .inl (g_224, 55, .inl f_265))] H := hP
  have hD : va_D A [(o, .inr (4, [.ref q_1, .null, .null, .int 0, .int 0, .int 0, .int 0, .int 0, .null, .null, .int 0, .int 0, .int 0, .int 0, .int 0, .int 0, .int 0, .int 0, .null])), (q_1, .inl (g_2, 220, .inr (.inl f_222))), (q_223, .inl (g_224, 55, .inl f_265))] := hD
  refine lv_dup hx hb d_M_init_1556 rfl ?_
  refine lv_bipush (v := 41) hx hb d_M_init_1557 (by decide) ?_
  refine lv_bipush (v := 6) hx hb d_M_init_1559 (by decide) ?_
  refine va_iastG hx hb hK hP hD hS 2 1 rfl rfl (by unfold vp_in; decide) d_M_init_1561 (fun f_266 H locs hP hD hS => ?_)
  have hP : va_P (dC, dI) cls [(o, .inr (4, [.ref q_1, .null, .null, .int 0, .int 0, .int 0, .int 0, .int 0, .null, .null, .int 0, .int 0, .int 0, .int 0, .int 0, .int 0, .int 0, .int 0, .null])), (q_1, .inl (g_2, 220, .inr (.inl f_222))), (q_223, .inl (g_224, 55, .inl f_266))] H := hP
  have hD : va_D A [(o, .inr (4, [.ref q_1, .null, .null, .int 0, .int 0, .int 0, .int 0, .int 0, .null, .null, .int 0, .int 0, .int 0, .int 0, .int 0, .int 0, .int 0, .int 0, .null])), (q_1, .inl (g_2, 220, .inr (.inl f_222))), (q_223, .inl (g_224, 55, .inl f_266))] := hD
  refine lv_dup hx hb d_M_init_1562 rfl ?_
  refine lv_bipush (v := 42) hx hb d_M_init_1563 (by decide) ?_
  refine lv_iconst (v := 2) hx hb d_M_init_1565 (by decide) ?_
  refine va_iastG hx hb hK hP hD hS 2 1 rfl rfl (by unfold vp_in; decide) d_M_init_1566 (fun f_267 H locs hP hD hS => ?_)
  have hP : va_P (dC, dI) cls [(o, .inr (4, [.ref q_1, .null, .null, .int 0, .int 0, .int 0, .int 0, .int 0, .null, .null, .int 0, .int 0, .int 0, .int 0, .int 0, .int 0, .int 0, .int 0, .null])), (q_1, .inl (g_2, 220, .inr (.inl f_222))), (q_223, .inl (g_224, 55, .inl f_267))] H := hP
  have hD : va_D A [(o, .inr (4, [.ref q_1, .null, .null, .int 0, .int 0, .int 0, .int 0, .int 0, .null, .null, .int 0, .int 0, .int 0, .int 0, .int 0, .int 0, .int 0, .int 0, .null])), (q_1, .inl (g_2, 220, .inr (.inl f_222))), (q_223, .inl (g_224, 55, .inl f_267))] := hD
  refine lv_dup hx hb d_M_init_1567 rfl ?_
  refine lv_bipush (v := 43) hx hb d_M_init_1568 (by decide) ?_
  refine lv_iconst (v := 2) hx hb d_M_init_1570 (by decide) ?_
  refine va_iastG hx hb hK hP hD hS 2 1 rfl rfl (by unfold vp_in; decide) d_M_init_1571 (fun f_268 H locs hP hD hS => ?_)
  have hP : va_P (dC, dI) cls [(o, .inr (4, [.ref q_1, .null, .null, .int 0, .int 0, .int 0, .int 0, .int 0, .null, .null, .int 0, .int 0, .int 0, .int 0, .int 0, .int 0, .int 0, .int 0, .null])), (q_1, .inl (g_2, 220, .inr (.inl f_222))), (q_223, .inl (g_224, 55, .inl f_268))] H := hP
  have hD : va_D A [(o, .inr (4, [.ref q_1, .null, .null, .int 0, .int 0, .int 0, .int 0, .int 0, .null, .null, .int 0, .int 0, .int 0, .int 0, .int 0, .int 0, .int 0, .int 0, .null])), (q_1, .inl (g_2, 220, .inr (.inl f_222))), (q_223, .inl (g_224, 55, .inl f_268))] := hD
  refine lv_dup hx hb d_M_init_1572 rfl ?_
  refine lv_bipush (v := 44) hx hb d_M_init_1573 (by decide) ?_
  refine lv_iconst (v := 2) hx hb d_M_init_1575 (by decide) ?_
  refine va_iastG hx hb hK hP hD hS 2 1 rfl rfl (by unfold vp_in; decide) d_M_init_1576 (fun f_269 H locs hP hD hS => ?_)
  have hP : va_P (dC, dI) cls [(o, .inr (4, [.ref q_1, .null, .null, .int 0, .int 0, .int 0, .int 0, .int 0, .null, .null, .int 0, .int 0, .int 0, .int 0, .int 0, .int 0, .int 0, .int 0, .null])), (q_1, .inl (g_2, 220, .inr (.inl f_222))), (q_223, .inl (g_224, 55, .inl f_269))] H := hP
  have hD : va_D A [(o, .inr (4, [.ref q_1, .null, .null, .int 0, .int 0, .int 0, .int 0, .int 0, .null, .null, .int 0, .int 0, .int 0, .int 0, .int 0, .int 0, .int 0, .int 0, .null])), (q_1, .inl (g_2, 220, .inr (.inl f_222))), (q_223, .inl (g_224, 55, .inl f_269))] := hD
  refine lv_dup hx hb d_M_init_1577 rfl ?_
  refine lv_bipush (v := 45) hx hb d_M_init_1578 (by decide) ?_
  refine lv_iconst (v := 2) hx hb d_M_init_1580 (by decide) ?_
  refine va_iastG hx hb hK hP hD hS 2 1 rfl rfl (by unfold vp_in; decide) d_M_init_1581 (fun f_270 H locs hP hD hS => ?_)
  have hP : va_P (dC, dI) cls [(o, .inr (4, [.ref q_1, .null, .null, .int 0, .int 0, .int 0, .int 0, .int 0, .null, .null, .int 0, .int 0, .int 0, .int 0, .int 0, .int 0, .int 0, .int 0, .null])), (q_1, .inl (g_2, 220, .inr (.inl f_222))), (q_223, .inl (g_224, 55, .inl f_270))] H := hP
  have hD : va_D A [(o, .inr (4, [.ref q_1, .null, .null, .int 0, .int 0, .int 0, .int 0, .int 0, .null, .null, .int 0, .int 0, .int 0, .int 0, .int 0, .int 0, .int 0, .int 0, .null])), (q_1, .inl (g_2, 220, .inr (.inl f_222))), (q_223, .inl (g_224, 55, .inl f_270))] := hD
  refine lv_dup hx hb d_M_init_1582 rfl ?_
  refine lv_bipush (v := 46) hx hb d_M_init_1583 (by decide) ?_
  refine lv_iconst (v := 2) hx hb d_M_init_1585 (by decide) ?_
  refine va_iastG hx hb hK hP hD hS 2 1 rfl rfl (by unfold vp_in; decide) d_M_init_1586 (fun f_271 H locs hP hD hS => ?_)
  have hP : va_P (dC, dI) cls [(o, .inr (4, [.ref q_1, .null, .null, .int 0, .int 0, .int 0, .int 0, .int 0, .null, .null, .int 0, .int 0, .int 0, .int 0, .int 0, .int 0, .int 0, .int 0, .null])), (q_1, .inl (g_2, 220, .inr (.inl f_222))), (q_223, .inl (g_224, 55, .inl f_271))] H := hP
  have hD : va_D A [(o, .inr (4, [.ref q_1, .null, .null, .int 0, .int 0, .int 0, .int 0, .int 0, .null, .null, .int 0, .int 0, .int 0, .int 0, .int 0, .int 0, .int 0, .int 0, .null])), (q_1, .inl (g_2, 220, .inr (.inl f_222))), (q_223, .inl (g_224, 55, .inl f_271))] := hD
  refine lv_dup hx hb d_M_init_1587 rfl ?_
  refine lv_bipush (v := 47) hx hb d_M_init_1588 (by decide) ?_
  refine lv_iconst (v := 2) hx hb d_M_init_1590 (by decide) ?_
  refine va_iastG hx hb hK hP hD hS 2 1 rfl rfl (by unfold vp_in; decide) d_M_init_1591 (fun f_272 H locs hP hD hS => ?_)
  have hP : va_P (dC, dI) cls [(o, .inr (4, [.ref q_1, .null, .null, .int 0, .int 0, .int 0, .int 0, .int 0, .null, .null, .int 0, .int 0, .int 0, .int 0, .int 0, .int 0, .int 0, .int 0, .null])), (q_1, .inl (g_2, 220, .inr (.inl f_222))), (q_223, .inl (g_224, 55, .inl f_272))] H := hP
  have hD : va_D A [(o, .inr (4, [.ref q_1, .null, .null, .int 0, .int 0, .int 0, .int 0, .int 0, .null, .null, .int 0, .int 0, .int 0, .int 0, .int 0, .int 0, .int 0, .int 0, .null])), (q_1, .inl (g_2, 220, .inr (.inl f_222))), (q_223, .inl (g_224, 55, .inl f_272))] := hD
  refine lv_dup hx hb d_M_init_1592 rfl ?_
  refine lv_bipush (v := 48) hx hb d_M_init_1593 (by decide) ?_
  refine lv_bipush (v := 7) hx hb d_M_init_1595 (by decide) ?_
  refine va_iastG hx hb hK hP hD hS 2 1 rfl rfl (by unfold vp_in; decide) d_M_init_1597 (fun f_273 H locs hP hD hS => ?_)
  have hP : va_P (dC, dI) cls [(o, .inr (4, [.ref q_1, .null, .null, .int 0, .int 0, .int 0, .int 0, .int 0, .null, .null, .int 0, .int 0, .int 0, .int 0, .int 0, .int 0, .int 0, .int 0, .null])), (q_1, .inl (g_2, 220, .inr (.inl f_222))), (q_223, .inl (g_224, 55, .inl f_273))] H := hP
  have hD : va_D A [(o, .inr (4, [.ref q_1, .null, .null, .int 0, .int 0, .int 0, .int 0, .int 0, .null, .null, .int 0, .int 0, .int 0, .int 0, .int 0, .int 0, .int 0, .int 0, .null])), (q_1, .inl (g_2, 220, .inr (.inl f_222))), (q_223, .inl (g_224, 55, .inl f_273))] := hD
  refine lv_dup hx hb d_M_init_1598 rfl ?_
  refine lv_bipush (v := 49) hx hb d_M_init_1599 (by decide) ?_
  refine lv_bipush (v := 15) hx hb d_M_init_1601 (by decide) ?_
  refine va_iastG hx hb hK hP hD hS 2 1 rfl rfl (by unfold vp_in; decide) d_M_init_1603 (fun f_274 H locs hP hD hS => ?_)
  have hP : va_P (dC, dI) cls [(o, .inr (4, [.ref q_1, .null, .null, .int 0, .int 0, .int 0, .int 0, .int 0, .null, .null, .int 0, .int 0, .int 0, .int 0, .int 0, .int 0, .int 0, .int 0, .null])), (q_1, .inl (g_2, 220, .inr (.inl f_222))), (q_223, .inl (g_224, 55, .inl f_274))] H := hP
  have hD : va_D A [(o, .inr (4, [.ref q_1, .null, .null, .int 0, .int 0, .int 0, .int 0, .int 0, .null, .null, .int 0, .int 0, .int 0, .int 0, .int 0, .int 0, .int 0, .int 0, .null])), (q_1, .inl (g_2, 220, .inr (.inl f_222))), (q_223, .inl (g_224, 55, .inl f_274))] := hD
  refine lv_dup hx hb d_M_init_1604 rfl ?_
  refine lv_bipush (v := 50) hx hb d_M_init_1605 (by decide) ?_
  refine lv_bipush (v := 15) hx hb d_M_init_1607 (by decide) ?_
  refine va_iastG hx hb hK hP hD hS 2 1 rfl rfl (by unfold vp_in; decide) d_M_init_1609 (fun f_275 H locs hP hD hS => ?_)
  have hP : va_P (dC, dI) cls [(o, .inr (4, [.ref q_1, .null, .null, .int 0, .int 0, .int 0, .int 0, .int 0, .null, .null, .int 0, .int 0, .int 0, .int 0, .int 0, .int 0, .int 0, .int 0, .null])), (q_1, .inl (g_2, 220, .inr (.inl f_222))), (q_223, .inl (g_224, 55, .inl f_275))] H := hP
  have hD : va_D A [(o, .inr (4, [.ref q_1, .null, .null, .int 0, .int 0, .int 0, .int 0, .int 0, .null, .null, .int 0, .int 0, .int 0, .int 0, .int 0, .int 0, .int 0, .int 0, .null])), (q_1, .inl (g_2, 220, .inr (.inl f_222))), (q_223, .inl (g_224, 55, .inl f_275))] := hD
  refine lv_dup hx hb d_M_init_1610 rfl ?_
  refine lv_bipush (v := 51) hx hb d_M_init_1611 (by decide) ?_
  refine lv_bipush (v := 10) hx hb d_M_init_1613 (by decide) ?_
  refine va_iastG hx hb hK hP hD hS 2 1 rfl rfl (by unfold vp_in; decide) d_M_init_1615 (fun f_276 H locs hP hD hS => ?_)
  have hP : va_P (dC, dI) cls [(o, .inr (4, [.ref q_1, .null, .null, .int 0, .int 0, .int 0, .int 0, .int 0, .null, .null, .int 0, .int 0, .int 0, .int 0, .int 0, .int 0, .int 0, .int 0, .null])), (q_1, .inl (g_2, 220, .inr (.inl f_222))), (q_223, .inl (g_224, 55, .inl f_276))] H := hP
  have hD : va_D A [(o, .inr (4, [.ref q_1, .null, .null, .int 0, .int 0, .int 0, .int 0, .int 0, .null, .null, .int 0, .int 0, .int 0, .int 0, .int 0, .int 0, .int 0, .int 0, .null])), (q_1, .inl (g_2, 220, .inr (.inl f_222))), (q_223, .inl (g_224, 55, .inl f_276))] := hD
  refine lv_dup hx hb d_M_init_1616 rfl ?_
  refine lv_bipush (v := 52) hx hb d_M_init_1617 (by decide) ?_
  refine lv_bipush (v := 10) hx hb d_M_init_1619 (by decide) ?_
  refine va_iastG hx hb hK hP hD hS 2 1 rfl rfl (by unfold vp_in; decide) d_M_init_1621 (fun f_277 H locs hP hD hS => ?_)
  have hP : va_P (dC, dI) cls [(o, .inr (4, [.ref q_1, .null, .null, .int 0, .int 0, .int 0, .int 0, .int 0, .null, .null, .int 0, .int 0, .int 0, .int 0, .int 0, .int 0, .int 0, .int 0, .null])), (q_1, .inl (g_2, 220, .inr (.inl f_222))), (q_223, .inl (g_224, 55, .inl f_277))] H := hP
  have hD : va_D A [(o, .inr (4, [.ref q_1, .null, .null, .int 0, .int 0, .int 0, .int 0, .int 0, .null, .null, .int 0, .int 0, .int 0, .int 0, .int 0, .int 0, .int 0, .int 0, .null])), (q_1, .inl (g_2, 220, .inr (.inl f_222))), (q_223, .inl (g_224, 55, .inl f_277))] := hD
  refine lv_dup hx hb d_M_init_1622 rfl ?_
  refine lv_bipush (v := 53) hx hb d_M_init_1623 (by decide) ?_
  refine lv_bipush (v := 26) hx hb d_M_init_1625 (by decide) ?_
  refine va_iastG hx hb hK hP hD hS 2 1 rfl rfl (by unfold vp_in; decide) d_M_init_1627 (fun f_278 H locs hP hD hS => ?_)
  have hP : va_P (dC, dI) cls [(o, .inr (4, [.ref q_1, .null, .null, .int 0, .int 0, .int 0, .int 0, .int 0, .null, .null, .int 0, .int 0, .int 0, .int 0, .int 0, .int 0, .int 0, .int 0, .null])), (q_1, .inl (g_2, 220, .inr (.inl f_222))), (q_223, .inl (g_224, 55, .inl f_278))] H := hP
  have hD : va_D A [(o, .inr (4, [.ref q_1, .null, .null, .int 0, .int 0, .int 0, .int 0, .int 0, .null, .null, .int 0, .int 0, .int 0, .int 0, .int 0, .int 0, .int 0, .int 0, .null])), (q_1, .inl (g_2, 220, .inr (.inl f_222))), (q_223, .inl (g_224, 55, .inl f_278))] := hD
  refine lv_dup hx hb d_M_init_1628 rfl ?_
  refine lv_bipush (v := 54) hx hb d_M_init_1629 (by decide) ?_
  refine lv_iconst (v := 4) hx hb d_M_init_1631 (by decide) ?_
  refine va_iastG hx hb hK hP hD hS 2 1 rfl rfl (by unfold vp_in; decide) d_M_init_1632 (fun f_279 H locs hP hD hS => ?_)
  have hP : va_P (dC, dI) cls [(o, .inr (4, [.ref q_1, .null, .null, .int 0, .int 0, .int 0, .int 0, .int 0, .null, .null, .int 0, .int 0, .int 0, .int 0, .int 0, .int 0, .int 0, .int 0, .null])), (q_1, .inl (g_2, 220, .inr (.inl f_222))), (q_223, .inl (g_224, 55, .inl f_279))] H := hP
  have hD : va_D A [(o, .inr (4, [.ref q_1, .null, .null, .int 0, .int 0, .int 0, .int 0, .int 0, .null, .null, .int 0, .int 0, .int 0, .int 0, .int 0, .int 0, .int 0, .int 0, .null])), (q_1, .inl (g_2, 220, .inr (.inl f_222))), (q_223, .inl (g_224, 55, .inl f_279))] := hD
  refine va_putF (D := (dC, dI)) (ci := 4) (v := .ref q_223) (ty := .array .int) (C := "SieveDeskModel") (T := F_M) (N := 19) hx hb ht i_M ty_M ty_M_ok n_M hown hK hP hD hS 0 rfl rfl 1 (by decide) (ht _ k_628) (fun _ h9 => h9) rfl hin rfl (ty_M_ok 1 (by decide)) rfl rfl (Nat.le_of_ble_eq_true rfl) d_M_init_1633 (fun H locs hP hD hS => ?_)
  have hP : va_P (dC, dI) cls [(o, .inr (4, [.ref q_1, .ref q_223, .null, .int 0, .int 0, .int 0, .int 0, .int 0, .null, .null, .int 0, .int 0, .int 0, .int 0, .int 0, .int 0, .int 0, .int 0, .null])), (q_1, .inl (g_2, 220, .inr (.inl f_222))), (q_223, .inl (g_224, 55, .inl f_279))] H := hP
  have hD : va_D A [(o, .inr (4, [.ref q_1, .ref q_223, .null, .int 0, .int 0, .int 0, .int 0, .int 0, .null, .null, .int 0, .int 0, .int 0, .int 0, .int 0, .int 0, .int 0, .int 0, .null])), (q_1, .inl (g_2, 220, .inr (.inl f_222))), (q_223, .inl (g_224, 55, .inl f_279))] := hD
  refine lv_aload_n hx hb d_M_init_1636 rfl (lv_at hl 0 rfl) ?_
  refine lv_sipush (v := 400) hx hb d_M_init_1637 (by decide) ?_
  refine va_newa (atype := .int) (ty := .int) (N' := 400) (a0 := (400, .inl (fun _ => 0))) hx hb (ht _ k_118) rfl hK hP hD hS hA (fun _ => rfl) (by decide) (by decide) (by decide) (Nat.le_of_ble_eq_true rfl) (Nat.le_of_ble_eq_true rfl) d_M_init_1640 (fun q_280 g_281 H hK hP hD hS => ?_)
  have hP : va_P (dC, dI) cls [(o, .inr (4, [.ref q_1, .ref q_223, .null, .int 0, .int 0, .int 0, .int 0, .int 0, .null, .null, .int 0, .int 0, .int 0, .int 0, .int 0, .int 0, .int 0, .int 0, .null])), (q_1, .inl (g_2, 220, .inr (.inl f_222))), (q_223, .inl (g_224, 55, .inl f_279)), (q_280, .inl (g_281, 400, .inl (fun _ => 0)))] H := hP
  have hD : va_D A [(o, .inr (4, [.ref q_1, .ref q_223, .null, .int 0, .int 0, .int 0, .int 0, .int 0, .null, .null, .int 0, .int 0, .int 0, .int 0, .int 0, .int 0, .int 0, .int 0, .null])), (q_1, .inl (g_2, 220, .inr (.inl f_222))), (q_223, .inl (g_224, 55, .inl f_279)), (q_280, .inl (g_281, 400, .inl (fun _ => 0)))] := hD
  have hK : va_K (dC, dI) cls [(g_2, .long), (g_224, .int), (g_281, .int)] s := hK
  refine W.widen (k := 3) (n := 675) (by decide) (by decide) ?_
  refine va_putF (D := (dC, dI)) (ci := 4) (v := .ref q_280) (ty := .array .int) (C := "SieveDeskModel") (T := F_M) (N := 19) hx hb ht i_M ty_M ty_M_ok n_M hown hK hP hD hS 0 rfl rfl 2 (by decide) (ht _ k_629) (fun _ h9 => h9) rfl hin rfl (ty_M_ok 2 (by decide)) rfl rfl (Nat.le_of_ble_eq_true rfl) d_M_init_1642 (fun H locs hP hD hS => ?_)
  have hP : va_P (dC, dI) cls [(o, .inr (4, [.ref q_1, .ref q_223, .ref q_280, .int 0, .int 0, .int 0, .int 0, .int 0, .null, .null, .int 0, .int 0, .int 0, .int 0, .int 0, .int 0, .int 0, .int 0, .null])), (q_1, .inl (g_2, 220, .inr (.inl f_222))), (q_223, .inl (g_224, 55, .inl f_279)), (q_280, .inl (g_281, 400, .inl (fun _ => 0)))] H := hP
  have hD : va_D A [(o, .inr (4, [.ref q_1, .ref q_223, .ref q_280, .int 0, .int 0, .int 0, .int 0, .int 0, .null, .null, .int 0, .int 0, .int 0, .int 0, .int 0, .int 0, .int 0, .int 0, .null])), (q_1, .inl (g_2, 220, .inr (.inl f_222))), (q_223, .inl (g_224, 55, .inl f_279)), (q_280, .inl (g_281, 400, .inl (fun _ => 0)))] := hD
  refine lv_aload_n hx hb d_M_init_1645 rfl (lv_at hl 0 rfl) ?_
  refine lv_iconst (v := 4) hx hb d_M_init_1646 (by decide) ?_
  refine va_newa (atype := .long) (ty := .long) (N' := 4) (a0 := (4, .inr (.inl (fun _ => 0)))) hx hb (ht _ k_685) rfl hK hP hD hS hA (fun _ => rfl) (by decide) (by decide) (by decide) (Nat.le_of_ble_eq_true rfl) (Nat.le_of_ble_eq_true rfl) d_M_init_1647 (fun q_282 g_283 H hK hP hD hS => ?_)
  have hP : va_P (dC, dI) cls [(o, .inr (4, [.ref q_1, .ref q_223, .ref q_280, .int 0, .int 0, .int 0, .int 0, .int 0, .null, .null, .int 0, .int 0, .int 0, .int 0, .int 0, .int 0, .int 0, .int 0, .null])), (q_1, .inl (g_2, 220, .inr (.inl f_222))), (q_223, .inl (g_224, 55, .inl f_279)), (q_280, .inl (g_281, 400, .inl (fun _ => 0))), (q_282, .inl (g_283, 4, .inr (.inl (fun _ => 0))))] H := hP
  have hD : va_D A [(o, .inr (4, [.ref q_1, .ref q_223, .ref q_280, .int 0, .int 0, .int 0, .int 0, .int 0, .null, .null, .int 0, .int 0, .int 0, .int 0, .int 0, .int 0, .int 0, .int 0, .null])), (q_1, .inl (g_2, 220, .inr (.inl f_222))), (q_223, .inl (g_224, 55, .inl f_279)), (q_280, .inl (g_281, 400, .inl (fun _ => 0))), (q_282, .inl (g_283, 4, .inr (.inl (fun _ => 0))))] := hD
  have hK : va_K (dC, dI) cls [(g_2, .long), (g_224, .int), (g_281, .int), (g_283, .long)] s := hK
  refine W.widen (k := 4) (n := 679) (by decide) (by decide) ?_
  refine va_putF (D := (dC, dI)) (ci := 4) (v := .ref q_282) (ty := .array .long) (C := "SieveDeskModel") (T := F_M) (N := 19) hx hb ht i_M ty_M ty_M_ok n_M hown hK hP hD hS 0 rfl rfl 8 (by decide) (ht _ k_635) (fun _ h9 => h9) rfl hin rfl (ty_M_ok 8 (by decide)) rfl rfl (Nat.le_of_ble_eq_true rfl) d_M_init_1649 (fun H locs hP hD hS => ?_)
  have hP : va_P (dC, dI) cls [(o, .inr (4, [.ref q_1, .ref q_223, .ref q_280, .int 0, .int 0, .int 0, .int 0, .int 0, .ref q_282, .null, .int 0, .int 0, .int 0, .int 0, .int 0, .int 0, .int 0, .int 0, .null])), (q_1, .inl (g_2, 220, .inr (.inl f_222))), (q_223, .inl (g_224, 55, .inl f_279)), (q_280, .inl (g_281, 400, .inl (fun _ => 0))), (q_282, .inl (g_283, 4, .inr (.inl (fun _ => 0))))] H := hP
  have hD : va_D A [(o, .inr (4, [.ref q_1, .ref q_223, .ref q_280, .int 0, .int 0, .int 0, .int 0, .int 0, .ref q_282, .null, .int 0, .int 0, .int 0, .int 0, .int 0, .int 0, .int 0, .int 0, .null])), (q_1, .inl (g_2, 220, .inr (.inl f_222))), (q_223, .inl (g_224, 55, .inl f_279)), (q_280, .inl (g_281, 400, .inl (fun _ => 0))), (q_282, .inl (g_283, 4, .inr (.inl (fun _ => 0))))] := hD
  refine lv_aload_n hx hb d_M_init_1652 rfl (lv_at hl 0 rfl) ?_
  refine lv_sipush (v := 1010) hx hb d_M_init_1653 (by decide) ?_
  refine va_newa (atype := .int) (ty := .int) (N' := 1010) (a0 := (1010, .inl (fun _ => 0))) hx hb (ht _ k_118) rfl hK hP hD hS hA (fun _ => rfl) (by decide) (by decide) (by decide) (Nat.le_of_ble_eq_true rfl) (Nat.le_of_ble_eq_true rfl) d_M_init_1656 (fun q_284 g_285 H hK hP hD hS => ?_)
  have hP : va_P (dC, dI) cls [(o, .inr (4, [.ref q_1, .ref q_223, .ref q_280, .int 0, .int 0, .int 0, .int 0, .int 0, .ref q_282, .null, .int 0, .int 0, .int 0, .int 0, .int 0, .int 0, .int 0, .int 0, .null])), (q_1, .inl (g_2, 220, .inr (.inl f_222))), (q_223, .inl (g_224, 55, .inl f_279)), (q_280, .inl (g_281, 400, .inl (fun _ => 0))), (q_282, .inl (g_283, 4, .inr (.inl (fun _ => 0)))), (q_284, .inl (g_285, 1010, .inl (fun _ => 0)))] H := hP
  have hD : va_D A [(o, .inr (4, [.ref q_1, .ref q_223, .ref q_280, .int 0, .int 0, .int 0, .int 0, .int 0, .ref q_282, .null, .int 0, .int 0, .int 0, .int 0, .int 0, .int 0, .int 0, .int 0, .null])), (q_1, .inl (g_2, 220, .inr (.inl f_222))), (q_223, .inl (g_224, 55, .inl f_279)), (q_280, .inl (g_281, 400, .inl (fun _ => 0))), (q_282, .inl (g_283, 4, .inr (.inl (fun _ => 0)))), (q_284, .inl (g_285, 1010, .inl (fun _ => 0)))] := hD
  have hK : va_K (dC, dI) cls [(g_2, .long), (g_224, .int), (g_281, .int), (g_283, .long), (g_285, .int)] s := hK
  refine W.widen (k := 5) (n := 1689) (by decide) (by decide) ?_
  refine va_putF (D := (dC, dI)) (ci := 4) (v := .ref q_284) (ty := .array .int) (C := "SieveDeskModel") (T := F_M) (N := 19) hx hb ht i_M ty_M ty_M_ok n_M hown hK hP hD hS 0 rfl rfl 9 (by decide) (ht _ k_636) (fun _ h9 => h9) rfl hin rfl (ty_M_ok 9 (by decide)) rfl rfl (Nat.le_of_ble_eq_true rfl) d_M_init_1658 (fun H locs hP hD hS => ?_)
  have hP : va_P (dC, dI) cls [(o, .inr (4, [.ref q_1, .ref q_223, .ref q_280, .int 0, .int 0, .int 0, .int 0, .int 0, .ref q_282, .ref q_284, .int 0, .int 0, .int 0, .int 0, .int 0, .int 0, .int 0, .int 0, .null])), (q_1, .inl (g_2, 220, .inr (.inl f_222))), (q_223, .inl (g_224, 55, .inl f_279)), (q_280, .inl (g_281, 400, .inl (fun _ => 0))), (q_282, .inl (g_283, 4, .inr (.inl (fun _ => 0)))), (q_284, .inl (g_285, 1010, .inl (fun _ => 0)))] H := hP
  have hD : va_D A [(o, .inr (4, [.ref q_1, .ref q_223, .ref q_280, .int 0, .int 0, .int 0, .int 0, .int 0, .ref q_282, .ref q_284, .int 0, .int 0, .int 0, .int 0, .int 0, .int 0, .int 0, .int 0, .null])), (q_1, .inl (g_2, 220, .inr (.inl f_222))), (q_223, .inl (g_224, 55, .inl f_279)), (q_280, .inl (g_281, 400, .inl (fun _ => 0))), (q_282, .inl (g_283, 4, .inr (.inl (fun _ => 0)))), (q_284, .inl (g_285, 1010, .inl (fun _ => 0)))] := hD
  refine lv_aload_n hx hb d_M_init_1661 rfl (lv_at hl 0 rfl) ?_
  refine lv_iconst (v := (-1)) hx hb d_M_init_1662 (by decide) ?_
  refine va_put (D := (dC, dI)) (ci := 4) (v := .int (-1)) (ty := .int) (C := "SieveDeskModel") (T := F_M) (N := 19) hx hb ht i_M ty_M ty_M_ok n_M hown hK hP hD hS 0 rfl rfl 10 (by decide) (ht _ k_637) (fun _ h9 => h9) rfl (ty_M_ok 10 (by decide)) rfl rfl (Nat.le_of_ble_eq_true rfl) d_M_init_1663 (fun H locs hP hD hS => ?_)
  have hP : va_P (dC, dI) cls [(o, .inr (4, [.ref q_1, .ref q_223, .ref q_280, .int 0, .int 0, .int 0, .int 0, .int 0, .ref q_282, .ref q_284, .int (-1), .int 0, .int 0, .int 0, .int 0, .int 0, .int 0, .int 0, .null])), (q_1, .inl (g_2, 220, .inr (.inl f_222))), (q_223, .inl (g_224, 55, .inl f_279)), (q_280, .inl (g_281, 400, .inl (fun _ => 0))), (q_282, .inl (g_283, 4, .inr (.inl (fun _ => 0)))), (q_284, .inl (g_285, 1010, .inl (fun _ => 0)))] H := hP
  have hD : va_D A [(o, .inr (4, [.ref q_1, .ref q_223, .ref q_280, .int 0, .int 0, .int 0, .int 0, .int 0, .ref q_282, .ref q_284, .int (-1), .int 0, .int 0, .int 0, .int 0, .int 0, .int 0, .int 0, .null])), (q_1, .inl (g_2, 220, .inr (.inl f_222))), (q_223, .inl (g_224, 55, .inl f_279)), (q_280, .inl (g_281, 400, .inl (fun _ => 0))), (q_282, .inl (g_283, 4, .inr (.inl (fun _ => 0)))), (q_284, .inl (g_285, 1010, .inl (fun _ => 0)))] := hD
  refine lv_aload_n hx hb d_M_init_1666 rfl (lv_at hl 0 rfl) ?_
  refine lv_bipush (v := 80) hx hb d_M_init_1667 (by decide) ?_
  refine va_newa (atype := .int) (ty := .int) (N' := 80) (a0 := (80, .inl (fun _ => 0))) hx hb (ht _ k_118) rfl hK hP hD hS hA (fun _ => rfl) (by decide) (by decide) (by decide) (Nat.le_of_ble_eq_true rfl) (Nat.le_of_ble_eq_true rfl) d_M_init_1669 (fun q_286 g_287 H hK hP hD hS => ?_)
  have hP : va_P (dC, dI) cls [(o, .inr (4, [.ref q_1, .ref q_223, .ref q_280, .int 0, .int 0, .int 0, .int 0, .int 0, .ref q_282, .ref q_284, .int (-1), .int 0, .int 0, .int 0, .int 0, .int 0, .int 0, .int 0, .null])), (q_1, .inl (g_2, 220, .inr (.inl f_222))), (q_223, .inl (g_224, 55, .inl f_279)), (q_280, .inl (g_281, 400, .inl (fun _ => 0))), (q_282, .inl (g_283, 4, .inr (.inl (fun _ => 0)))), (q_284, .inl (g_285, 1010, .inl (fun _ => 0))), (q_286, .inl (g_287, 80, .inl (fun _ => 0)))] H := hP
  have hD : va_D A [(o, .inr (4, [.ref q_1, .ref q_223, .ref q_280, .int 0, .int 0, .int 0, .int 0, .int 0, .ref q_282, .ref q_284, .int (-1), .int 0, .int 0, .int 0, .int 0, .int 0, .int 0, .int 0, .null])), (q_1, .inl (g_2, 220, .inr (.inl f_222))), (q_223, .inl (g_224, 55, .inl f_279)), (q_280, .inl (g_281, 400, .inl (fun _ => 0))), (q_282, .inl (g_283, 4, .inr (.inl (fun _ => 0)))), (q_284, .inl (g_285, 1010, .inl (fun _ => 0))), (q_286, .inl (g_287, 80, .inl (fun _ => 0)))] := hD
  have hK : va_K (dC, dI) cls [(g_2, .long), (g_224, .int), (g_281, .int), (g_283, .long), (g_285, .int), (g_287, .int)] s := hK
  refine W.widen (k := 6) (n := 1769) (by decide) (by decide) ?_
  refine va_putF (D := (dC, dI)) (ci := 4) (v := .ref q_286) (ty := .array .int) (C := "SieveDeskModel") (T := F_M) (N := 19) hx hb ht i_M ty_M ty_M_ok n_M hown hK hP hD hS 0 rfl rfl 18 (by decide) (ht _ k_645) (fun _ h9 => h9) rfl hin rfl (ty_M_ok 18 (by decide)) rfl rfl (Nat.le_of_ble_eq_true rfl) d_M_init_1671 (fun H locs hP hD hS => ?_)
  have hP : va_P (dC, dI) cls [(o, .inr (4, [.ref q_1, .ref q_223, .ref q_280, .int 0, .int 0, .int 0, .int 0, .int 0, .ref q_282, .ref q_284, .int (-1), .int 0, .int 0, .int 0, .int 0, .int 0, .int 0, .int 0, .ref q_286])), (q_1, .inl (g_2, 220, .inr (.inl f_222))), (q_223, .inl (g_224, 55, .inl f_279)), (q_280, .inl (g_281, 400, .inl (fun _ => 0))), (q_282, .inl (g_283, 4, .inr (.inl (fun _ => 0)))), (q_284, .inl (g_285, 1010, .inl (fun _ => 0))), (q_286, .inl (g_287, 80, .inl (fun _ => 0)))] H := hP
  have hD : va_D A [(o, .inr (4, [.ref q_1, .ref q_223, .ref q_280, .int 0, .int 0, .int 0, .int 0, .int 0, .ref q_282, .ref q_284, .int (-1), .int 0, .int 0, .int 0, .int 0, .int 0, .int 0, .int 0, .ref q_286])), (q_1, .inl (g_2, 220, .inr (.inl f_222))), (q_223, .inl (g_224, 55, .inl f_279)), (q_280, .inl (g_281, 400, .inl (fun _ => 0))), (q_282, .inl (g_283, 4, .inr (.inl (fun _ => 0)))), (q_284, .inl (g_285, 1010, .inl (fun _ => 0))), (q_286, .inl (g_287, 80, .inl (fun _ => 0)))] := hD
  exact W.vret hx hb hr (fun t het hW => ⟨⟨(((fun i => match i with | 0 => o | 1 => q_1 | 2 => q_223 | 3 => q_280 | 4 => q_282 | 5 => q_284 | 6 => q_286 | _ => 0), (fun i => match i with | 0 => g_2 | 1 => g_224 | 2 => g_281 | 3 => g_283 | 4 => g_285 | _ => g_287)), (f_222, f_279)), rfl, rfl, by rw [het]; exact hP, va_K.moved hW.alike hK, hD⟩, hS.F het⟩) hS.2.2 d_M_init_1674

set_option maxHeartbeats 4000000 in
set_option maxRecDepth 100000 in
theorem bd_M_endAt_0 {p : Program} {l : Launch} {e : Env} {s : State} {m : MethodId} {args : Array Value} {below : List Frame} {meth : Method} {c : Code} {Q : State → Prop} {A : Nat → Prop} {dC : Nat → ClassId} {dI : Nat → Nat → Nat} {k h : Nat → Nat} {g : Nat → ClassId} {ss : Int32} {sa : Int32} {so : Int32} {pl : Int32} {si : Int32} {fa : Int32} {li : Int32} {co : Int32} {st : Int32} {rq : Int32} {bl : Int32} {te : Int32} {op : Int32} {wo : Nat → Int64} {le : Nat → Int64} {wz : Nat → Int32} {sr : Nat → Int32} {tx : Nat → Int32} {ro : Nat → Int32} (hx : p.tables.exec = Jvm.exec) (hb : c.code = b_M_endAt) (hml : c.maxLocals = 2) (hown : s.vm.findClass "SieveDeskModel" = some m.cls) (ht : ∀ w ∈ TT, w.before args s = true) (hE : KE k A s s.heap) (hA : ∀ q : Nat, s.heap.size ≤ q → A q) (hK : va_K (dC, dI) cls (TM g) s) {kk : Int32} (h_0 : 0 ≤ Int32.toInt ss) (h_1 : Int32.toInt ss ≤ 400) (h_2 : 0 ≤ Int32.toInt kk) (h_3 : Int32.toInt kk ≤ 1000) (fin : ∀ (r : Int32) (u : Unit) (H : Heap) (locs : List Loc) (pc : Nat) (ls : Array Slot), decode b_M_endAt pc = .ok (.ireturn, 1) → ((Int32.toInt r = 0 ∨ (Int32.toInt r = 1 ∧ Int32.toInt kk + 1 ≤ Int32.toInt ss) ∨ (Int32.toInt r = 2 ∧ Int32.toInt kk + 2 ≤ Int32.toInt ss))) → va_P (dC, dI) cls (ME h g ss sa so pl si fa li co st rq bl te op wo wz sr le tx ro) H → va_D A (ME h g ss sa so pl si fa li co st rq bl te op wo wz sr le tx ro) → va_S A s.heap H locs → W p l e ({ frames := 0, cells := 0, slots := 0, locals := 0 } : Room) s m args below meth c H locs 0 0 Q (F0 m pc ls [.int r])) : ∀ (H : Heap) (locs : List Loc) (ls : Array Slot), va_P (dC, dI) cls (ME h g ss sa so pl si fa li co st rq bl te op wo wz sr le tx ro) H → va_D A (ME h g ss sa so pl si fa li co st rq bl te op wo wz sr le tx ro) → va_S A s.heap H locs → lv_has ls 2 [(0, .ref (h 0)), (1, .int kk)] → W p l e ({ frames := 0, cells := 0, slots := 0, locals := 0 } : Room) s m args below meth c H locs 0 0 Q (F0 m 0 ls []) := by
  intro H locs ls hP hD hS hl
  refine lv_iload_n hx hb d_M_endAt_0 rfl (lv_at hl 1 rfl) ?_
  refine lv_aload_n hx hb d_M_endAt_1 rfl (lv_at hl 0 rfl) ?_
  refine va_get (D := (dC, dI)) (ci := 4) (v := .int ss) (C := "SieveDeskModel") (T := F_M) (N := 19) hx hb ht i_M hown hK hP 0 rfl rfl 3 (by decide) (ht _ k_630) (fun _ h9 => h9) rfl d_M_endAt_2 ?_
  refine lv_icmp_ge (tgt := 23) hx hb d_M_endAt_5 (by decide) (fun c_1 => ?_) (fun c_1 => ?_)
  · have dc_1 := i_le c_1 rfl rfl
    refine lv_iload_n hx hb d_M_endAt_23 rfl (lv_at hl 1 rfl) ?_
    refine lv_iconst (v := 1) hx hb d_M_endAt_24 (by decide) ?_
    refine lv_iadd hx hb d_M_endAt_25 ?_
    have e_2 : Int32.toInt (kk + 1) = (Int32.toInt kk) + 1 := i_add rfl (show Int32.toInt 1 = 1 by decide) (by omega) (by omega)
    refine lv_aload_n hx hb d_M_endAt_26 rfl (lv_at hl 0 rfl) ?_
    refine va_get (D := (dC, dI)) (ci := 4) (v := .int ss) (C := "SieveDeskModel") (T := F_M) (N := 19) hx hb ht i_M hown hK hP 0 rfl rfl 3 (by decide) (ht _ k_630) (fun _ h9 => h9) rfl d_M_endAt_27 ?_
    refine lv_icmp_ge (tgt := 61) hx hb d_M_endAt_30 (by decide) (fun c_3 => ?_) (fun c_3 => ?_)
    · have dc_3 := i_le c_3 rfl e_2
      refine lv_iconst (v := 0) hx hb d_M_endAt_61 (by decide) ?_
      have hc_0 : Int32.toInt 0 = 0 := by decide
      exact fin 0 () _ _ _ ls d_M_endAt_62 (by (try dsimp only); omega) hP hD hS
    · have dc_3 := i_nle c_3 rfl e_2
      refine lv_aload_n hx hb d_M_endAt_33 rfl (lv_at hl 0 rfl) ?_
      refine va_get (D := (dC, dI)) (ci := 4) (v := .ref (h 3)) (C := "SieveDeskModel") (T := F_M) (N := 19) hx hb ht i_M hown hK hP 0 rfl rfl 2 (by decide) (ht _ k_629) (fun _ h9 => h9) rfl d_M_endAt_34 ?_
      refine lv_iload_n hx hb d_M_endAt_37 rfl (lv_at hl 1 rfl) ?_
      refine va_iald hx hb hK hP 3 2 rfl rfl (i_in rfl (by omega) (by omega)) d_M_endAt_38 ?_
      refine lv_bipush (v := 13) hx hb d_M_endAt_39 (by decide) ?_
      refine lv_icmp_ne (tgt := 61) hx hb d_M_endAt_41 (by decide) (fun c_4 => ?_) (fun c_4 => ?_)
      · refine lv_iconst (v := 0) hx hb d_M_endAt_61 (by decide) ?_
        have hc_0 : Int32.toInt 0 = 0 := by decide
        exact fin 0 () _ _ _ ls d_M_endAt_62 (by (try dsimp only); omega) hP hD hS
      · refine lv_aload_n hx hb d_M_endAt_44 rfl (lv_at hl 0 rfl) ?_
        refine va_get (D := (dC, dI)) (ci := 4) (v := .ref (h 3)) (C := "SieveDeskModel") (T := F_M) (N := 19) hx hb ht i_M hown hK hP 0 rfl rfl 2 (by decide) (ht _ k_629) (fun _ h9 => h9) rfl d_M_endAt_45 ?_
        refine lv_iload_n hx hb d_M_endAt_48 rfl (lv_at hl 1 rfl) ?_
        refine lv_iconst (v := 1) hx hb d_M_endAt_49 (by decide) ?_
        refine lv_iadd hx hb d_M_endAt_50 ?_
        have e_5 : Int32.toInt (kk + 1) = (Int32.toInt kk) + 1 := i_add rfl (show Int32.toInt 1 = 1 by decide) (by omega) (by omega)
        refine va_iald hx hb hK hP 3 2 rfl rfl (i_in e_5 (by omega) (by omega)) d_M_endAt_51 ?_
        refine lv_bipush (v := 10) hx hb d_M_endAt_52 (by decide) ?_
        refine lv_icmp_ne (tgt := 61) hx hb d_M_endAt_54 (by decide) (fun c_6 => ?_) (fun c_6 => ?_)
        · refine lv_iconst (v := 0) hx hb d_M_endAt_61 (by decide) ?_
          have hc_0 : Int32.toInt 0 = 0 := by decide
          exact fin 0 () _ _ _ ls d_M_endAt_62 (by (try dsimp only); omega) hP hD hS
        · refine lv_iconst (v := 2) hx hb d_M_endAt_57 (by decide) ?_
          refine lv_goto (tgt := 62) hx hb d_M_endAt_58 (by decide) ?_
          have hc_2 : Int32.toInt 2 = 2 := by decide
          exact fin 2 () _ _ _ ls d_M_endAt_62 (by (try dsimp only); omega) hP hD hS
  · have dc_1 := i_nle c_1 rfl rfl
    refine lv_aload_n hx hb d_M_endAt_8 rfl (lv_at hl 0 rfl) ?_
    refine va_get (D := (dC, dI)) (ci := 4) (v := .ref (h 3)) (C := "SieveDeskModel") (T := F_M) (N := 19) hx hb ht i_M hown hK hP 0 rfl rfl 2 (by decide) (ht _ k_629) (fun _ h9 => h9) rfl d_M_endAt_9 ?_
    refine lv_iload_n hx hb d_M_endAt_12 rfl (lv_at hl 1 rfl) ?_
    refine va_iald hx hb hK hP 3 2 rfl rfl (i_in rfl (by omega) (by omega)) d_M_endAt_13 ?_
    refine lv_bipush (v := 10) hx hb d_M_endAt_14 (by decide) ?_
    refine lv_icmp_ne (tgt := 23) hx hb d_M_endAt_16 (by decide) (fun c_7 => ?_) (fun c_7 => ?_)
    · refine lv_iload_n hx hb d_M_endAt_23 rfl (lv_at hl 1 rfl) ?_
      refine lv_iconst (v := 1) hx hb d_M_endAt_24 (by decide) ?_
      refine lv_iadd hx hb d_M_endAt_25 ?_
      have e_8 : Int32.toInt (kk + 1) = (Int32.toInt kk) + 1 := i_add rfl (show Int32.toInt 1 = 1 by decide) (by omega) (by omega)
      refine lv_aload_n hx hb d_M_endAt_26 rfl (lv_at hl 0 rfl) ?_
      refine va_get (D := (dC, dI)) (ci := 4) (v := .int ss) (C := "SieveDeskModel") (T := F_M) (N := 19) hx hb ht i_M hown hK hP 0 rfl rfl 3 (by decide) (ht _ k_630) (fun _ h9 => h9) rfl d_M_endAt_27 ?_
      refine lv_icmp_ge (tgt := 61) hx hb d_M_endAt_30 (by decide) (fun c_9 => ?_) (fun c_9 => ?_)
      · have dc_9 := i_le c_9 rfl e_8
        refine lv_iconst (v := 0) hx hb d_M_endAt_61 (by decide) ?_
        have hc_0 : Int32.toInt 0 = 0 := by decide
        exact fin 0 () _ _ _ ls d_M_endAt_62 (by (try dsimp only); omega) hP hD hS
      · have dc_9 := i_nle c_9 rfl e_8
        refine lv_aload_n hx hb d_M_endAt_33 rfl (lv_at hl 0 rfl) ?_
        refine va_get (D := (dC, dI)) (ci := 4) (v := .ref (h 3)) (C := "SieveDeskModel") (T := F_M) (N := 19) hx hb ht i_M hown hK hP 0 rfl rfl 2 (by decide) (ht _ k_629) (fun _ h9 => h9) rfl d_M_endAt_34 ?_
        refine lv_iload_n hx hb d_M_endAt_37 rfl (lv_at hl 1 rfl) ?_
        refine va_iald hx hb hK hP 3 2 rfl rfl (i_in rfl (by omega) (by omega)) d_M_endAt_38 ?_
        refine lv_bipush (v := 13) hx hb d_M_endAt_39 (by decide) ?_
        refine lv_icmp_ne (tgt := 61) hx hb d_M_endAt_41 (by decide) (fun c_10 => ?_) (fun c_10 => ?_)
        · refine lv_iconst (v := 0) hx hb d_M_endAt_61 (by decide) ?_
          have hc_0 : Int32.toInt 0 = 0 := by decide
          exact fin 0 () _ _ _ ls d_M_endAt_62 (by (try dsimp only); omega) hP hD hS
        · refine lv_aload_n hx hb d_M_endAt_44 rfl (lv_at hl 0 rfl) ?_
          refine va_get (D := (dC, dI)) (ci := 4) (v := .ref (h 3)) (C := "SieveDeskModel") (T := F_M) (N := 19) hx hb ht i_M hown hK hP 0 rfl rfl 2 (by decide) (ht _ k_629) (fun _ h9 => h9) rfl d_M_endAt_45 ?_
          refine lv_iload_n hx hb d_M_endAt_48 rfl (lv_at hl 1 rfl) ?_
          refine lv_iconst (v := 1) hx hb d_M_endAt_49 (by decide) ?_
          refine lv_iadd hx hb d_M_endAt_50 ?_
          have e_11 : Int32.toInt (kk + 1) = (Int32.toInt kk) + 1 := i_add rfl (show Int32.toInt 1 = 1 by decide) (by omega) (by omega)
          refine va_iald hx hb hK hP 3 2 rfl rfl (i_in e_11 (by omega) (by omega)) d_M_endAt_51 ?_
          refine lv_bipush (v := 10) hx hb d_M_endAt_52 (by decide) ?_
          refine lv_icmp_ne (tgt := 61) hx hb d_M_endAt_54 (by decide) (fun c_12 => ?_) (fun c_12 => ?_)
          · refine lv_iconst (v := 0) hx hb d_M_endAt_61 (by decide) ?_
            have hc_0 : Int32.toInt 0 = 0 := by decide
            exact fin 0 () _ _ _ ls d_M_endAt_62 (by (try dsimp only); omega) hP hD hS
          · refine lv_iconst (v := 2) hx hb d_M_endAt_57 (by decide) ?_
            refine lv_goto (tgt := 62) hx hb d_M_endAt_58 (by decide) ?_
            have hc_2 : Int32.toInt 2 = 2 := by decide
            exact fin 2 () _ _ _ ls d_M_endAt_62 (by (try dsimp only); omega) hP hD hS
    · refine lv_iconst (v := 1) hx hb d_M_endAt_19 (by decide) ?_
      refine lv_goto (tgt := 62) hx hb d_M_endAt_20 (by decide) ?_
      have hc_1 : Int32.toInt 1 = 1 := by decide
      exact fin 1 () _ _ _ ls d_M_endAt_62 (by (try dsimp only); omega) hP hD hS
set_option maxHeartbeats 4000000 in
set_option maxRecDepth 100000 in
theorem c_M_endAt (l : Launch) (dC : Nat → ClassId) (dI : Nat → Nat → Nat) (k : Nat → Nat) (h : Nat → Nat) (g : Nat → ClassId) (ss : Int32) (sa : Int32) (so : Int32) (pl : Int32) (si : Int32) (fa : Int32) (li : Int32) (co : Int32) (st : Int32) (rq : Int32) (bl : Int32) (te : Int32) (op : Int32) (wo : Nat → Int64) (le : Nat → Int64) (wz : Nat → Int32) (sr : Nat → Int32) (tx : Nat → Int32) (ro : Nat → Int32) (kk : Int32) (sz : Nat) (h_0 : 0 ≤ Int32.toInt ss) (h_1 : Int32.toInt ss ≤ 400) (h_2 : 0 ≤ Int32.toInt kk) (h_3 : Int32.toInt kk ≤ 1000)  : Met l y_M_endAt (.code y_M_endAt b_M_endAt 2 (some .int) :: TT) ({ frames := 0, cells := 0, slots := 0, locals := 0 }) (va_Pc [.ref (h 0), .int kk] (PX dC dI k (TM g) (ME h g ss sa so pl si fa li co st rq bl te op wo wz sr le tx ro) sz)) (va_Qi (fun (r : Int32) (u : Unit) => (Int32.toInt r = 0 ∨ (Int32.toInt r = 1 ∧ Int32.toInt kk + 1 ≤ Int32.toInt ss) ∨ (Int32.toInt r = 2 ∧ Int32.toInt kk + 2 ≤ Int32.toInt ss))) (fun u t => BX dC dI (TM g) (va_A (ME h g ss sa so pl si fa li co st rq bl te op wo wz sr le tx ro) sz) (ME h g ss sa so pl si fa li co st rq bl te op wo wz sr le tx ro) t) (va_A (ME h g ss sa so pl si fa li co st rq bl te op wo wz sr le tx ro) sz)) 0 0 (va_A (ME h g ss sa so pl si fa li co st rq bl te op wo wz sr le tx ro) sz) := by
  refine Met.ofW (cc := b_M_endAt) (maxL := 2) (ret := (some .int)) (by decide) rfl ?_
  intro p e s m args below meth c s₁ B hml hv
  obtain ⟨rfl, hsz, hE, hP, hK, hD0⟩ := hv
  have hx := B.exec
  have hb := B.bytes
  have hr := B.returns
  have ht : ∀ w ∈ TT, w.before _ s = true := fun w hw => atoms_spec (ws := .code y_M_endAt b_M_endAt 2 (some .int) :: TT) B.pre w (List.mem_cons_of_mem _ hw)
  have hown : s.vm.findClass "SieveDeskModel" = some m.cls := findClass_of_methodNamed B.named
  have hlocks := B.notSynchronized
  subst hsz
  have hD := hD0.self (sz := s.heap.size)
  generalize hAe : va_A (ME h g ss sa so pl si fa li co st rq bl te op wo wz sr le tx ro) s.heap.size = A at hE hD ⊢
  have hA : ∀ q : Nat, s.heap.size ≤ q → A q := fun q h9 => by rw [← hAe]; exact Or.inr h9
  have hS : va_S A s.heap s.heap [] := va_S.rf
  have hl := lv_entry ([.ref (h 0), .int kk]) (n := 2) (Nat.le_of_ble_eq_true rfl)
  rw [lg_entry_eq]
  generalize (lg_sl ([.ref (h 0), .int kk]) ++ List.replicate (2 - (lg_sl ([.ref (h 0), .int kk])).length) Slot.unset).toArray = ls at hl ⊢
  have hl : lv_has ls 2 [(0, .ref (h 0)), (1, .int kk)] := hl
  exact bd_M_endAt_0 (kk := kk) hx hb hml hown ht hE hA hK h_0 h_1 h_2 h_3 (fun r u H locs pc ls hd hp hP hD hS => W.iret hx hb hr (fun t het hW => ⟨⟨r, u, rfl, hp, by rw [het]; exact hP, va_K.moved hW.alike hK, hD⟩, hS.F het⟩) hS.2.2 hd)   _ _ ls hP hD hS hl
set_option maxHeartbeats 4000000 in
set_option maxRecDepth 100000 in
theorem lp_M_lines_g0 {p : Program} {l : Launch} {e : Env} {s : State} {m : MethodId} {args : Array Value} {below : List Frame} {meth : Method} {c : Code} {Q : State → Prop} {A : Nat → Prop} {dC : Nat → ClassId} {dI : Nat → Nat → Nat} {k h : Nat → Nat} {g : Nat → ClassId} {ss : Int32} {so : Int32} {pl : Int32} {fa : Int32} {li : Int32} {co : Int32} {st : Int32} {rq : Int32} {bl : Int32} {te : Int32} {op : Int32} {wo : Nat → Int64} {wz : Nat → Int32} {sr : Nat → Int32} {ro : Nat → Int32} {sa0 : Int32} (hx : p.tables.exec = Jvm.exec) (hb : c.code = b_M_lines) (hml : c.maxLocals = 3) (hown : s.vm.findClass "SieveDeskModel" = some m.cls) (ht : ∀ w ∈ TT, w.before args s = true) (hE : KE k A s s.heap) (hA : ∀ q : Nat, s.heap.size ≤ q → A q) (hK : va_K (dC, dI) cls (TM g) s)  (h_0 : 0 ≤ Int32.toInt ss) (h_1 : Int32.toInt ss ≤ 400) (fin : ∀ (r : Int32) (u : Int32 × Int32 × (Nat → Int64) × (Nat → Int32)) (H : Heap) (locs : List Loc) (pc : Nat) (ls : Array Slot), decode b_M_lines pc = .ok (.ireturn, 1) → (0 ≤ Int32.toInt u.1 ∧ Int32.toInt u.1 ≤ Int32.toInt ss ∧ 0 ≤ Int32.toInt u.2.1 ∧ Int32.toInt u.2.1 ≤ 400 ∧ Int32.toInt sa0 ≤ Int32.toInt u.1 ∧ (Int32.toInt r = 5 ∨ Int32.toInt r = 4)) → va_P (dC, dI) cls (ME h g ss u.1 so pl u.2.1 fa li co st rq bl te op wo wz sr u.2.2.1 u.2.2.2 ro) H → va_D A (ME h g ss u.1 so pl u.2.1 fa li co st rq bl te op wo wz sr u.2.2.1 u.2.2.2 ro) → va_S A s.heap H locs → W p l e ({ frames := 2, cells := 0, slots := 0, locals := 41 } : Room) s m args below meth c H locs 0 0 Q (F0 m pc ls [.int r])) : ∀ (nn : Nat), (∀ (sa : Int32) (si : Int32) (le : Nat → Int64) (tx : Nat → Int32), Int32.toInt sa0 ≤ Int32.toInt sa → Int32.toInt si ≤ Int32.toInt sa → 0 ≤ Int32.toInt sa → Int32.toInt sa ≤ Int32.toInt ss → 0 ≤ Int32.toInt si → Int32.toInt si ≤ 400 → (10 * (Int32.toInt ss - Int32.toInt sa) + 5).toNat < nn → ∀ (H : Heap) (locs : List Loc) (ls : Array Slot), va_P (dC, dI) cls (ME h g ss sa so pl si fa li co st rq bl te op wo wz sr le tx ro) H → va_D A (ME h g ss sa so pl si fa li co st rq bl te op wo wz sr le tx ro) → va_S A s.heap H locs → lv_has ls 3 [(0, .ref (h 0))] → W p l e ({ frames := 2, cells := 0, slots := 0, locals := 41 } : Room) s m args below meth c H locs 0 0 Q (F0 m 77 ls [])) ∧ (∀ (sa : Int32) (si : Int32) (le : Nat → Int64) (tx : Nat → Int32), Int32.toInt sa0 ≤ Int32.toInt sa → Int32.toInt si ≤ Int32.toInt sa → 0 ≤ Int32.toInt sa → Int32.toInt sa ≤ Int32.toInt ss → 0 ≤ Int32.toInt si → Int32.toInt si ≤ 400 → (10 * (Int32.toInt ss - Int32.toInt sa) + 4).toNat < nn → ∀ (H : Heap) (locs : List Loc) (ls : Array Slot), va_P (dC, dI) cls (ME h g ss sa so pl si fa li co st rq bl te op wo wz sr le tx ro) H → va_D A (ME h g ss sa so pl si fa li co st rq bl te op wo wz sr le tx ro) → va_S A s.heap H locs → lv_has ls 3 [(0, .ref (h 0))] → W p l e ({ frames := 2, cells := 0, slots := 0, locals := 41 } : Room) s m args below meth c H locs 0 0 Q (F0 m 130 ls [])) ∧ (∀ (ee : Int32) (kk : Int32) (sa : Int32) (si : Int32) (le : Nat → Int64) (tx : Nat → Int32), Int32.toInt sa0 ≤ Int32.toInt sa → Int32.toInt si ≤ Int32.toInt sa → (Int32.toInt ee = 1 ∨ Int32.toInt ee = 2) → 0 ≤ Int32.toInt kk → Int32.toInt kk ≤ Int32.toInt ee → Int32.toInt sa + Int32.toInt ee - Int32.toInt kk ≤ Int32.toInt ss → 0 ≤ Int32.toInt sa → Int32.toInt sa ≤ Int32.toInt ss → 0 ≤ Int32.toInt si → Int32.toInt si ≤ 400 → (10 * (Int32.toInt ss - Int32.toInt sa) + 3 + 3 * Int32.toInt kk).toNat < nn → ∀ (H : Heap) (locs : List Loc) (ls : Array Slot), va_P (dC, dI) cls (ME h g ss sa so pl si fa li co st rq bl te op wo wz sr le tx ro) H → va_D A (ME h g ss sa so pl si fa li co st rq bl te op wo wz sr le tx ro) → va_S A s.heap H locs → lv_has ls 3 [(1, .int ee), (2, .int kk), (0, .ref (h 0))] → W p l e ({ frames := 2, cells := 0, slots := 0, locals := 41 } : Room) s m args below meth c H locs 0 0 Q (F0 m 188 ls [])) := by
  intro nn
  induction nn with
  | zero =>
    refine ⟨fun _ _ _ _ _ _ _ _ _ _ hm => absurd hm (Nat.not_lt_zero _), fun _ _ _ _ _ _ _ _ _ _ hm => absurd hm (Nat.not_lt_zero _), fun _ _ _ _ _ _ _ _ _ _ _ _ _ _ _ _ hm => absurd hm (Nat.not_lt_zero _)⟩
  | succ nn ih =>
    refine ⟨?_, ?_, ?_⟩
    · intro sa si le tx v_0 v_1 v_2 v_3 v_4 v_5 hm H locs ls hP hD hS hl
      refine lv_aload_n hx hb d_M_lines_77 rfl (lv_at hl 0 rfl) ?_
      refine lv_iconst (v := 0) hx hb d_M_lines_78 (by decide) ?_
      have hc_0 : Int32.toInt 0 = 0 := by decide
      have hFc := va_free (wc := (ME h g ss sa so pl si fa li co st rq bl te op wo wz sr le tx ro)) hD hS hA [0, 1, 2, 3, 4, 5, 6] rfl
      refine va_calli (va_runV (As := [.int 0]) (rest := []) ⟨hx, hb, hml, hown, ht⟩ (c_M_peek l dC dI k h g ss sa so pl si fa li co st rq bl te op wo le wz sr tx ro 0 _ (by omega) (by omega) (by omega) (by omega) (by omega) (by omega) ) (cwV 1 ht (g_V k_702 k_704 k_39 k_80 k_705) rfl rfl rfl (by decide +kernel) ⟨(Nat.le_of_ble_eq_true rfl), (Nat.le_of_ble_eq_true rfl)⟩) ⟨fb_X, va_recv hK hP (ci := 4) (q0 := 0) rfl rfl, pre_X hE hS hFc hP hK hD⟩ rfl rfl hl.1 rfl (lv_room (Nat.le_of_ble_eq_true rfl)) d_M_lines_79 ⟨(Nat.le_of_ble_eq_true rfl), (Nat.le_of_ble_eq_true rfl)⟩) hS (fun q _ h9 => hFc q h9) hFc (fun r_2 u_1 t H locs het hvm hw hB hz1 hk1 hS => ?_)
      obtain ⟨p_3, p_4⟩ := hw
      obtain ⟨hP1, hK1, hD1⟩ := hB
      rw [het] at hP1
      have hP : va_P (dC, dI) cls (ME h g ss sa so pl si fa li co st rq bl te op wo wz sr le tx ro) H := hP1
      have hD : va_D A (ME h g ss sa so pl si fa li co st rq bl te op wo wz sr le tx ro) := hD1.weaken (fun _ _ _ h9 => hFc _ h9)
      refine lv_bipush (v := 46) hx hb d_M_lines_82 (by decide) ?_
      refine lv_icmp_ne (tgt := 100) hx hb d_M_lines_84 (by decide) (fun c_5 => ?_) (fun c_5 => ?_)
      · have dc_5 := i_ne c_5 rfl (show Int32.toInt 46 = 46 by decide)
        refine lv_aload_n hx hb d_M_lines_100 rfl (lv_at hl 0 rfl) ?_
        refine lv_iconst (v := 0) hx hb d_M_lines_101 (by decide) ?_
        have hFc := va_free (wc := (ME h g ss sa so pl si fa li co st rq bl te op wo wz sr le tx ro)) hD hS hA [0, 1, 2, 3, 4, 5, 6] rfl
        refine va_calli (va_runV (As := [.int 0]) (rest := []) ⟨hx, hb, hml, hown, ht⟩ (c_M_peek l dC dI k h g ss sa so pl si fa li co st rq bl te op wo le wz sr tx ro 0 _ (by omega) (by omega) (by omega) (by omega) (by omega) (by omega) ) (cwV 1 ht (g_V k_702 k_704 k_39 k_80 k_705) rfl rfl rfl (by decide +kernel) ⟨(Nat.le_of_ble_eq_true rfl), (Nat.le_of_ble_eq_true rfl)⟩) ⟨fb_X, va_recv hK hP (ci := 4) (q0 := 0) rfl rfl, pre_X hE hS hFc hP hK hD⟩ rfl rfl hl.1 rfl (lv_room (Nat.le_of_ble_eq_true rfl)) d_M_lines_102 ⟨(Nat.le_of_ble_eq_true rfl), (Nat.le_of_ble_eq_true rfl)⟩) hS (fun q _ h9 => hFc q h9) hFc (fun r_7 u_6 t H locs het hvm hw hB hz1 hk1 hS => ?_)
        obtain ⟨p_8, p_9⟩ := hw
        obtain ⟨hP1, hK1, hD1⟩ := hB
        rw [het] at hP1
        have hP : va_P (dC, dI) cls (ME h g ss sa so pl si fa li co st rq bl te op wo wz sr le tx ro) H := hP1
        have hD : va_D A (ME h g ss sa so pl si fa li co st rq bl te op wo wz sr le tx ro) := hD1.weaken (fun _ _ _ h9 => hFc _ h9)
        refine lv_bipush (v := 46) hx hb d_M_lines_105 (by decide) ?_
        refine lv_icmp_ne (tgt := 130) hx hb d_M_lines_107 (by decide) (fun c_10 => ?_) (fun c_10 => ?_)
        · have dc_10 := i_ne c_10 rfl (show Int32.toInt 46 = 46 by decide)
          exact ih.2.1 sa si le tx (by omega) (by omega) (by omega) (by omega) (by omega) (by omega) (by omega) _ _ ls hP hD hS (lv_sub hl [0] rfl)
        · have dc_10 := i_eq c_10 rfl (show Int32.toInt 46 = 46 by decide)
          refine lv_aload_n hx hb d_M_lines_110 rfl (lv_at hl 0 rfl) ?_
          refine lv_iconst (v := 1) hx hb d_M_lines_111 (by decide) ?_
          have hc_1 : Int32.toInt 1 = 1 := by decide
          have hFc := va_free (wc := (ME h g ss sa so pl si fa li co st rq bl te op wo wz sr le tx ro)) hD hS hA [0, 1, 2, 3, 4, 5, 6] rfl
          refine va_calli (va_runV (As := [.int 1]) (rest := []) ⟨hx, hb, hml, hown, ht⟩ (c_M_peek l dC dI k h g ss sa so pl si fa li co st rq bl te op wo le wz sr tx ro 1 _ (by omega) (by omega) (by omega) (by omega) (by omega) (by omega) ) (cwV 1 ht (g_V k_702 k_704 k_39 k_80 k_705) rfl rfl rfl (by decide +kernel) ⟨(Nat.le_of_ble_eq_true rfl), (Nat.le_of_ble_eq_true rfl)⟩) ⟨fb_X, va_recv hK hP (ci := 4) (q0 := 0) rfl rfl, pre_X hE hS hFc hP hK hD⟩ rfl rfl hl.1 rfl (lv_room (Nat.le_of_ble_eq_true rfl)) d_M_lines_112 ⟨(Nat.le_of_ble_eq_true rfl), (Nat.le_of_ble_eq_true rfl)⟩) hS (fun q _ h9 => hFc q h9) hFc (fun r_12 u_11 t H locs het hvm hw hB hz1 hk1 hS => ?_)
          obtain ⟨p_13, p_14⟩ := hw
          obtain ⟨hP1, hK1, hD1⟩ := hB
          rw [het] at hP1
          have hP : va_P (dC, dI) cls (ME h g ss sa so pl si fa li co st rq bl te op wo wz sr le tx ro) H := hP1
          have hD : va_D A (ME h g ss sa so pl si fa li co st rq bl te op wo wz sr le tx ro) := hD1.weaken (fun _ _ _ h9 => hFc _ h9)
          refine lv_bipush (v := 46) hx hb d_M_lines_115 (by decide) ?_
          refine lv_icmp_ne (tgt := 130) hx hb d_M_lines_117 (by decide) (fun c_15 => ?_) (fun c_15 => ?_)
          · have dc_15 := i_ne c_15 rfl (show Int32.toInt 46 = 46 by decide)
            exact ih.2.1 sa si le tx (by omega) (by omega) (by omega) (by omega) (by omega) (by omega) (by omega) _ _ ls hP hD hS (lv_sub hl [0] rfl)
          · have dc_15 := i_eq c_15 rfl (show Int32.toInt 46 = 46 by decide)
            refine lv_aload_n hx hb d_M_lines_120 rfl (lv_at hl 0 rfl) ?_
            refine lv_aload_n hx hb d_M_lines_121 rfl (lv_at hl 0 rfl) ?_
            refine va_get (D := (dC, dI)) (ci := 4) (v := .int sa) (C := "SieveDeskModel") (T := F_M) (N := 19) hx hb ht i_M hown hK hP 0 rfl rfl 4 (by decide) (ht _ k_631) (fun _ h9 => h9) rfl d_M_lines_122 ?_
            refine lv_iconst (v := 1) hx hb d_M_lines_125 (by decide) ?_
            refine lv_iadd hx hb d_M_lines_126 ?_
            have e_16 : Int32.toInt (sa + 1) = (Int32.toInt sa) + 1 := i_add rfl (show Int32.toInt 1 = 1 by decide) (by omega) (by omega)
            refine va_put (D := (dC, dI)) (ci := 4) (v := .int (sa + 1)) (ty := .int) (C := "SieveDeskModel") (T := F_M) (N := 19) hx hb ht i_M ty_M ty_M_ok n_M hown hK hP hD hS 0 rfl rfl 4 (by decide) (ht _ k_631) (fun _ h9 => h9) rfl (ty_M_ok 4 (by decide)) rfl rfl (Nat.le_of_ble_eq_true rfl) d_M_lines_127 (fun H locs hP hD hS => ?_)
            have hP : va_P (dC, dI) cls (ME h g ss (sa + 1) so pl si fa li co st rq bl te op wo wz sr le tx ro) H := hP
            have hD : va_D A (ME h g ss (sa + 1) so pl si fa li co st rq bl te op wo wz sr le tx ro) := hD
            exact ih.2.1 (sa + 1) si le tx (by omega) (by omega) (by omega) (by omega) (by omega) (by omega) (by omega) _ _ ls hP hD hS (lv_sub hl [0] rfl)
      · have dc_5 := i_eq c_5 rfl (show Int32.toInt 46 = 46 by decide)
        refine lv_aload_n hx hb d_M_lines_87 rfl (lv_at hl 0 rfl) ?_
        refine lv_aload_n hx hb d_M_lines_88 rfl (lv_at hl 0 rfl) ?_
        refine va_get (D := (dC, dI)) (ci := 4) (v := .int sa) (C := "SieveDeskModel") (T := F_M) (N := 19) hx hb ht i_M hown hK hP 0 rfl rfl 4 (by decide) (ht _ k_631) (fun _ h9 => h9) rfl d_M_lines_89 ?_
        refine lv_iconst (v := 1) hx hb d_M_lines_92 (by decide) ?_
        refine lv_iadd hx hb d_M_lines_93 ?_
        have e_17 : Int32.toInt (sa + 1) = (Int32.toInt sa) + 1 := i_add rfl (show Int32.toInt 1 = 1 by decide) (by omega) (by omega)
        have hFc := va_free (wc := (ME h g ss sa so pl si fa li co st rq bl te op wo wz sr le tx ro)) hD hS hA [0, 1, 2, 3, 4, 5, 6] rfl
        refine va_calli (va_runV (As := [.int (sa + 1)]) (rest := []) ⟨hx, hb, hml, hown, ht⟩ (c_M_endAt l dC dI k h g ss sa so pl si fa li co st rq bl te op wo le wz sr tx ro (sa + 1) _ (by omega) (by omega) (by omega) (by omega) ) (cwV 1 ht (g_V k_746 k_748 k_47 k_80 k_749) rfl rfl rfl (by decide +kernel) ⟨(Nat.le_of_ble_eq_true rfl), (Nat.le_of_ble_eq_true rfl)⟩) ⟨fb_X, va_recv hK hP (ci := 4) (q0 := 0) rfl rfl, pre_X hE hS hFc hP hK hD⟩ rfl rfl hl.1 rfl (lv_room (Nat.le_of_ble_eq_true rfl)) d_M_lines_94 ⟨(Nat.le_of_ble_eq_true rfl), (Nat.le_of_ble_eq_true rfl)⟩) hS (fun q _ h9 => hFc q h9) hFc (fun r_19 u_18 t H locs het hvm hw hB hz1 hk1 hS => ?_)
        have p_20 := hw
        obtain ⟨hP1, hK1, hD1⟩ := hB
        rw [het] at hP1
        have hP : va_P (dC, dI) cls (ME h g ss sa so pl si fa li co st rq bl te op wo wz sr le tx ro) H := hP1
        have hD : va_D A (ME h g ss sa so pl si fa li co st rq bl te op wo wz sr le tx ro) := hD1.weaken (fun _ _ _ h9 => hFc _ h9)
        refine lv_if_gt (tgt := 221) hx hb d_M_lines_97 (by decide) (fun c_21 => ?_) (fun c_21 => ?_)
        · have dc_21 := i_lt c_21 (show Int32.toInt 0 = 0 by decide) rfl
          refine lv_aload_n hx hb d_M_lines_221 rfl (lv_at hl 0 rfl) ?_
          refine lv_aload_n hx hb d_M_lines_222 rfl (lv_at hl 0 rfl) ?_
          refine va_get (D := (dC, dI)) (ci := 4) (v := .int sa) (C := "SieveDeskModel") (T := F_M) (N := 19) hx hb ht i_M hown hK hP 0 rfl rfl 4 (by decide) (ht _ k_631) (fun _ h9 => h9) rfl d_M_lines_223 ?_
          refine lv_iconst (v := 1) hx hb d_M_lines_226 (by decide) ?_
          refine lv_iadd hx hb d_M_lines_227 ?_
          have e_22 : Int32.toInt (sa + 1) = (Int32.toInt sa) + 1 := i_add rfl (show Int32.toInt 1 = 1 by decide) (by omega) (by omega)
          refine lv_aload_n hx hb d_M_lines_228 rfl (lv_at hl 0 rfl) ?_
          refine lv_aload_n hx hb d_M_lines_229 rfl (lv_at hl 0 rfl) ?_
          refine va_get (D := (dC, dI)) (ci := 4) (v := .int sa) (C := "SieveDeskModel") (T := F_M) (N := 19) hx hb ht i_M hown hK hP 0 rfl rfl 4 (by decide) (ht _ k_631) (fun _ h9 => h9) rfl d_M_lines_230 ?_
          refine lv_iconst (v := 1) hx hb d_M_lines_233 (by decide) ?_
          refine lv_iadd hx hb d_M_lines_234 ?_
          have e_23 : Int32.toInt (sa + 1) = (Int32.toInt sa) + 1 := i_add rfl (show Int32.toInt 1 = 1 by decide) (by omega) (by omega)
          have hFc := va_free (wc := (ME h g ss sa so pl si fa li co st rq bl te op wo wz sr le tx ro)) hD hS hA [0, 1, 2, 3, 4, 5, 6] rfl
          refine va_calli (va_runV (As := [.int (sa + 1)]) (rest := [.int (sa + 1), .ref (h 0)]) ⟨hx, hb, hml, hown, ht⟩ (c_M_endAt l dC dI k h g ss sa so pl si fa li co st rq bl te op wo le wz sr tx ro (sa + 1) _ (by omega) (by omega) (by omega) (by omega) ) (cwV 1 ht (g_V k_746 k_748 k_47 k_80 k_749) rfl rfl rfl (by decide +kernel) ⟨(Nat.le_of_ble_eq_true rfl), (Nat.le_of_ble_eq_true rfl)⟩) ⟨fb_X, va_recv hK hP (ci := 4) (q0 := 0) rfl rfl, pre_X hE hS hFc hP hK hD⟩ rfl rfl hl.1 rfl (lv_room (Nat.le_of_ble_eq_true rfl)) d_M_lines_235 ⟨(Nat.le_of_ble_eq_true rfl), (Nat.le_of_ble_eq_true rfl)⟩) hS (fun q _ h9 => hFc q h9) hFc (fun r_25 u_24 t H locs het hvm hw hB hz1 hk1 hS => ?_)
          have p_26 := hw
          obtain ⟨hP1, hK1, hD1⟩ := hB
          rw [het] at hP1
          have hP : va_P (dC, dI) cls (ME h g ss sa so pl si fa li co st rq bl te op wo wz sr le tx ro) H := hP1
          have hD : va_D A (ME h g ss sa so pl si fa li co st rq bl te op wo wz sr le tx ro) := hD1.weaken (fun _ _ _ h9 => hFc _ h9)
          refine lv_iadd hx hb d_M_lines_238 ?_
          have e_27 : Int32.toInt ((sa + 1) + r_25) = ((Int32.toInt sa) + 1) + (Int32.toInt r_25) := i_add e_23 rfl (by omega) (by omega)
          refine va_put (D := (dC, dI)) (ci := 4) (v := .int ((sa + 1) + r_25)) (ty := .int) (C := "SieveDeskModel") (T := F_M) (N := 19) hx hb ht i_M ty_M ty_M_ok n_M hown hK hP hD hS 0 rfl rfl 4 (by decide) (ht _ k_631) (fun _ h9 => h9) rfl (ty_M_ok 4 (by decide)) rfl rfl (Nat.le_of_ble_eq_true rfl) d_M_lines_239 (fun H locs hP hD hS => ?_)
          have hP : va_P (dC, dI) cls (ME h g ss ((sa + 1) + r_25) so pl si fa li co st rq bl te op wo wz sr le tx ro) H := hP
          have hD : va_D A (ME h g ss ((sa + 1) + r_25) so pl si fa li co st rq bl te op wo wz sr le tx ro) := hD
          refine lv_iconst (v := 4) hx hb d_M_lines_242 (by decide) ?_
          have hc_4 : Int32.toInt 4 = 4 := by decide
          exact fin 4 (((sa + 1) + r_25), si, le, tx) _ _ _ ls d_M_lines_243 ⟨(by (try dsimp only); omega), (by (try dsimp only); omega), (by (try dsimp only); omega), (by (try dsimp only); omega), (by (try dsimp only); omega), (by (try dsimp only); omega)⟩ hP hD hS
        · have dc_21 := i_nlt c_21 (show Int32.toInt 0 = 0 by decide) rfl
          refine lv_aload_n hx hb d_M_lines_100 rfl (lv_at hl 0 rfl) ?_
          refine lv_iconst (v := 0) hx hb d_M_lines_101 (by decide) ?_
          have hFc := va_free (wc := (ME h g ss sa so pl si fa li co st rq bl te op wo wz sr le tx ro)) hD hS hA [0, 1, 2, 3, 4, 5, 6] rfl
          refine va_calli (va_runV (As := [.int 0]) (rest := []) ⟨hx, hb, hml, hown, ht⟩ (c_M_peek l dC dI k h g ss sa so pl si fa li co st rq bl te op wo le wz sr tx ro 0 _ (by omega) (by omega) (by omega) (by omega) (by omega) (by omega) ) (cwV 1 ht (g_V k_702 k_704 k_39 k_80 k_705) rfl rfl rfl (by decide +kernel) ⟨(Nat.le_of_ble_eq_true rfl), (Nat.le_of_ble_eq_true rfl)⟩) ⟨fb_X, va_recv hK hP (ci := 4) (q0 := 0) rfl rfl, pre_X hE hS hFc hP hK hD⟩ rfl rfl hl.1 rfl (lv_room (Nat.le_of_ble_eq_true rfl)) d_M_lines_102 ⟨(Nat.le_of_ble_eq_true rfl), (Nat.le_of_ble_eq_true rfl)⟩) hS (fun q _ h9 => hFc q h9) hFc (fun r_29 u_28 t H locs het hvm hw hB hz1 hk1 hS => ?_)
          obtain ⟨p_30, p_31⟩ := hw
          obtain ⟨hP1, hK1, hD1⟩ := hB
          rw [het] at hP1
          have hP : va_P (dC, dI) cls (ME h g ss sa so pl si fa li co st rq bl te op wo wz sr le tx ro) H := hP1
          have hD : va_D A (ME h g ss sa so pl si fa li co st rq bl te op wo wz sr le tx ro) := hD1.weaken (fun _ _ _ h9 => hFc _ h9)
          refine lv_bipush (v := 46) hx hb d_M_lines_105 (by decide) ?_
          refine lv_icmp_ne (tgt := 130) hx hb d_M_lines_107 (by decide) (fun c_32 => ?_) (fun c_32 => ?_)
          · have dc_32 := i_ne c_32 rfl (show Int32.toInt 46 = 46 by decide)
            exact ih.2.1 sa si le tx (by omega) (by omega) (by omega) (by omega) (by omega) (by omega) (by omega) _ _ ls hP hD hS (lv_sub hl [0] rfl)
          · have dc_32 := i_eq c_32 rfl (show Int32.toInt 46 = 46 by decide)
            refine lv_aload_n hx hb d_M_lines_110 rfl (lv_at hl 0 rfl) ?_
            refine lv_iconst (v := 1) hx hb d_M_lines_111 (by decide) ?_
            have hc_1 : Int32.toInt 1 = 1 := by decide
            have hFc := va_free (wc := (ME h g ss sa so pl si fa li co st rq bl te op wo wz sr le tx ro)) hD hS hA [0, 1, 2, 3, 4, 5, 6] rfl
            refine va_calli (va_runV (As := [.int 1]) (rest := []) ⟨hx, hb, hml, hown, ht⟩ (c_M_peek l dC dI k h g ss sa so pl si fa li co st rq bl te op wo le wz sr tx ro 1 _ (by omega) (by omega) (by omega) (by omega) (by omega) (by omega) ) (cwV 1 ht (g_V k_702 k_704 k_39 k_80 k_705) rfl rfl rfl (by decide +kernel) ⟨(Nat.le_of_ble_eq_true rfl), (Nat.le_of_ble_eq_true rfl)⟩) ⟨fb_X, va_recv hK hP (ci := 4) (q0 := 0) rfl rfl, pre_X hE hS hFc hP hK hD⟩ rfl rfl hl.1 rfl (lv_room (Nat.le_of_ble_eq_true rfl)) d_M_lines_112 ⟨(Nat.le_of_ble_eq_true rfl), (Nat.le_of_ble_eq_true rfl)⟩) hS (fun q _ h9 => hFc q h9) hFc (fun r_34 u_33 t H locs het hvm hw hB hz1 hk1 hS => ?_)
            obtain ⟨p_35, p_36⟩ := hw
            obtain ⟨hP1, hK1, hD1⟩ := hB
            rw [het] at hP1
            have hP : va_P (dC, dI) cls (ME h g ss sa so pl si fa li co st rq bl te op wo wz sr le tx ro) H := hP1
            have hD : va_D A (ME h g ss sa so pl si fa li co st rq bl te op wo wz sr le tx ro) := hD1.weaken (fun _ _ _ h9 => hFc _ h9)
            refine lv_bipush (v := 46) hx hb d_M_lines_115 (by decide) ?_
            refine lv_icmp_ne (tgt := 130) hx hb d_M_lines_117 (by decide) (fun c_37 => ?_) (fun c_37 => ?_)
            · have dc_37 := i_ne c_37 rfl (show Int32.toInt 46 = 46 by decide)
              exact ih.2.1 sa si le tx (by omega) (by omega) (by omega) (by omega) (by omega) (by omega) (by omega) _ _ ls hP hD hS (lv_sub hl [0] rfl)
            · have dc_37 := i_eq c_37 rfl (show Int32.toInt 46 = 46 by decide)
              refine lv_aload_n hx hb d_M_lines_120 rfl (lv_at hl 0 rfl) ?_
              refine lv_aload_n hx hb d_M_lines_121 rfl (lv_at hl 0 rfl) ?_
              refine va_get (D := (dC, dI)) (ci := 4) (v := .int sa) (C := "SieveDeskModel") (T := F_M) (N := 19) hx hb ht i_M hown hK hP 0 rfl rfl 4 (by decide) (ht _ k_631) (fun _ h9 => h9) rfl d_M_lines_122 ?_
              refine lv_iconst (v := 1) hx hb d_M_lines_125 (by decide) ?_
              refine lv_iadd hx hb d_M_lines_126 ?_
              have e_38 : Int32.toInt (sa + 1) = (Int32.toInt sa) + 1 := i_add rfl (show Int32.toInt 1 = 1 by decide) (by omega) (by omega)
              refine va_put (D := (dC, dI)) (ci := 4) (v := .int (sa + 1)) (ty := .int) (C := "SieveDeskModel") (T := F_M) (N := 19) hx hb ht i_M ty_M ty_M_ok n_M hown hK hP hD hS 0 rfl rfl 4 (by decide) (ht _ k_631) (fun _ h9 => h9) rfl (ty_M_ok 4 (by decide)) rfl rfl (Nat.le_of_ble_eq_true rfl) d_M_lines_127 (fun H locs hP hD hS => ?_)
              have hP : va_P (dC, dI) cls (ME h g ss (sa + 1) so pl si fa li co st rq bl te op wo wz sr le tx ro) H := hP
              have hD : va_D A (ME h g ss (sa + 1) so pl si fa li co st rq bl te op wo wz sr le tx ro) := hD
              exact ih.2.1 (sa + 1) si le tx (by omega) (by omega) (by omega) (by omega) (by omega) (by omega) (by omega) _ _ ls hP hD hS (lv_sub hl [0] rfl)
    · intro sa si le tx v_0 v_1 v_2 v_3 v_4 v_5 hm H locs ls hP hD hS hl
      refine lv_aload_n hx hb d_M_lines_130 rfl (lv_at hl 0 rfl) ?_
      refine lv_iconst (v := 0) hx hb d_M_lines_131 (by decide) ?_
      have hc_0 : Int32.toInt 0 = 0 := by decide
      have hFc := va_free (wc := (ME h g ss sa so pl si fa li co st rq bl te op wo wz sr le tx ro)) hD hS hA [0, 1, 2, 3, 4, 5, 6] rfl
      refine va_calli (va_runV (As := [.int 0]) (rest := []) ⟨hx, hb, hml, hown, ht⟩ (c_M_peek l dC dI k h g ss sa so pl si fa li co st rq bl te op wo le wz sr tx ro 0 _ (by omega) (by omega) (by omega) (by omega) (by omega) (by omega) ) (cwV 1 ht (g_V k_702 k_704 k_39 k_80 k_705) rfl rfl rfl (by decide +kernel) ⟨(Nat.le_of_ble_eq_true rfl), (Nat.le_of_ble_eq_true rfl)⟩) ⟨fb_X, va_recv hK hP (ci := 4) (q0 := 0) rfl rfl, pre_X hE hS hFc hP hK hD⟩ rfl rfl hl.1 rfl (lv_room (Nat.le_of_ble_eq_true rfl)) d_M_lines_132 ⟨(Nat.le_of_ble_eq_true rfl), (Nat.le_of_ble_eq_true rfl)⟩) hS (fun q _ h9 => hFc q h9) hFc (fun r_40 u_39 t H locs het hvm hw hB hz1 hk1 hS => ?_)
      obtain ⟨p_41, p_42⟩ := hw
      obtain ⟨hP1, hK1, hD1⟩ := hB
      rw [het] at hP1
      have hP : va_P (dC, dI) cls (ME h g ss sa so pl si fa li co st rq bl te op wo wz sr le tx ro) H := hP1
      have hD : va_D A (ME h g ss sa so pl si fa li co st rq bl te op wo wz sr le tx ro) := hD1.weaken (fun _ _ _ h9 => hFc _ h9)
      refine lv_if_lt (tgt := 171) hx hb d_M_lines_135 (by decide) (fun c_43 => ?_) (fun c_43 => ?_)
      · have dc_43 := i_lt c_43 rfl (show Int32.toInt 0 = 0 by decide)
        refine lv_aload_n hx hb d_M_lines_171 rfl (lv_at hl 0 rfl) ?_
        refine lv_aload_n hx hb d_M_lines_172 rfl (lv_at hl 0 rfl) ?_
        refine va_get (D := (dC, dI)) (ci := 4) (v := .int sa) (C := "SieveDeskModel") (T := F_M) (N := 19) hx hb ht i_M hown hK hP 0 rfl rfl 4 (by decide) (ht _ k_631) (fun _ h9 => h9) rfl d_M_lines_173 ?_
        have hFc := va_free (wc := (ME h g ss sa so pl si fa li co st rq bl te op wo wz sr le tx ro)) hD hS hA [0, 1, 2, 3, 4, 5, 6] rfl
        refine va_calli (va_runV (As := [.int sa]) (rest := []) ⟨hx, hb, hml, hown, ht⟩ (c_M_endAt l dC dI k h g ss sa so pl si fa li co st rq bl te op wo le wz sr tx ro sa _ (by omega) (by omega) (by omega) (by omega) ) (cwV 1 ht (g_V k_746 k_748 k_47 k_80 k_749) rfl rfl rfl (by decide +kernel) ⟨(Nat.le_of_ble_eq_true rfl), (Nat.le_of_ble_eq_true rfl)⟩) ⟨fb_X, va_recv hK hP (ci := 4) (q0 := 0) rfl rfl, pre_X hE hS hFc hP hK hD⟩ rfl rfl hl.1 rfl (lv_room (Nat.le_of_ble_eq_true rfl)) d_M_lines_176 ⟨(Nat.le_of_ble_eq_true rfl), (Nat.le_of_ble_eq_true rfl)⟩) hS (fun q _ h9 => hFc q h9) hFc (fun r_45 u_44 t H locs het hvm hw hB hz1 hk1 hS => ?_)
        have p_46 := hw
        obtain ⟨hP1, hK1, hD1⟩ := hB
        rw [het] at hP1
        have hP : va_P (dC, dI) cls (ME h g ss sa so pl si fa li co st rq bl te op wo wz sr le tx ro) H := hP1
        have hD : va_D A (ME h g ss sa so pl si fa li co st rq bl te op wo wz sr le tx ro) := hD1.weaken (fun _ _ _ h9 => hFc _ h9)
        refine lv_istore_n (lv' := [(1, .int r_45), (0, .ref (h 0))]) hx hb d_M_lines_179 rfl hl (by decide) rfl (fun ls hl => ?_)
        refine lv_iload_n hx hb d_M_lines_180 rfl (lv_at hl 0 rfl) ?_
        refine lv_if_ne (tgt := 186) hx hb d_M_lines_181 (by decide) (fun c_47 => ?_) (fun c_47 => ?_)
        · have dc_47 := i_ne c_47 rfl (show Int32.toInt 0 = 0 by decide)
          refine lv_iconst (v := 0) hx hb d_M_lines_186 (by decide) ?_
          refine lv_istore_n (lv' := [(2, .int 0), (1, .int r_45), (0, .ref (h 0))]) hx hb d_M_lines_187 rfl hl (by decide) rfl (fun ls hl => ?_)
          exact ih.2.2 r_45 0 sa si le tx (by omega) (by omega) (by omega) (by omega) (by omega) (by omega) (by omega) (by omega) (by omega) (by omega) (by omega) _ _ ls hP hD hS (lv_sub hl [1, 0, 2] rfl)
        · have dc_47 := i_eq c_47 rfl (show Int32.toInt 0 = 0 by decide)
          refine lv_iconst (v := 5) hx hb d_M_lines_184 (by decide) ?_
          have hc_5 : Int32.toInt 5 = 5 := by decide
          exact fin 5 (sa, si, le, tx) _ _ _ ls d_M_lines_185 ⟨(by (try dsimp only); omega), (by (try dsimp only); omega), (by (try dsimp only); omega), (by (try dsimp only); omega), (by (try dsimp only); omega), (by (try dsimp only); omega)⟩ hP hD hS
      · have dc_43 := i_nlt c_43 rfl (show Int32.toInt 0 = 0 by decide)
        refine lv_aload_n hx hb d_M_lines_138 rfl (lv_at hl 0 rfl) ?_
        refine lv_aload_n hx hb d_M_lines_139 rfl (lv_at hl 0 rfl) ?_
        refine va_get (D := (dC, dI)) (ci := 4) (v := .int sa) (C := "SieveDeskModel") (T := F_M) (N := 19) hx hb ht i_M hown hK hP 0 rfl rfl 4 (by decide) (ht _ k_631) (fun _ h9 => h9) rfl d_M_lines_140 ?_
        have hFc := va_free (wc := (ME h g ss sa so pl si fa li co st rq bl te op wo wz sr le tx ro)) hD hS hA [0, 1, 2, 3, 4, 5, 6] rfl
        refine va_calli (va_runV (As := [.int sa]) (rest := []) ⟨hx, hb, hml, hown, ht⟩ (c_M_endAt l dC dI k h g ss sa so pl si fa li co st rq bl te op wo le wz sr tx ro sa _ (by omega) (by omega) (by omega) (by omega) ) (cwV 1 ht (g_V k_746 k_748 k_47 k_80 k_749) rfl rfl rfl (by decide +kernel) ⟨(Nat.le_of_ble_eq_true rfl), (Nat.le_of_ble_eq_true rfl)⟩) ⟨fb_X, va_recv hK hP (ci := 4) (q0 := 0) rfl rfl, pre_X hE hS hFc hP hK hD⟩ rfl rfl hl.1 rfl (lv_room (Nat.le_of_ble_eq_true rfl)) d_M_lines_143 ⟨(Nat.le_of_ble_eq_true rfl), (Nat.le_of_ble_eq_true rfl)⟩) hS (fun q _ h9 => hFc q h9) hFc (fun r_49 u_48 t H locs het hvm hw hB hz1 hk1 hS => ?_)
        have p_50 := hw
        obtain ⟨hP1, hK1, hD1⟩ := hB
        rw [het] at hP1
        have hP : va_P (dC, dI) cls (ME h g ss sa so pl si fa li co st rq bl te op wo wz sr le tx ro) H := hP1
        have hD : va_D A (ME h g ss sa so pl si fa li co st rq bl te op wo wz sr le tx ro) := hD1.weaken (fun _ _ _ h9 => hFc _ h9)
        refine lv_if_ne (tgt := 171) hx hb d_M_lines_146 (by decide) (fun c_51 => ?_) (fun c_51 => ?_)
        · have dc_51 := i_ne c_51 rfl (show Int32.toInt 0 = 0 by decide)
          refine lv_aload_n hx hb d_M_lines_171 rfl (lv_at hl 0 rfl) ?_
          refine lv_aload_n hx hb d_M_lines_172 rfl (lv_at hl 0 rfl) ?_
          refine va_get (D := (dC, dI)) (ci := 4) (v := .int sa) (C := "SieveDeskModel") (T := F_M) (N := 19) hx hb ht i_M hown hK hP 0 rfl rfl 4 (by decide) (ht _ k_631) (fun _ h9 => h9) rfl d_M_lines_173 ?_
          have hFc := va_free (wc := (ME h g ss sa so pl si fa li co st rq bl te op wo wz sr le tx ro)) hD hS hA [0, 1, 2, 3, 4, 5, 6] rfl
          refine va_calli (va_runV (As := [.int sa]) (rest := []) ⟨hx, hb, hml, hown, ht⟩ (c_M_endAt l dC dI k h g ss sa so pl si fa li co st rq bl te op wo le wz sr tx ro sa _ (by omega) (by omega) (by omega) (by omega) ) (cwV 1 ht (g_V k_746 k_748 k_47 k_80 k_749) rfl rfl rfl (by decide +kernel) ⟨(Nat.le_of_ble_eq_true rfl), (Nat.le_of_ble_eq_true rfl)⟩) ⟨fb_X, va_recv hK hP (ci := 4) (q0 := 0) rfl rfl, pre_X hE hS hFc hP hK hD⟩ rfl rfl hl.1 rfl (lv_room (Nat.le_of_ble_eq_true rfl)) d_M_lines_176 ⟨(Nat.le_of_ble_eq_true rfl), (Nat.le_of_ble_eq_true rfl)⟩) hS (fun q _ h9 => hFc q h9) hFc (fun r_53 u_52 t H locs het hvm hw hB hz1 hk1 hS => ?_)
          have p_54 := hw
          obtain ⟨hP1, hK1, hD1⟩ := hB
          rw [het] at hP1
          have hP : va_P (dC, dI) cls (ME h g ss sa so pl si fa li co st rq bl te op wo wz sr le tx ro) H := hP1
          have hD : va_D A (ME h g ss sa so pl si fa li co st rq bl te op wo wz sr le tx ro) := hD1.weaken (fun _ _ _ h9 => hFc _ h9)
          refine lv_istore_n (lv' := [(1, .int r_53), (0, .ref (h 0))]) hx hb d_M_lines_179 rfl hl (by decide) rfl (fun ls hl => ?_)
          refine lv_iload_n hx hb d_M_lines_180 rfl (lv_at hl 0 rfl) ?_
          refine lv_if_ne (tgt := 186) hx hb d_M_lines_181 (by decide) (fun c_55 => ?_) (fun c_55 => ?_)
          · have dc_55 := i_ne c_55 rfl (show Int32.toInt 0 = 0 by decide)
            refine lv_iconst (v := 0) hx hb d_M_lines_186 (by decide) ?_
            refine lv_istore_n (lv' := [(2, .int 0), (1, .int r_53), (0, .ref (h 0))]) hx hb d_M_lines_187 rfl hl (by decide) rfl (fun ls hl => ?_)
            exact ih.2.2 r_53 0 sa si le tx (by omega) (by omega) (by omega) (by omega) (by omega) (by omega) (by omega) (by omega) (by omega) (by omega) (by omega) _ _ ls hP hD hS (lv_sub hl [1, 0, 2] rfl)
          · have dc_55 := i_eq c_55 rfl (show Int32.toInt 0 = 0 by decide)
            refine lv_iconst (v := 5) hx hb d_M_lines_184 (by decide) ?_
            have hc_5 : Int32.toInt 5 = 5 := by decide
            exact fin 5 (sa, si, le, tx) _ _ _ ls d_M_lines_185 ⟨(by (try dsimp only); omega), (by (try dsimp only); omega), (by (try dsimp only); omega), (by (try dsimp only); omega), (by (try dsimp only); omega), (by (try dsimp only); omega)⟩ hP hD hS
        · have dc_51 := i_eq c_51 rfl (show Int32.toInt 0 = 0 by decide)
          refine lv_aload_n hx hb d_M_lines_149 rfl (lv_at hl 0 rfl) ?_
          refine lv_aload_n hx hb d_M_lines_150 rfl (lv_at hl 0 rfl) ?_
          refine lv_iconst (v := 0) hx hb d_M_lines_151 (by decide) ?_
          have hFc := va_free (wc := (ME h g ss sa so pl si fa li co st rq bl te op wo wz sr le tx ro)) hD hS hA [0, 1, 2, 3, 4, 5, 6] rfl
          refine va_calli (va_runV (As := [.int 0]) (rest := [.ref (h 0)]) ⟨hx, hb, hml, hown, ht⟩ (c_M_peek l dC dI k h g ss sa so pl si fa li co st rq bl te op wo le wz sr tx ro 0 _ (by omega) (by omega) (by omega) (by omega) (by omega) (by omega) ) (cwV 1 ht (g_V k_702 k_704 k_39 k_80 k_705) rfl rfl rfl (by decide +kernel) ⟨(Nat.le_of_ble_eq_true rfl), (Nat.le_of_ble_eq_true rfl)⟩) ⟨fb_X, va_recv hK hP (ci := 4) (q0 := 0) rfl rfl, pre_X hE hS hFc hP hK hD⟩ rfl rfl hl.1 rfl (lv_room (Nat.le_of_ble_eq_true rfl)) d_M_lines_152 ⟨(Nat.le_of_ble_eq_true rfl), (Nat.le_of_ble_eq_true rfl)⟩) hS (fun q _ h9 => hFc q h9) hFc (fun r_57 u_56 t H locs het hvm hw hB hz1 hk1 hS => ?_)
          obtain ⟨p_58, p_59⟩ := hw
          obtain ⟨hP1, hK1, hD1⟩ := hB
          rw [het] at hP1
          have hP : va_P (dC, dI) cls (ME h g ss sa so pl si fa li co st rq bl te op wo wz sr le tx ro) H := hP1
          have hD : va_D A (ME h g ss sa so pl si fa li co st rq bl te op wo wz sr le tx ro) := hD1.weaken (fun _ _ _ h9 => hFc _ h9)
          have hFc := va_free (wc := (ME h g ss sa so pl si fa li co st rq bl te op wo wz sr le tx ro)) hD hS hA [0, 1, 2, 3, 4, 5, 6] rfl
          refine va_callv (va_runV (As := [.int r_57]) (rest := []) ⟨hx, hb, hml, hown, ht⟩ (c_M_add l dC dI k h g ss sa so pl si fa li co st rq bl te op wo le wz sr tx ro r_57 _  (by omega) (by omega) (by omega)) (cwV 1 ht (g_V k_727 k_729 k_43 k_80 k_730) rfl rfl rfl (by decide +kernel) ⟨(Nat.le_of_ble_eq_true rfl), (Nat.le_of_ble_eq_true rfl)⟩) ⟨fb_X, va_recv hK hP (ci := 4) (q0 := 0) rfl rfl, pre_X hE hS hFc hP hK hD⟩ rfl rfl hl.1 rfl (lv_room (Nat.le_of_ble_eq_true rfl)) d_M_lines_155 ⟨(Nat.le_of_ble_eq_true rfl), (Nat.le_of_ble_eq_true rfl)⟩) hS (fun q _ h9 => hFc q h9) hFc (fun u_63 t H locs het hvm hw hB hz1 hk1 hS => ?_)
          obtain ⟨si_60, le_61, tx_62⟩ := u_63
          try dsimp only at hw
          obtain ⟨p_65, p_66, p_67⟩ := hw
          obtain ⟨hP1, hK1, hD1⟩ := hB
          rw [het] at hP1
          have hP : va_P (dC, dI) cls (ME h g ss sa so pl si_60 fa li co st rq bl te op wo wz sr le_61 tx_62 ro) H := hP1
          have hD : va_D A (ME h g ss sa so pl si_60 fa li co st rq bl te op wo wz sr le_61 tx_62 ro) := hD1.weaken (fun _ _ _ h9 => hFc _ h9)
          refine lv_aload_n hx hb d_M_lines_158 rfl (lv_at hl 0 rfl) ?_
          refine lv_aload_n hx hb d_M_lines_159 rfl (lv_at hl 0 rfl) ?_
          refine va_get (D := (dC, dI)) (ci := 4) (v := .int sa) (C := "SieveDeskModel") (T := F_M) (N := 19) hx hb ht i_M hown hK hP 0 rfl rfl 4 (by decide) (ht _ k_631) (fun _ h9 => h9) rfl d_M_lines_160 ?_
          refine lv_iconst (v := 1) hx hb d_M_lines_163 (by decide) ?_
          refine lv_iadd hx hb d_M_lines_164 ?_
          have e_68 : Int32.toInt (sa + 1) = (Int32.toInt sa) + 1 := i_add rfl (show Int32.toInt 1 = 1 by decide) (by omega) (by omega)
          refine va_put (D := (dC, dI)) (ci := 4) (v := .int (sa + 1)) (ty := .int) (C := "SieveDeskModel") (T := F_M) (N := 19) hx hb ht i_M ty_M ty_M_ok n_M hown hK hP hD hS 0 rfl rfl 4 (by decide) (ht _ k_631) (fun _ h9 => h9) rfl (ty_M_ok 4 (by decide)) rfl rfl (Nat.le_of_ble_eq_true rfl) d_M_lines_165 (fun H locs hP hD hS => ?_)
          have hP : va_P (dC, dI) cls (ME h g ss (sa + 1) so pl si_60 fa li co st rq bl te op wo wz sr le_61 tx_62 ro) H := hP
          have hD : va_D A (ME h g ss (sa + 1) so pl si_60 fa li co st rq bl te op wo wz sr le_61 tx_62 ro) := hD
          refine lv_goto (tgt := 130) hx hb d_M_lines_168 (by decide) ?_
          exact ih.2.1 (sa + 1) si_60 le_61 tx_62 (by omega) (by omega) (by omega) (by omega) (by omega) (by omega) (by omega) _ _ ls hP hD hS (lv_sub hl [0] rfl)
    · intro ee kk sa si le tx v_0 v_1 v_2 v_3 v_4 v_5 v_6 v_7 v_8 v_9 hm H locs ls hP hD hS hl
      refine lv_iload_n hx hb d_M_lines_188 rfl (lv_at hl 1 rfl) ?_
      refine lv_iload_n hx hb d_M_lines_189 rfl (lv_at hl 0 rfl) ?_
      refine lv_icmp_ge (tgt := 218) hx hb d_M_lines_190 (by decide) (fun c_69 => ?_) (fun c_69 => ?_)
      · have dc_69 := i_le c_69 rfl rfl
        refine lv_goto (tgt := 77) hx hb d_M_lines_218 (by decide) ?_
        exact ih.1 sa si le tx (by omega) (by omega) (by omega) (by omega) (by omega) (by omega) (by omega) _ _ ls hP hD hS (lv_sub hl [2] rfl)
      · have dc_69 := i_nle c_69 rfl rfl
        refine lv_aload_n hx hb d_M_lines_193 rfl (lv_at hl 2 rfl) ?_
        refine lv_aload_n hx hb d_M_lines_194 rfl (lv_at hl 2 rfl) ?_
        refine lv_iconst (v := 0) hx hb d_M_lines_195 (by decide) ?_
        have hc_0 : Int32.toInt 0 = 0 := by decide
        have hFc := va_free (wc := (ME h g ss sa so pl si fa li co st rq bl te op wo wz sr le tx ro)) hD hS hA [0, 1, 2, 3, 4, 5, 6] rfl
        refine va_calli (va_runV (As := [.int 0]) (rest := [.ref (h 0)]) ⟨hx, hb, hml, hown, ht⟩ (c_M_peek l dC dI k h g ss sa so pl si fa li co st rq bl te op wo le wz sr tx ro 0 _ (by omega) (by omega) (by omega) (by omega) (by omega) (by omega) ) (cwV 1 ht (g_V k_702 k_704 k_39 k_80 k_705) rfl rfl rfl (by decide +kernel) ⟨(Nat.le_of_ble_eq_true rfl), (Nat.le_of_ble_eq_true rfl)⟩) ⟨fb_X, va_recv hK hP (ci := 4) (q0 := 0) rfl rfl, pre_X hE hS hFc hP hK hD⟩ rfl rfl hl.1 rfl (lv_room (Nat.le_of_ble_eq_true rfl)) d_M_lines_196 ⟨(Nat.le_of_ble_eq_true rfl), (Nat.le_of_ble_eq_true rfl)⟩) hS (fun q _ h9 => hFc q h9) hFc (fun r_71 u_70 t H locs het hvm hw hB hz1 hk1 hS => ?_)
        obtain ⟨p_72, p_73⟩ := hw
        obtain ⟨hP1, hK1, hD1⟩ := hB
        rw [het] at hP1
        have hP : va_P (dC, dI) cls (ME h g ss sa so pl si fa li co st rq bl te op wo wz sr le tx ro) H := hP1
        have hD : va_D A (ME h g ss sa so pl si fa li co st rq bl te op wo wz sr le tx ro) := hD1.weaken (fun _ _ _ h9 => hFc _ h9)
        have hFc := va_free (wc := (ME h g ss sa so pl si fa li co st rq bl te op wo wz sr le tx ro)) hD hS hA [0, 1, 2, 3, 4, 5, 6] rfl
        refine va_callv (va_runV (As := [.int r_71]) (rest := []) ⟨hx, hb, hml, hown, ht⟩ (c_M_add l dC dI k h g ss sa so pl si fa li co st rq bl te op wo le wz sr tx ro r_71 _  (by omega) (by omega) (by omega)) (cwV 1 ht (g_V k_727 k_729 k_43 k_80 k_730) rfl rfl rfl (by decide +kernel) ⟨(Nat.le_of_ble_eq_true rfl), (Nat.le_of_ble_eq_true rfl)⟩) ⟨fb_X, va_recv hK hP (ci := 4) (q0 := 0) rfl rfl, pre_X hE hS hFc hP hK hD⟩ rfl rfl hl.1 rfl (lv_room (Nat.le_of_ble_eq_true rfl)) d_M_lines_199 ⟨(Nat.le_of_ble_eq_true rfl), (Nat.le_of_ble_eq_true rfl)⟩) hS (fun q _ h9 => hFc q h9) hFc (fun u_77 t H locs het hvm hw hB hz1 hk1 hS => ?_)
        obtain ⟨si_74, le_75, tx_76⟩ := u_77
        try dsimp only at hw
        obtain ⟨p_79, p_80, p_81⟩ := hw
        obtain ⟨hP1, hK1, hD1⟩ := hB
        rw [het] at hP1
        have hP : va_P (dC, dI) cls (ME h g ss sa so pl si_74 fa li co st rq bl te op wo wz sr le_75 tx_76 ro) H := hP1
        have hD : va_D A (ME h g ss sa so pl si_74 fa li co st rq bl te op wo wz sr le_75 tx_76 ro) := hD1.weaken (fun _ _ _ h9 => hFc _ h9)
        refine lv_aload_n hx hb d_M_lines_202 rfl (lv_at hl 2 rfl) ?_
        refine lv_aload_n hx hb d_M_lines_203 rfl (lv_at hl 2 rfl) ?_
        refine va_get (D := (dC, dI)) (ci := 4) (v := .int sa) (C := "SieveDeskModel") (T := F_M) (N := 19) hx hb ht i_M hown hK hP 0 rfl rfl 4 (by decide) (ht _ k_631) (fun _ h9 => h9) rfl d_M_lines_204 ?_
        refine lv_iconst (v := 1) hx hb d_M_lines_207 (by decide) ?_
        refine lv_iadd hx hb d_M_lines_208 ?_
        have e_82 : Int32.toInt (sa + 1) = (Int32.toInt sa) + 1 := i_add rfl (show Int32.toInt 1 = 1 by decide) (by omega) (by omega)
        refine va_put (D := (dC, dI)) (ci := 4) (v := .int (sa + 1)) (ty := .int) (C := "SieveDeskModel") (T := F_M) (N := 19) hx hb ht i_M ty_M ty_M_ok n_M hown hK hP hD hS 0 rfl rfl 4 (by decide) (ht _ k_631) (fun _ h9 => h9) rfl (ty_M_ok 4 (by decide)) rfl rfl (Nat.le_of_ble_eq_true rfl) d_M_lines_209 (fun H locs hP hD hS => ?_)
        have hP : va_P (dC, dI) cls (ME h g ss (sa + 1) so pl si_74 fa li co st rq bl te op wo wz sr le_75 tx_76 ro) H := hP
        have hD : va_D A (ME h g ss (sa + 1) so pl si_74 fa li co st rq bl te op wo wz sr le_75 tx_76 ro) := hD
        refine lv_iinc (v := (kk + 1)) (lv' := [(2, .int (kk + 1)), (1, .int ee), (0, .ref (h 0))]) hx hb d_M_lines_212 hl (k := 1) rfl rfl (by decide) rfl (fun ls hl => ?_)
        have e_83 : Int32.toInt (kk + 1) = (Int32.toInt kk) + 1 := i_add rfl (show Int32.toInt 1 = 1 by decide) (by omega) (by omega)
        refine lv_goto (tgt := 188) hx hb d_M_lines_215 (by decide) ?_
        exact ih.2.2 ee (kk + 1) (sa + 1) si_74 le_75 tx_76 (by omega) (by omega) (by omega) (by omega) (by omega) (by omega) (by omega) (by omega) (by omega) (by omega) (by omega) _ _ ls hP hD hS (lv_sub hl [1, 0, 2] rfl)
set_option maxHeartbeats 4000000 in
set_option maxRecDepth 100000 in
theorem lp_M_lines_10 {p : Program} {l : Launch} {e : Env} {s : State} {m : MethodId} {args : Array Value} {below : List Frame} {meth : Method} {c : Code} {Q : State → Prop} {A : Nat → Prop} {dC : Nat → ClassId} {dI : Nat → Nat → Nat} {k h : Nat → Nat} {g : Nat → ClassId} {ss : Int32} {so : Int32} {pl : Int32} {fa : Int32} {li : Int32} {co : Int32} {st : Int32} {rq : Int32} {bl : Int32} {te : Int32} {op : Int32} {wo : Nat → Int64} {wz : Nat → Int32} {sr : Nat → Int32} {ro : Nat → Int32} {sa0 : Int32} (hx : p.tables.exec = Jvm.exec) (hb : c.code = b_M_lines) (hml : c.maxLocals = 3) (hown : s.vm.findClass "SieveDeskModel" = some m.cls) (ht : ∀ w ∈ TT, w.before args s = true) (hE : KE k A s s.heap) (hA : ∀ q : Nat, s.heap.size ≤ q → A q) (hK : va_K (dC, dI) cls (TM g) s)  (h_0 : 0 ≤ Int32.toInt ss) (h_1 : Int32.toInt ss ≤ 400) (fin : ∀ (r : Int32) (u : Int32 × Int32 × (Nat → Int64) × (Nat → Int32)) (H : Heap) (locs : List Loc) (pc : Nat) (ls : Array Slot), decode b_M_lines pc = .ok (.ireturn, 1) → (0 ≤ Int32.toInt u.1 ∧ Int32.toInt u.1 ≤ Int32.toInt ss ∧ 0 ≤ Int32.toInt u.2.1 ∧ Int32.toInt u.2.1 ≤ 400 ∧ Int32.toInt sa0 ≤ Int32.toInt u.1 ∧ (Int32.toInt r = 5 ∨ Int32.toInt r = 4)) → va_P (dC, dI) cls (ME h g ss u.1 so pl u.2.1 fa li co st rq bl te op wo wz sr u.2.2.1 u.2.2.2 ro) H → va_D A (ME h g ss u.1 so pl u.2.1 fa li co st rq bl te op wo wz sr u.2.2.1 u.2.2.2 ro) → va_S A s.heap H locs → W p l e ({ frames := 2, cells := 0, slots := 0, locals := 41 } : Room) s m args below meth c H locs 0 0 Q (F0 m pc ls [.int r])) : ∀ (nn : Nat), ∀ (sa : Int32) (si : Int32) (le : Nat → Int64) (tx : Nat → Int32), Int32.toInt sa0 ≤ Int32.toInt sa → 0 ≤ Int32.toInt sa → Int32.toInt sa ≤ Int32.toInt ss → 0 ≤ Int32.toInt si → Int32.toInt si ≤ 400 → (Int32.toInt ss - Int32.toInt sa).toNat < nn → ∀ (H : Heap) (locs : List Loc) (ls : Array Slot), va_P (dC, dI) cls (ME h g ss sa so pl si fa li co st rq bl te op wo wz sr le tx ro) H → va_D A (ME h g ss sa so pl si fa li co st rq bl te op wo wz sr le tx ro) → va_S A s.heap H locs → lv_has ls 3 [(0, .ref (h 0))] → W p l e ({ frames := 2, cells := 0, slots := 0, locals := 41 } : Room) s m args below meth c H locs 0 0 Q (F0 m 10 ls []) := by
  intro nn
  induction nn with
  | zero =>
    intro _ _ _ _ _ _ _ _ _ hm
    exact absurd hm (Nat.not_lt_zero _)
  | succ nn ih =>
    intro sa si le tx v_0 v_1 v_2 v_3 v_4 hm H locs ls hP hD hS hl
    refine lv_aload_n hx hb d_M_lines_10 rfl (lv_at hl 0 rfl) ?_
    refine lv_iconst (v := 0) hx hb d_M_lines_11 (by decide) ?_
    have hc_0 : Int32.toInt 0 = 0 := by decide
    have hFc := va_free (wc := (ME h g ss sa so pl si fa li co st rq bl te op wo wz sr le tx ro)) hD hS hA [0, 1, 2, 3, 4, 5, 6] rfl
    refine va_calli (va_runV (As := [.int 0]) (rest := []) ⟨hx, hb, hml, hown, ht⟩ (c_M_peek l dC dI k h g ss sa so pl si fa li co st rq bl te op wo le wz sr tx ro 0 _ (by omega) (by omega) (by omega) (by omega) (by omega) (by omega) ) (cwV 1 ht (g_V k_702 k_704 k_39 k_80 k_705) rfl rfl rfl (by decide +kernel) ⟨(Nat.le_of_ble_eq_true rfl), (Nat.le_of_ble_eq_true rfl)⟩) ⟨fb_X, va_recv hK hP (ci := 4) (q0 := 0) rfl rfl, pre_X hE hS hFc hP hK hD⟩ rfl rfl hl.1 rfl (lv_room (Nat.le_of_ble_eq_true rfl)) d_M_lines_12 ⟨(Nat.le_of_ble_eq_true rfl), (Nat.le_of_ble_eq_true rfl)⟩) hS (fun q _ h9 => hFc q h9) hFc (fun r_85 u_84 t H locs het hvm hw hB hz1 hk1 hS => ?_)
    obtain ⟨p_86, p_87⟩ := hw
    obtain ⟨hP1, hK1, hD1⟩ := hB
    rw [het] at hP1
    have hP : va_P (dC, dI) cls (ME h g ss sa so pl si fa li co st rq bl te op wo wz sr le tx ro) H := hP1
    have hD : va_D A (ME h g ss sa so pl si fa li co st rq bl te op wo wz sr le tx ro) := hD1.weaken (fun _ _ _ h9 => hFc _ h9)
    refine lv_bipush (v := 32) hx hb d_M_lines_15 (by decide) ?_
    refine lv_icmp_eq (tgt := 30) hx hb d_M_lines_17 (by decide) (fun c_88 => ?_) (fun c_88 => ?_)
    · have dc_88 := i_eq c_88 rfl (show Int32.toInt 32 = 32 by decide)
      refine lv_aload_n hx hb d_M_lines_30 rfl (lv_at hl 0 rfl) ?_
      refine lv_aload_n hx hb d_M_lines_31 rfl (lv_at hl 0 rfl) ?_
      refine va_get (D := (dC, dI)) (ci := 4) (v := .int sa) (C := "SieveDeskModel") (T := F_M) (N := 19) hx hb ht i_M hown hK hP 0 rfl rfl 4 (by decide) (ht _ k_631) (fun _ h9 => h9) rfl d_M_lines_32 ?_
      refine lv_iconst (v := 1) hx hb d_M_lines_35 (by decide) ?_
      refine lv_iadd hx hb d_M_lines_36 ?_
      have e_89 : Int32.toInt (sa + 1) = (Int32.toInt sa) + 1 := i_add rfl (show Int32.toInt 1 = 1 by decide) (by omega) (by omega)
      refine va_put (D := (dC, dI)) (ci := 4) (v := .int (sa + 1)) (ty := .int) (C := "SieveDeskModel") (T := F_M) (N := 19) hx hb ht i_M ty_M ty_M_ok n_M hown hK hP hD hS 0 rfl rfl 4 (by decide) (ht _ k_631) (fun _ h9 => h9) rfl (ty_M_ok 4 (by decide)) rfl rfl (Nat.le_of_ble_eq_true rfl) d_M_lines_37 (fun H locs hP hD hS => ?_)
      have hP : va_P (dC, dI) cls (ME h g ss (sa + 1) so pl si fa li co st rq bl te op wo wz sr le tx ro) H := hP
      have hD : va_D A (ME h g ss (sa + 1) so pl si fa li co st rq bl te op wo wz sr le tx ro) := hD
      refine lv_goto (tgt := 10) hx hb d_M_lines_40 (by decide) ?_
      exact ih (sa + 1) si le tx (by omega) (by omega) (by omega) (by omega) (by omega) (by omega) _ _ ls hP hD hS (lv_sub hl [0] rfl)
    · have dc_88 := i_ne c_88 rfl (show Int32.toInt 32 = 32 by decide)
      refine lv_aload_n hx hb d_M_lines_20 rfl (lv_at hl 0 rfl) ?_
      refine lv_iconst (v := 0) hx hb d_M_lines_21 (by decide) ?_
      have hFc := va_free (wc := (ME h g ss sa so pl si fa li co st rq bl te op wo wz sr le tx ro)) hD hS hA [0, 1, 2, 3, 4, 5, 6] rfl
      refine va_calli (va_runV (As := [.int 0]) (rest := []) ⟨hx, hb, hml, hown, ht⟩ (c_M_peek l dC dI k h g ss sa so pl si fa li co st rq bl te op wo le wz sr tx ro 0 _ (by omega) (by omega) (by omega) (by omega) (by omega) (by omega) ) (cwV 1 ht (g_V k_702 k_704 k_39 k_80 k_705) rfl rfl rfl (by decide +kernel) ⟨(Nat.le_of_ble_eq_true rfl), (Nat.le_of_ble_eq_true rfl)⟩) ⟨fb_X, va_recv hK hP (ci := 4) (q0 := 0) rfl rfl, pre_X hE hS hFc hP hK hD⟩ rfl rfl hl.1 rfl (lv_room (Nat.le_of_ble_eq_true rfl)) d_M_lines_22 ⟨(Nat.le_of_ble_eq_true rfl), (Nat.le_of_ble_eq_true rfl)⟩) hS (fun q _ h9 => hFc q h9) hFc (fun r_91 u_90 t H locs het hvm hw hB hz1 hk1 hS => ?_)
      obtain ⟨p_92, p_93⟩ := hw
      obtain ⟨hP1, hK1, hD1⟩ := hB
      rw [het] at hP1
      have hP : va_P (dC, dI) cls (ME h g ss sa so pl si fa li co st rq bl te op wo wz sr le tx ro) H := hP1
      have hD : va_D A (ME h g ss sa so pl si fa li co st rq bl te op wo wz sr le tx ro) := hD1.weaken (fun _ _ _ h9 => hFc _ h9)
      refine lv_bipush (v := 9) hx hb d_M_lines_25 (by decide) ?_
      refine lv_icmp_ne (tgt := 43) hx hb d_M_lines_27 (by decide) (fun c_94 => ?_) (fun c_94 => ?_)
      · have dc_94 := i_ne c_94 rfl (show Int32.toInt 9 = 9 by decide)
        refine lv_aload_n hx hb d_M_lines_43 rfl (lv_at hl 0 rfl) ?_
        refine lv_aload_n hx hb d_M_lines_44 rfl (lv_at hl 0 rfl) ?_
        refine va_get (D := (dC, dI)) (ci := 4) (v := .int sa) (C := "SieveDeskModel") (T := F_M) (N := 19) hx hb ht i_M hown hK hP 0 rfl rfl 4 (by decide) (ht _ k_631) (fun _ h9 => h9) rfl d_M_lines_45 ?_
        have hFc := va_free (wc := (ME h g ss sa so pl si fa li co st rq bl te op wo wz sr le tx ro)) hD hS hA [0, 1, 2, 3, 4, 5, 6] rfl
        refine va_calli (va_runV (As := [.int sa]) (rest := []) ⟨hx, hb, hml, hown, ht⟩ (c_M_endAt l dC dI k h g ss sa so pl si fa li co st rq bl te op wo le wz sr tx ro sa _ (by omega) (by omega) (by omega) (by omega) ) (cwV 1 ht (g_V k_746 k_748 k_47 k_80 k_749) rfl rfl rfl (by decide +kernel) ⟨(Nat.le_of_ble_eq_true rfl), (Nat.le_of_ble_eq_true rfl)⟩) ⟨fb_X, va_recv hK hP (ci := 4) (q0 := 0) rfl rfl, pre_X hE hS hFc hP hK hD⟩ rfl rfl hl.1 rfl (lv_room (Nat.le_of_ble_eq_true rfl)) d_M_lines_48 ⟨(Nat.le_of_ble_eq_true rfl), (Nat.le_of_ble_eq_true rfl)⟩) hS (fun q _ h9 => hFc q h9) hFc (fun r_96 u_95 t H locs het hvm hw hB hz1 hk1 hS => ?_)
        have p_97 := hw
        obtain ⟨hP1, hK1, hD1⟩ := hB
        rw [het] at hP1
        have hP : va_P (dC, dI) cls (ME h g ss sa so pl si fa li co st rq bl te op wo wz sr le tx ro) H := hP1
        have hD : va_D A (ME h g ss sa so pl si fa li co st rq bl te op wo wz sr le tx ro) := hD1.weaken (fun _ _ _ h9 => hFc _ h9)
        refine lv_if_ne (tgt := 56) hx hb d_M_lines_51 (by decide) (fun c_98 => ?_) (fun c_98 => ?_)
        · have dc_98 := i_ne c_98 rfl (show Int32.toInt 0 = 0 by decide)
          refine lv_aload_n hx hb d_M_lines_56 rfl (lv_at hl 0 rfl) ?_
          refine lv_aload_n hx hb d_M_lines_57 rfl (lv_at hl 0 rfl) ?_
          refine va_get (D := (dC, dI)) (ci := 4) (v := .int sa) (C := "SieveDeskModel") (T := F_M) (N := 19) hx hb ht i_M hown hK hP 0 rfl rfl 4 (by decide) (ht _ k_631) (fun _ h9 => h9) rfl d_M_lines_58 ?_
          refine lv_aload_n hx hb d_M_lines_61 rfl (lv_at hl 0 rfl) ?_
          refine lv_aload_n hx hb d_M_lines_62 rfl (lv_at hl 0 rfl) ?_
          refine va_get (D := (dC, dI)) (ci := 4) (v := .int sa) (C := "SieveDeskModel") (T := F_M) (N := 19) hx hb ht i_M hown hK hP 0 rfl rfl 4 (by decide) (ht _ k_631) (fun _ h9 => h9) rfl d_M_lines_63 ?_
          have hFc := va_free (wc := (ME h g ss sa so pl si fa li co st rq bl te op wo wz sr le tx ro)) hD hS hA [0, 1, 2, 3, 4, 5, 6] rfl
          refine va_calli (va_runV (As := [.int sa]) (rest := [.int sa, .ref (h 0)]) ⟨hx, hb, hml, hown, ht⟩ (c_M_endAt l dC dI k h g ss sa so pl si fa li co st rq bl te op wo le wz sr tx ro sa _ (by omega) (by omega) (by omega) (by omega) ) (cwV 1 ht (g_V k_746 k_748 k_47 k_80 k_749) rfl rfl rfl (by decide +kernel) ⟨(Nat.le_of_ble_eq_true rfl), (Nat.le_of_ble_eq_true rfl)⟩) ⟨fb_X, va_recv hK hP (ci := 4) (q0 := 0) rfl rfl, pre_X hE hS hFc hP hK hD⟩ rfl rfl hl.1 rfl (lv_room (Nat.le_of_ble_eq_true rfl)) d_M_lines_66 ⟨(Nat.le_of_ble_eq_true rfl), (Nat.le_of_ble_eq_true rfl)⟩) hS (fun q _ h9 => hFc q h9) hFc (fun r_100 u_99 t H locs het hvm hw hB hz1 hk1 hS => ?_)
          have p_101 := hw
          obtain ⟨hP1, hK1, hD1⟩ := hB
          rw [het] at hP1
          have hP : va_P (dC, dI) cls (ME h g ss sa so pl si fa li co st rq bl te op wo wz sr le tx ro) H := hP1
          have hD : va_D A (ME h g ss sa so pl si fa li co st rq bl te op wo wz sr le tx ro) := hD1.weaken (fun _ _ _ h9 => hFc _ h9)
          refine lv_iadd hx hb d_M_lines_69 ?_
          have e_102 : Int32.toInt (sa + r_100) = (Int32.toInt sa) + (Int32.toInt r_100) := i_add rfl rfl (by omega) (by omega)
          refine va_put (D := (dC, dI)) (ci := 4) (v := .int (sa + r_100)) (ty := .int) (C := "SieveDeskModel") (T := F_M) (N := 19) hx hb ht i_M ty_M ty_M_ok n_M hown hK hP hD hS 0 rfl rfl 4 (by decide) (ht _ k_631) (fun _ h9 => h9) rfl (ty_M_ok 4 (by decide)) rfl rfl (Nat.le_of_ble_eq_true rfl) d_M_lines_70 (fun H locs hP hD hS => ?_)
          have hP : va_P (dC, dI) cls (ME h g ss (sa + r_100) so pl si fa li co st rq bl te op wo wz sr le tx ro) H := hP
          have hD : va_D A (ME h g ss (sa + r_100) so pl si fa li co st rq bl te op wo wz sr le tx ro) := hD
          refine lv_aload_n hx hb d_M_lines_73 rfl (lv_at hl 0 rfl) ?_
          have hFc := va_free (wc := (ME h g ss (sa + r_100) so pl si fa li co st rq bl te op wo wz sr le tx ro)) hD hS hA [0, 1, 2, 3, 4, 5, 6] rfl
          refine va_callv (va_runV (As := []) (rest := []) ⟨hx, hb, hml, hown, ht⟩ (c_M_begin l dC dI k h g ss (sa + r_100) so pl si fa li co st rq bl te op wo le wz sr tx ro  _  ) (cwV 0 ht (g_V k_710 k_712 k_41 k_80 k_713) rfl rfl rfl (by decide +kernel) ⟨(Nat.le_of_ble_eq_true rfl), (Nat.le_of_ble_eq_true rfl)⟩) ⟨fb_X, va_recv hK hP (ci := 4) (q0 := 0) rfl rfl, pre_X hE hS hFc hP hK hD⟩ rfl rfl hl.1 rfl (lv_room (Nat.le_of_ble_eq_true rfl)) d_M_lines_74 ⟨(Nat.le_of_ble_eq_true rfl), (Nat.le_of_ble_eq_true rfl)⟩) hS (fun q _ h9 => hFc q h9) hFc (fun u_105 t H locs het hvm hw hB hz1 hk1 hS => ?_)
          obtain ⟨si_103, le_104⟩ := u_105
          try dsimp only at hw
          obtain ⟨p_107, p_108, p_109⟩ := hw
          obtain ⟨hP1, hK1, hD1⟩ := hB
          rw [het] at hP1
          have hP : va_P (dC, dI) cls (ME h g ss (sa + r_100) so pl si_103 fa li co st rq bl te op wo wz sr le_104 tx ro) H := hP1
          have hD : va_D A (ME h g ss (sa + r_100) so pl si_103 fa li co st rq bl te op wo wz sr le_104 tx ro) := hD1.weaken (fun _ _ _ h9 => hFc _ h9)
          exact (lp_M_lines_g0 (sa0 := sa0) hx hb hml hown ht hE hA hK h_0 h_1 fin _).1 (sa + r_100) si_103 le_104 tx (by omega) (by omega) (by omega) (by omega) (by omega) (by omega) (Nat.lt_succ_self _) _ _ ls hP hD hS (lv_sub hl [0] rfl)
        · have dc_98 := i_eq c_98 rfl (show Int32.toInt 0 = 0 by decide)
          refine lv_iconst (v := 5) hx hb d_M_lines_54 (by decide) ?_
          have hc_5 : Int32.toInt 5 = 5 := by decide
          exact fin 5 (sa, si, le, tx) _ _ _ ls d_M_lines_55 ⟨(by (try dsimp only); omega), (by (try dsimp only); omega), (by (try dsimp only); omega), (by (try dsimp only); omega), (by (try dsimp only); omega), (by (try dsimp only); omega)⟩ hP hD hS
      · have dc_94 := i_eq c_94 rfl (show Int32.toInt 9 = 9 by decide)
        refine lv_aload_n hx hb d_M_lines_30 rfl (lv_at hl 0 rfl) ?_
        refine lv_aload_n hx hb d_M_lines_31 rfl (lv_at hl 0 rfl) ?_
        refine va_get (D := (dC, dI)) (ci := 4) (v := .int sa) (C := "SieveDeskModel") (T := F_M) (N := 19) hx hb ht i_M hown hK hP 0 rfl rfl 4 (by decide) (ht _ k_631) (fun _ h9 => h9) rfl d_M_lines_32 ?_
        refine lv_iconst (v := 1) hx hb d_M_lines_35 (by decide) ?_
        refine lv_iadd hx hb d_M_lines_36 ?_
        have e_110 : Int32.toInt (sa + 1) = (Int32.toInt sa) + 1 := i_add rfl (show Int32.toInt 1 = 1 by decide) (by omega) (by omega)
        refine va_put (D := (dC, dI)) (ci := 4) (v := .int (sa + 1)) (ty := .int) (C := "SieveDeskModel") (T := F_M) (N := 19) hx hb ht i_M ty_M ty_M_ok n_M hown hK hP hD hS 0 rfl rfl 4 (by decide) (ht _ k_631) (fun _ h9 => h9) rfl (ty_M_ok 4 (by decide)) rfl rfl (Nat.le_of_ble_eq_true rfl) d_M_lines_37 (fun H locs hP hD hS => ?_)
        have hP : va_P (dC, dI) cls (ME h g ss (sa + 1) so pl si fa li co st rq bl te op wo wz sr le tx ro) H := hP
        have hD : va_D A (ME h g ss (sa + 1) so pl si fa li co st rq bl te op wo wz sr le tx ro) := hD
        refine lv_goto (tgt := 10) hx hb d_M_lines_40 (by decide) ?_
        exact ih (sa + 1) si le tx (by omega) (by omega) (by omega) (by omega) (by omega) (by omega) _ _ ls hP hD hS (lv_sub hl [0] rfl)
set_option maxHeartbeats 4000000 in
set_option maxRecDepth 100000 in
theorem bd_M_lines_0 {p : Program} {l : Launch} {e : Env} {s : State} {m : MethodId} {args : Array Value} {below : List Frame} {meth : Method} {c : Code} {Q : State → Prop} {A : Nat → Prop} {dC : Nat → ClassId} {dI : Nat → Nat → Nat} {k h : Nat → Nat} {g : Nat → ClassId} {ss : Int32} {so : Int32} {pl : Int32} {fa : Int32} {li : Int32} {co : Int32} {st : Int32} {rq : Int32} {bl : Int32} {te : Int32} {op : Int32} {wo : Nat → Int64} {wz : Nat → Int32} {sr : Nat → Int32} {ro : Nat → Int32} {sa0 : Int32} (hx : p.tables.exec = Jvm.exec) (hb : c.code = b_M_lines) (hml : c.maxLocals = 3) (hown : s.vm.findClass "SieveDeskModel" = some m.cls) (ht : ∀ w ∈ TT, w.before args s = true) (hE : KE k A s s.heap) (hA : ∀ q : Nat, s.heap.size ≤ q → A q) (hK : va_K (dC, dI) cls (TM g) s)  (h_0 : 0 ≤ Int32.toInt ss) (h_1 : Int32.toInt ss ≤ 400) (fin : ∀ (r : Int32) (u : Int32 × Int32 × (Nat → Int64) × (Nat → Int32)) (H : Heap) (locs : List Loc) (pc : Nat) (ls : Array Slot), decode b_M_lines pc = .ok (.ireturn, 1) → (0 ≤ Int32.toInt u.1 ∧ Int32.toInt u.1 ≤ Int32.toInt ss ∧ 0 ≤ Int32.toInt u.2.1 ∧ Int32.toInt u.2.1 ≤ 400 ∧ Int32.toInt sa0 ≤ Int32.toInt u.1 ∧ (Int32.toInt r = 5 ∨ Int32.toInt r = 4)) → va_P (dC, dI) cls (ME h g ss u.1 so pl u.2.1 fa li co st rq bl te op wo wz sr u.2.2.1 u.2.2.2 ro) H → va_D A (ME h g ss u.1 so pl u.2.1 fa li co st rq bl te op wo wz sr u.2.2.1 u.2.2.2 ro) → va_S A s.heap H locs → W p l e ({ frames := 2, cells := 0, slots := 0, locals := 41 } : Room) s m args below meth c H locs 0 0 Q (F0 m pc ls [.int r])) : ∀ (sa : Int32) (si : Int32) (le : Nat → Int64) (tx : Nat → Int32), sa = sa0 → 0 ≤ Int32.toInt sa → Int32.toInt sa ≤ Int32.toInt ss → 0 ≤ Int32.toInt si → Int32.toInt si ≤ 400 → Int32.toInt sa < Int32.toInt ss → ∀ (H : Heap) (locs : List Loc) (ls : Array Slot), va_P (dC, dI) cls (ME h g ss sa so pl si fa li co st rq bl te op wo wz sr le tx ro) H → va_D A (ME h g ss sa so pl si fa li co st rq bl te op wo wz sr le tx ro) → va_S A s.heap H locs → lv_has ls 3 [(0, .ref (h 0))] → W p l e ({ frames := 2, cells := 0, slots := 0, locals := 41 } : Room) s m args below meth c H locs 0 0 Q (F0 m 0 ls []) := by
  intro sa si le tx v_0 v_1 v_2 v_3 v_4 v_5 H locs ls hP hD hS hl
  subst v_0
  refine lv_aload_n hx hb d_M_lines_0 rfl (lv_at hl 0 rfl) ?_
  refine lv_aload_n hx hb d_M_lines_1 rfl (lv_at hl 0 rfl) ?_
  refine va_get (D := (dC, dI)) (ci := 4) (v := .int sa) (C := "SieveDeskModel") (T := F_M) (N := 19) hx hb ht i_M hown hK hP 0 rfl rfl 4 (by decide) (ht _ k_631) (fun _ h9 => h9) rfl d_M_lines_2 ?_
  refine lv_iconst (v := 1) hx hb d_M_lines_5 (by decide) ?_
  refine lv_iadd hx hb d_M_lines_6 ?_
  have e_111 : Int32.toInt (sa + 1) = (Int32.toInt sa) + 1 := i_add rfl (show Int32.toInt 1 = 1 by decide) (by omega) (by omega)
  refine va_put (D := (dC, dI)) (ci := 4) (v := .int (sa + 1)) (ty := .int) (C := "SieveDeskModel") (T := F_M) (N := 19) hx hb ht i_M ty_M ty_M_ok n_M hown hK hP hD hS 0 rfl rfl 4 (by decide) (ht _ k_631) (fun _ h9 => h9) rfl (ty_M_ok 4 (by decide)) rfl rfl (Nat.le_of_ble_eq_true rfl) d_M_lines_7 (fun H locs hP hD hS => ?_)
  have hP : va_P (dC, dI) cls (ME h g ss (sa + 1) so pl si fa li co st rq bl te op wo wz sr le tx ro) H := hP
  have hD : va_D A (ME h g ss (sa + 1) so pl si fa li co st rq bl te op wo wz sr le tx ro) := hD
  exact (lp_M_lines_10  hx hb hml hown ht hE hA hK h_0 h_1 fin _) (sa + 1) si le tx (by omega) (by omega) (by omega) (by omega) (by omega) (Nat.lt_succ_self _) _ _ ls hP hD hS (lv_sub hl [0] rfl)
set_option maxHeartbeats 4000000 in
set_option maxRecDepth 100000 in
theorem c_M_lines (l : Launch) (dC : Nat → ClassId) (dI : Nat → Nat → Nat) (k : Nat → Nat) (h : Nat → Nat) (g : Nat → ClassId) (ss : Int32) (sa : Int32) (so : Int32) (pl : Int32) (si : Int32) (fa : Int32) (li : Int32) (co : Int32) (st : Int32) (rq : Int32) (bl : Int32) (te : Int32) (op : Int32) (wo : Nat → Int64) (le : Nat → Int64) (wz : Nat → Int32) (sr : Nat → Int32) (tx : Nat → Int32) (ro : Nat → Int32)  (sz : Nat) (h_0 : 0 ≤ Int32.toInt ss) (h_1 : Int32.toInt ss ≤ 400) (v_0 : 0 ≤ Int32.toInt sa) (v_1 : Int32.toInt sa ≤ Int32.toInt ss) (v_2 : 0 ≤ Int32.toInt si) (v_3 : Int32.toInt si ≤ 400) (v_4 : Int32.toInt sa < Int32.toInt ss) : Met l y_M_lines (.code y_M_lines b_M_lines 3 (some .int) :: TT) ({ frames := 2, cells := 0, slots := 0, locals := 41 }) (va_Pc [.ref (h 0)] (PX dC dI k (TM g) (ME h g ss sa so pl si fa li co st rq bl te op wo wz sr le tx ro) sz)) (va_Qi (fun (r : Int32) (u : Int32 × Int32 × (Nat → Int64) × (Nat → Int32)) => 0 ≤ Int32.toInt u.1 ∧ Int32.toInt u.1 ≤ Int32.toInt ss ∧ 0 ≤ Int32.toInt u.2.1 ∧ Int32.toInt u.2.1 ≤ 400 ∧ Int32.toInt sa ≤ Int32.toInt u.1 ∧ (Int32.toInt r = 5 ∨ Int32.toInt r = 4)) (fun u t => BX dC dI (TM g) (va_A (ME h g ss sa so pl si fa li co st rq bl te op wo wz sr le tx ro) sz) (ME h g ss u.1 so pl u.2.1 fa li co st rq bl te op wo wz sr u.2.2.1 u.2.2.2 ro) t) (va_A (ME h g ss sa so pl si fa li co st rq bl te op wo wz sr le tx ro) sz)) 0 0 (va_A (ME h g ss sa so pl si fa li co st rq bl te op wo wz sr le tx ro) sz) := by
  refine Met.ofW (cc := b_M_lines) (maxL := 3) (ret := (some .int)) (by decide) rfl ?_
  intro p e s m args below meth c s₁ B hml hv
  obtain ⟨rfl, hsz, hE, hP, hK, hD0⟩ := hv
  have hx := B.exec
  have hb := B.bytes
  have hr := B.returns
  have ht : ∀ w ∈ TT, w.before _ s = true := fun w hw => atoms_spec (ws := .code y_M_lines b_M_lines 3 (some .int) :: TT) B.pre w (List.mem_cons_of_mem _ hw)
  have hown : s.vm.findClass "SieveDeskModel" = some m.cls := findClass_of_methodNamed B.named
  have hlocks := B.notSynchronized
  subst hsz
  have hD := hD0.self (sz := s.heap.size)
  generalize hAe : va_A (ME h g ss sa so pl si fa li co st rq bl te op wo wz sr le tx ro) s.heap.size = A at hE hD ⊢
  have hA : ∀ q : Nat, s.heap.size ≤ q → A q := fun q h9 => by rw [← hAe]; exact Or.inr h9
  have hS : va_S A s.heap s.heap [] := va_S.rf
  have hl := lv_entry ([.ref (h 0)]) (n := 3) (Nat.le_of_ble_eq_true rfl)
  rw [lg_entry_eq]
  generalize (lg_sl ([.ref (h 0)]) ++ List.replicate (3 - (lg_sl ([.ref (h 0)])).length) Slot.unset).toArray = ls at hl ⊢
  have hl : lv_has ls 3 [(0, .ref (h 0))] := hl
  exact bd_M_lines_0  hx hb hml hown ht hE hA hK h_0 h_1 (fun r u H locs pc ls hd hp hP hD hS => W.iret hx hb hr (fun t het hW => ⟨⟨r, u, rfl, hp, by rw [het]; exact hP, va_K.moved hW.alike hK, hD⟩, hS.F het⟩) hS.2.2 hd) sa si le tx rfl v_0 v_1 v_2 v_3 v_4 _ _ ls hP hD hS hl
set_option maxHeartbeats 4000000 in
set_option maxRecDepth 100000 in
theorem bd_M_token_0 {p : Program} {l : Launch} {e : Env} {s : State} {m : MethodId} {args : Array Value} {below : List Frame} {meth : Method} {c : Code} {Q : State → Prop} {A : Nat → Prop} {dC : Nat → ClassId} {dI : Nat → Nat → Nat} {k h : Nat → Nat} {g : Nat → ClassId} {ss : Int32} {so : Int32} {pl : Int32} {fa : Int32} {li : Int32} {co : Int32} {st : Int32} {rq : Int32} {bl : Int32} {te : Int32} {op : Int32} {wo : Nat → Int64} {wz : Nat → Int32} {sr : Nat → Int32} {ro : Nat → Int32} {sa0 : Int32} (hx : p.tables.exec = Jvm.exec) (hb : c.code = b_M_token) (hml : c.maxLocals = 3) (hown : s.vm.findClass "SieveDeskModel" = some m.cls) (ht : ∀ w ∈ TT, w.before args s = true) (hE : KE k A s s.heap) (hA : ∀ q : Nat, s.heap.size ≤ q → A q) (hK : va_K (dC, dI) cls (TM g) s)  (h_0 : 0 ≤ Int32.toInt ss) (h_1 : Int32.toInt ss ≤ 400) (fin : ∀ (r : Int32) (u : Int32 × Int32 × (Nat → Int64) × (Nat → Int32)) (H : Heap) (locs : List Loc) (pc : Nat) (ls : Array Slot), decode b_M_token pc = .ok (.ireturn, 1) → (0 ≤ Int32.toInt u.1 ∧ Int32.toInt u.1 ≤ Int32.toInt ss ∧ 0 ≤ Int32.toInt u.2.1 ∧ Int32.toInt u.2.1 ≤ 400 ∧ Int32.toInt sa0 ≤ Int32.toInt u.1 ∧ (Int32.toInt r = 0 ∨ Int32.toInt r = 5 ∨ (Int32.toInt r ≠ 0 ∧ Int32.toInt sa0 < Int32.toInt u.1))) → va_P (dC, dI) cls (ME h g ss u.1 so pl u.2.1 fa li co st rq bl te op wo wz sr u.2.2.1 u.2.2.2 ro) H → va_D A (ME h g ss u.1 so pl u.2.1 fa li co st rq bl te op wo wz sr u.2.2.1 u.2.2.2 ro) → va_S A s.heap H locs → W p l e ({ frames := 3, cells := 0, slots := 0, locals := 63 } : Room) s m args below meth c H locs 0 0 Q (F0 m pc ls [.int r])) : ∀ (sa : Int32) (si : Int32) (le : Nat → Int64) (tx : Nat → Int32), sa = sa0 → 0 ≤ Int32.toInt sa → Int32.toInt sa ≤ Int32.toInt ss → 0 ≤ Int32.toInt si → Int32.toInt si ≤ 400 → ∀ (H : Heap) (locs : List Loc) (ls : Array Slot), va_P (dC, dI) cls (ME h g ss sa so pl si fa li co st rq bl te op wo wz sr le tx ro) H → va_D A (ME h g ss sa so pl si fa li co st rq bl te op wo wz sr le tx ro) → va_S A s.heap H locs → lv_has ls 3 [(0, .ref (h 0))] → W p l e ({ frames := 3, cells := 0, slots := 0, locals := 63 } : Room) s m args below meth c H locs 0 0 Q (F0 m 0 ls []) := by
  intro sa si le tx v_0 v_1 v_2 v_3 v_4 H locs ls hP hD hS hl
  subst v_0
  refine lv_aload_n hx hb d_M_token_0 rfl (lv_at hl 0 rfl) ?_
  refine lv_iconst (v := 0) hx hb d_M_token_1 (by decide) ?_
  have hc_0 : Int32.toInt 0 = 0 := by decide
  have hFc := va_free (wc := (ME h g ss sa so pl si fa li co st rq bl te op wo wz sr le tx ro)) hD hS hA [0, 1, 2, 3, 4, 5, 6] rfl
  refine va_calli (va_runV (As := [.int 0]) (rest := []) ⟨hx, hb, hml, hown, ht⟩ (c_M_peek l dC dI k h g ss sa so pl si fa li co st rq bl te op wo le wz sr tx ro 0 _ (by omega) (by omega) (by omega) (by omega) (by omega) (by omega) ) (cwV 1 ht (g_V k_702 k_704 k_39 k_80 k_705) rfl rfl rfl (by decide +kernel) ⟨(Nat.le_of_ble_eq_true rfl), (Nat.le_of_ble_eq_true rfl)⟩) ⟨fb_X, va_recv hK hP (ci := 4) (q0 := 0) rfl rfl, pre_X hE hS hFc hP hK hD⟩ rfl rfl hl.1 rfl (lv_room (Nat.le_of_ble_eq_true rfl)) d_M_token_2 ⟨(Nat.le_of_ble_eq_true rfl), (Nat.le_of_ble_eq_true rfl)⟩) hS (fun q _ h9 => hFc q h9) hFc (fun r_2 u_1 t H locs het hvm hw hB hz1 hk1 hS => ?_)
  obtain ⟨p_3, p_4⟩ := hw
  obtain ⟨hP1, hK1, hD1⟩ := hB
  rw [het] at hP1
  have hP : va_P (dC, dI) cls (ME h g ss sa so pl si fa li co st rq bl te op wo wz sr le tx ro) H := hP1
  have hD : va_D A (ME h g ss sa so pl si fa li co st rq bl te op wo wz sr le tx ro) := hD1.weaken (fun _ _ _ h9 => hFc _ h9)
  refine lv_istore_n (lv' := [(1, .int r_2), (0, .ref (h 0))]) hx hb d_M_token_5 rfl hl (by decide) rfl (fun ls hl => ?_)
  refine lv_aload_n hx hb d_M_token_6 rfl (lv_at hl 1 rfl) ?_
  have hFc := va_free (wc := (ME h g ss sa so pl si fa li co st rq bl te op wo wz sr le tx ro)) hD hS hA [0, 1, 2, 3, 4, 5, 6] rfl
  refine va_callv (va_runV (As := []) (rest := []) ⟨hx, hb, hml, hown, ht⟩ (c_M_begin l dC dI k h g ss sa so pl si fa li co st rq bl te op wo le wz sr tx ro  _  ) (cwV 0 ht (g_V k_710 k_712 k_41 k_80 k_713) rfl rfl rfl (by decide +kernel) ⟨(Nat.le_of_ble_eq_true rfl), (Nat.le_of_ble_eq_true rfl)⟩) ⟨fb_X, va_recv hK hP (ci := 4) (q0 := 0) rfl rfl, pre_X hE hS hFc hP hK hD⟩ rfl rfl hl.1 rfl (lv_room (Nat.le_of_ble_eq_true rfl)) d_M_token_7 ⟨(Nat.le_of_ble_eq_true rfl), (Nat.le_of_ble_eq_true rfl)⟩) hS (fun q _ h9 => hFc q h9) hFc (fun u_7 t H locs het hvm hw hB hz1 hk1 hS => ?_)
  obtain ⟨si_5, le_6⟩ := u_7
  try dsimp only at hw
  obtain ⟨p_9, p_10, p_11⟩ := hw
  obtain ⟨hP1, hK1, hD1⟩ := hB
  rw [het] at hP1
  have hP : va_P (dC, dI) cls (ME h g ss sa so pl si_5 fa li co st rq bl te op wo wz sr le_6 tx ro) H := hP1
  have hD : va_D A (ME h g ss sa so pl si_5 fa li co st rq bl te op wo wz sr le_6 tx ro) := hD1.weaken (fun _ _ _ h9 => hFc _ h9)
  refine lv_iload_n hx hb d_M_token_10 rfl (lv_at hl 0 rfl) ?_
  refine lv_if_ge (tgt := 16) hx hb d_M_token_11 (by decide) (fun c_12 => ?_) (fun c_12 => ?_)
  · have dc_12 := i_le c_12 (show Int32.toInt 0 = 0 by decide) rfl
    refine lv_iload_n hx hb d_M_token_16 rfl (lv_at hl 0 rfl) ?_
    refine vp_callSi (W.runS (As := [.int r_2]) (rest := []) ⟨hx, hb, hml, hown, ht⟩ (c_M_isLetter l k r_2 ) (va_cwS 1 ht (g_S k_714 k_715 k_80 k_716) rfl rfl rfl (by decide +kernel) ⟨(Nat.le_of_ble_eq_true rfl), (Nat.le_of_ble_eq_true rfl)⟩) ⟨fb_J, pre_J hE hS⟩ rfl rfl hl.1 rfl (lv_room (Nat.le_of_ble_eq_true rfl)) d_M_token_17 ⟨(Nat.le_of_ble_eq_true rfl), (Nat.le_of_ble_eq_true rfl)⟩) (fun r_13 hw => ?_)
    obtain ⟨p_14, p_15⟩ := hw
    refine lv_if_ne (tgt := 29) hx hb d_M_token_20 (by decide) (fun c_16 => ?_) (fun c_16 => ?_)
    · have dc_16 := i_ne c_16 rfl (show Int32.toInt 0 = 0 by decide)
      refine lv_aload_n hx hb d_M_token_29 rfl (lv_at hl 1 rfl) ?_
      have hFc := va_free (wc := (ME h g ss sa so pl si_5 fa li co st rq bl te op wo wz sr le_6 tx ro)) hD hS hA [0, 1, 2, 3, 4, 5, 6] rfl
      refine va_callv (va_runV (As := []) (rest := []) ⟨hx, hb, hml, hown, ht⟩ (c_M_wordOf l dC dI k h g ss sa so pl si_5 fa li co st rq bl te op wo le_6 wz sr tx ro  _ (by omega) (by omega) (by omega) (by omega) (by omega) (by omega) (by omega)) (cwV 0 ht (g_V k_717 k_719 k_42 k_80 k_720) rfl rfl rfl (by decide +kernel) ⟨(Nat.le_of_ble_eq_true rfl), (Nat.le_of_ble_eq_true rfl)⟩) ⟨fb_X, va_recv hK hP (ci := 4) (q0 := 0) rfl rfl, pre_X hE hS hFc hP hK hD⟩ rfl rfl hl.1 rfl (lv_room (Nat.le_of_ble_eq_true rfl)) d_M_token_30 ⟨(Nat.le_of_ble_eq_true rfl), (Nat.le_of_ble_eq_true rfl)⟩) hS (fun q _ h9 => hFc q h9) hFc (fun u_21 t H locs het hvm hw hB hz1 hk1 hS => ?_)
      obtain ⟨sa_17, si_18, le_19, tx_20⟩ := u_21
      try dsimp only at hw
      obtain ⟨p_23, p_24, p_25, p_26, p_27, p_28, p_29⟩ := hw
      obtain ⟨hP1, hK1, hD1⟩ := hB
      rw [het] at hP1
      have hP : va_P (dC, dI) cls (ME h g ss sa_17 so pl si_18 fa li co st rq bl te op wo wz sr le_19 tx_20 ro) H := hP1
      have hD : va_D A (ME h g ss sa_17 so pl si_18 fa li co st rq bl te op wo wz sr le_19 tx_20 ro) := hD1.weaken (fun _ _ _ h9 => hFc _ h9)
      refine lv_aload_n hx hb d_M_token_33 rfl (lv_at hl 1 rfl) ?_
      refine lv_bipush (v := 54) hx hb d_M_token_34 (by decide) ?_
      have hc_54 : Int32.toInt 54 = 54 := by decide
      have hFc := va_free (wc := (ME h g ss sa_17 so pl si_18 fa li co st rq bl te op wo wz sr le_19 tx_20 ro)) hD hS hA [0, 1, 2, 3, 4, 5, 6] rfl
      refine va_calli (va_runV (As := [.int 54]) (rest := []) ⟨hx, hb, hml, hown, ht⟩ (c_M_like l dC dI k h g ss sa_17 so pl si_18 fa li co st rq bl te op wo le_19 wz sr tx_20 ro 54 _ (by omega) (by omega) ) (cwV 1 ht (g_V k_734 k_736 k_44 k_80 k_737) rfl rfl rfl (by decide +kernel) ⟨(Nat.le_of_ble_eq_true rfl), (Nat.le_of_ble_eq_true rfl)⟩) ⟨fb_X, va_recv hK hP (ci := 4) (q0 := 0) rfl rfl, pre_X hE hS hFc hP hK hD⟩ rfl rfl hl.1 rfl (lv_room (Nat.le_of_ble_eq_true rfl)) d_M_token_36 ⟨(Nat.le_of_ble_eq_true rfl), (Nat.le_of_ble_eq_true rfl)⟩) hS (fun q _ h9 => hFc q h9) hFc (fun r_31 u_30 t H locs het hvm hw hB hz1 hk1 hS => ?_)
      have p_32 := hw
      obtain ⟨hP1, hK1, hD1⟩ := hB
      rw [het] at hP1
      have hP : va_P (dC, dI) cls (ME h g ss sa_17 so pl si_18 fa li co st rq bl te op wo wz sr le_19 tx_20 ro) H := hP1
      have hD : va_D A (ME h g ss sa_17 so pl si_18 fa li co st rq bl te op wo wz sr le_19 tx_20 ro) := hD1.weaken (fun _ _ _ h9 => hFc _ h9)
      refine lv_if_eq (tgt := 59) hx hb d_M_token_39 (by decide) (fun c_33 => ?_) (fun c_33 => ?_)
      · have dc_33 := i_eq c_33 rfl (show Int32.toInt 0 = 0 by decide)
        refine lv_iconst (v := 1) hx hb d_M_token_59 (by decide) ?_
        have hc_1 : Int32.toInt 1 = 1 := by decide
        exact fin 1 (sa_17, si_18, le_19, tx_20) _ _ _ ls d_M_token_60 ⟨(by (try dsimp only); omega), (by (try dsimp only); omega), (by (try dsimp only); omega), (by (try dsimp only); omega), (by (try dsimp only); omega), (by (try dsimp only); omega)⟩ hP hD hS
      · have dc_33 := i_ne c_33 rfl (show Int32.toInt 0 = 0 by decide)
        refine lv_aload_n hx hb d_M_token_42 rfl (lv_at hl 1 rfl) ?_
        refine lv_iconst (v := 0) hx hb d_M_token_43 (by decide) ?_
        have hFc := va_free (wc := (ME h g ss sa_17 so pl si_18 fa li co st rq bl te op wo wz sr le_19 tx_20 ro)) hD hS hA [0, 1, 2, 3, 4, 5, 6] rfl
        refine va_calli (va_runV (As := [.int 0]) (rest := []) ⟨hx, hb, hml, hown, ht⟩ (c_M_peek l dC dI k h g ss sa_17 so pl si_18 fa li co st rq bl te op wo le_19 wz sr tx_20 ro 0 _ (by omega) (by omega) (by omega) (by omega) (by omega) (by omega) ) (cwV 1 ht (g_V k_702 k_704 k_39 k_80 k_705) rfl rfl rfl (by decide +kernel) ⟨(Nat.le_of_ble_eq_true rfl), (Nat.le_of_ble_eq_true rfl)⟩) ⟨fb_X, va_recv hK hP (ci := 4) (q0 := 0) rfl rfl, pre_X hE hS hFc hP hK hD⟩ rfl rfl hl.1 rfl (lv_room (Nat.le_of_ble_eq_true rfl)) d_M_token_44 ⟨(Nat.le_of_ble_eq_true rfl), (Nat.le_of_ble_eq_true rfl)⟩) hS (fun q _ h9 => hFc q h9) hFc (fun r_35 u_34 t H locs het hvm hw hB hz1 hk1 hS => ?_)
        obtain ⟨p_36, p_37⟩ := hw
        obtain ⟨hP1, hK1, hD1⟩ := hB
        rw [het] at hP1
        have hP : va_P (dC, dI) cls (ME h g ss sa_17 so pl si_18 fa li co st rq bl te op wo wz sr le_19 tx_20 ro) H := hP1
        have hD : va_D A (ME h g ss sa_17 so pl si_18 fa li co st rq bl te op wo wz sr le_19 tx_20 ro) := hD1.weaken (fun _ _ _ h9 => hFc _ h9)
        refine lv_bipush (v := 58) hx hb d_M_token_47 (by decide) ?_
        refine lv_icmp_ne (tgt := 59) hx hb d_M_token_49 (by decide) (fun c_38 => ?_) (fun c_38 => ?_)
        · have dc_38 := i_ne c_38 rfl (show Int32.toInt 58 = 58 by decide)
          refine lv_iconst (v := 1) hx hb d_M_token_59 (by decide) ?_
          have hc_1 : Int32.toInt 1 = 1 := by decide
          exact fin 1 (sa_17, si_18, le_19, tx_20) _ _ _ ls d_M_token_60 ⟨(by (try dsimp only); omega), (by (try dsimp only); omega), (by (try dsimp only); omega), (by (try dsimp only); omega), (by (try dsimp only); omega), (by (try dsimp only); omega)⟩ hP hD hS
        · have dc_38 := i_eq c_38 rfl (show Int32.toInt 58 = 58 by decide)
          refine lv_aload_n hx hb d_M_token_52 rfl (lv_at hl 1 rfl) ?_
          have hFc := va_free (wc := (ME h g ss sa_17 so pl si_18 fa li co st rq bl te op wo wz sr le_19 tx_20 ro)) hD hS hA [0, 1, 2, 3, 4, 5, 6] rfl
          refine va_calli (va_runV (As := []) (rest := []) ⟨hx, hb, hml, hown, ht⟩ (c_M_lines l dC dI k h g ss sa_17 so pl si_18 fa li co st rq bl te op wo le_19 wz sr tx_20 ro  _ (by omega) (by omega) (by omega) (by omega) (by omega) (by omega) (by omega)) (cwV 0 ht (g_V k_742 k_744 k_46 k_80 k_745) rfl rfl rfl (by decide +kernel) ⟨(Nat.le_of_ble_eq_true rfl), (Nat.le_of_ble_eq_true rfl)⟩) ⟨fb_X, va_recv hK hP (ci := 4) (q0 := 0) rfl rfl, pre_X hE hS hFc hP hK hD⟩ rfl rfl hl.1 rfl (lv_room (Nat.le_of_ble_eq_true rfl)) d_M_token_53 ⟨(Nat.le_of_ble_eq_true rfl), (Nat.le_of_ble_eq_true rfl)⟩) hS (fun q _ h9 => hFc q h9) hFc (fun r_44 u_43 t H locs het hvm hw hB hz1 hk1 hS => ?_)
          obtain ⟨sa_39, si_40, le_41, tx_42⟩ := u_43
          try dsimp only at hw
          obtain ⟨p_45, p_46, p_47, p_48, p_49, p_50⟩ := hw
          obtain ⟨hP1, hK1, hD1⟩ := hB
          rw [het] at hP1
          have hP : va_P (dC, dI) cls (ME h g ss sa_39 so pl si_40 fa li co st rq bl te op wo wz sr le_41 tx_42 ro) H := hP1
          have hD : va_D A (ME h g ss sa_39 so pl si_40 fa li co st rq bl te op wo wz sr le_41 tx_42 ro) := hD1.weaken (fun _ _ _ h9 => hFc _ h9)
          refine lv_goto (tgt := 60) hx hb d_M_token_56 (by decide) ?_
          exact fin r_44 (sa_39, si_40, le_41, tx_42) _ _ _ ls d_M_token_60 ⟨(by (try dsimp only); omega), (by (try dsimp only); omega), (by (try dsimp only); omega), (by (try dsimp only); omega), (by (try dsimp only); omega), (by (try dsimp only); omega)⟩ hP hD hS
    · have dc_16 := i_eq c_16 rfl (show Int32.toInt 0 = 0 by decide)
      refine lv_iload_n hx hb d_M_token_23 rfl (lv_at hl 0 rfl) ?_
      refine lv_bipush (v := 95) hx hb d_M_token_24 (by decide) ?_
      refine lv_icmp_ne (tgt := 61) hx hb d_M_token_26 (by decide) (fun c_51 => ?_) (fun c_51 => ?_)
      · have dc_51 := i_ne c_51 rfl (show Int32.toInt 95 = 95 by decide)
        refine lv_iload_n hx hb d_M_token_61 rfl (lv_at hl 0 rfl) ?_
        refine lv_bipush (v := 58) hx hb d_M_token_62 (by decide) ?_
        refine lv_icmp_ne (tgt := 106) hx hb d_M_token_64 (by decide) (fun c_52 => ?_) (fun c_52 => ?_)
        · have dc_52 := i_ne c_52 rfl (show Int32.toInt 58 = 58 by decide)
          refine lv_iload_n hx hb d_M_token_106 rfl (lv_at hl 0 rfl) ?_
          refine vp_callSi (W.runS (As := [.int r_2]) (rest := []) ⟨hx, hb, hml, hown, ht⟩ (c_M_isDigit l k r_2 ) (va_cwS 1 ht (g_S k_724 k_725 k_80 k_726) rfl rfl rfl (by decide +kernel) ⟨(Nat.le_of_ble_eq_true rfl), (Nat.le_of_ble_eq_true rfl)⟩) ⟨fb_J, pre_J hE hS⟩ rfl rfl hl.1 rfl (lv_room (Nat.le_of_ble_eq_true rfl)) d_M_token_107 ⟨(Nat.le_of_ble_eq_true rfl), (Nat.le_of_ble_eq_true rfl)⟩) (fun r_53 hw => ?_)
          obtain ⟨p_54, p_55⟩ := hw
          refine lv_if_eq (tgt := 118) hx hb d_M_token_110 (by decide) (fun c_56 => ?_) (fun c_56 => ?_)
          · have dc_56 := i_eq c_56 rfl (show Int32.toInt 0 = 0 by decide)
            refine lv_iload_n hx hb d_M_token_118 rfl (lv_at hl 0 rfl) ?_
            refine lv_bipush (v := 34) hx hb d_M_token_119 (by decide) ?_
            refine lv_icmp_ne (tgt := 129) hx hb d_M_token_121 (by decide) (fun c_57 => ?_) (fun c_57 => ?_)
            · have dc_57 := i_ne c_57 rfl (show Int32.toInt 34 = 34 by decide)
              refine lv_iload_n hx hb d_M_token_129 rfl (lv_at hl 0 rfl) ?_
              refine lv_bipush (v := 59) hx hb d_M_token_130 (by decide) ?_
              refine lv_icmp_eq (tgt := 177) hx hb d_M_token_132 (by decide) (fun c_58 => ?_) (fun c_58 => ?_)
              · have dc_58 := i_eq c_58 rfl (show Int32.toInt 59 = 59 by decide)
                refine lv_iconst (v := 1) hx hb d_M_token_177 (by decide) ?_
                refine lv_goto (tgt := 182) hx hb d_M_token_178 (by decide) ?_
                refine lv_istore_n (lv' := [(2, .int 1), (1, .int r_2), (0, .ref (h 0))]) hx hb d_M_token_182 rfl hl (by decide) rfl (fun ls hl => ?_)
                refine lv_iload_n hx hb d_M_token_183 rfl (lv_at hl 0 rfl) ?_
                refine lv_if_ne (tgt := 189) hx hb d_M_token_184 (by decide) (fun _ => ?_) (fun cn => absurd cn (by decide))
                refine lv_aload_n hx hb d_M_token_189 rfl (lv_at hl 2 rfl) ?_
                refine lv_aload_n hx hb d_M_token_190 rfl (lv_at hl 2 rfl) ?_
                refine va_get (D := (dC, dI)) (ci := 4) (v := .int sa) (C := "SieveDeskModel") (T := F_M) (N := 19) hx hb ht i_M hown hK hP 0 rfl rfl 4 (by decide) (ht _ k_631) (fun _ h9 => h9) rfl d_M_token_191 ?_
                refine lv_iconst (v := 1) hx hb d_M_token_194 (by decide) ?_
                refine lv_iadd hx hb d_M_token_195 ?_
                have e_59 : Int32.toInt (sa + 1) = (Int32.toInt sa) + 1 := i_add rfl (show Int32.toInt 1 = 1 by decide) (by omega) (by omega)
                refine va_put (D := (dC, dI)) (ci := 4) (v := .int (sa + 1)) (ty := .int) (C := "SieveDeskModel") (T := F_M) (N := 19) hx hb ht i_M ty_M ty_M_ok n_M hown hK hP hD hS 0 rfl rfl 4 (by decide) (ht _ k_631) (fun _ h9 => h9) rfl (ty_M_ok 4 (by decide)) rfl rfl (Nat.le_of_ble_eq_true rfl) d_M_token_196 (fun H locs hP hD hS => ?_)
                have hP : va_P (dC, dI) cls (ME h g ss (sa + 1) so pl si_5 fa li co st rq bl te op wo wz sr le_6 tx ro) H := hP
                have hD : va_D A (ME h g ss (sa + 1) so pl si_5 fa li co st rq bl te op wo wz sr le_6 tx ro) := hD
                refine lv_bipush (v := 100) hx hb d_M_token_199 (by decide) ?_
                refine lv_iload_n hx hb d_M_token_201 rfl (lv_at hl 1 rfl) ?_
                refine lv_iadd hx hb d_M_token_202 ?_
                have e_60 : Int32.toInt (100 + r_2) = 100 + (Int32.toInt r_2) := i_add (show Int32.toInt 100 = 100 by decide) rfl (by omega) (by omega)
                exact fin (100 + r_2) ((sa + 1), si_5, le_6, tx) _ _ _ ls d_M_token_203 ⟨(by (try dsimp only); omega), (by (try dsimp only); omega), (by (try dsimp only); omega), (by (try dsimp only); omega), (by (try dsimp only); omega), (by (try dsimp only); omega)⟩ hP hD hS
              · have dc_58 := i_ne c_58 rfl (show Int32.toInt 59 = 59 by decide)
                refine lv_iload_n hx hb d_M_token_135 rfl (lv_at hl 0 rfl) ?_
                refine lv_bipush (v := 44) hx hb d_M_token_136 (by decide) ?_
                refine lv_icmp_eq (tgt := 177) hx hb d_M_token_138 (by decide) (fun c_61 => ?_) (fun c_61 => ?_)
                · have dc_61 := i_eq c_61 rfl (show Int32.toInt 44 = 44 by decide)
                  refine lv_iconst (v := 1) hx hb d_M_token_177 (by decide) ?_
                  refine lv_goto (tgt := 182) hx hb d_M_token_178 (by decide) ?_
                  refine lv_istore_n (lv' := [(2, .int 1), (1, .int r_2), (0, .ref (h 0))]) hx hb d_M_token_182 rfl hl (by decide) rfl (fun ls hl => ?_)
                  refine lv_iload_n hx hb d_M_token_183 rfl (lv_at hl 0 rfl) ?_
                  refine lv_if_ne (tgt := 189) hx hb d_M_token_184 (by decide) (fun _ => ?_) (fun cn => absurd cn (by decide))
                  refine lv_aload_n hx hb d_M_token_189 rfl (lv_at hl 2 rfl) ?_
                  refine lv_aload_n hx hb d_M_token_190 rfl (lv_at hl 2 rfl) ?_
                  refine va_get (D := (dC, dI)) (ci := 4) (v := .int sa) (C := "SieveDeskModel") (T := F_M) (N := 19) hx hb ht i_M hown hK hP 0 rfl rfl 4 (by decide) (ht _ k_631) (fun _ h9 => h9) rfl d_M_token_191 ?_
                  refine lv_iconst (v := 1) hx hb d_M_token_194 (by decide) ?_
                  refine lv_iadd hx hb d_M_token_195 ?_
                  have e_62 : Int32.toInt (sa + 1) = (Int32.toInt sa) + 1 := i_add rfl (show Int32.toInt 1 = 1 by decide) (by omega) (by omega)
                  refine va_put (D := (dC, dI)) (ci := 4) (v := .int (sa + 1)) (ty := .int) (C := "SieveDeskModel") (T := F_M) (N := 19) hx hb ht i_M ty_M ty_M_ok n_M hown hK hP hD hS 0 rfl rfl 4 (by decide) (ht _ k_631) (fun _ h9 => h9) rfl (ty_M_ok 4 (by decide)) rfl rfl (Nat.le_of_ble_eq_true rfl) d_M_token_196 (fun H locs hP hD hS => ?_)
                  have hP : va_P (dC, dI) cls (ME h g ss (sa + 1) so pl si_5 fa li co st rq bl te op wo wz sr le_6 tx ro) H := hP
                  have hD : va_D A (ME h g ss (sa + 1) so pl si_5 fa li co st rq bl te op wo wz sr le_6 tx ro) := hD
                  refine lv_bipush (v := 100) hx hb d_M_token_199 (by decide) ?_
                  refine lv_iload_n hx hb d_M_token_201 rfl (lv_at hl 1 rfl) ?_
                  refine lv_iadd hx hb d_M_token_202 ?_
                  have e_63 : Int32.toInt (100 + r_2) = 100 + (Int32.toInt r_2) := i_add (show Int32.toInt 100 = 100 by decide) rfl (by omega) (by omega)
                  exact fin (100 + r_2) ((sa + 1), si_5, le_6, tx) _ _ _ ls d_M_token_203 ⟨(by (try dsimp only); omega), (by (try dsimp only); omega), (by (try dsimp only); omega), (by (try dsimp only); omega), (by (try dsimp only); omega), (by (try dsimp only); omega)⟩ hP hD hS
                · have dc_61 := i_ne c_61 rfl (show Int32.toInt 44 = 44 by decide)
                  refine lv_iload_n hx hb d_M_token_141 rfl (lv_at hl 0 rfl) ?_
                  refine lv_bipush (v := 40) hx hb d_M_token_142 (by decide) ?_
                  refine lv_icmp_eq (tgt := 177) hx hb d_M_token_144 (by decide) (fun c_64 => ?_) (fun c_64 => ?_)
                  · have dc_64 := i_eq c_64 rfl (show Int32.toInt 40 = 40 by decide)
                    refine lv_iconst (v := 1) hx hb d_M_token_177 (by decide) ?_
                    refine lv_goto (tgt := 182) hx hb d_M_token_178 (by decide) ?_
                    refine lv_istore_n (lv' := [(2, .int 1), (1, .int r_2), (0, .ref (h 0))]) hx hb d_M_token_182 rfl hl (by decide) rfl (fun ls hl => ?_)
                    refine lv_iload_n hx hb d_M_token_183 rfl (lv_at hl 0 rfl) ?_
                    refine lv_if_ne (tgt := 189) hx hb d_M_token_184 (by decide) (fun _ => ?_) (fun cn => absurd cn (by decide))
                    refine lv_aload_n hx hb d_M_token_189 rfl (lv_at hl 2 rfl) ?_
                    refine lv_aload_n hx hb d_M_token_190 rfl (lv_at hl 2 rfl) ?_
                    refine va_get (D := (dC, dI)) (ci := 4) (v := .int sa) (C := "SieveDeskModel") (T := F_M) (N := 19) hx hb ht i_M hown hK hP 0 rfl rfl 4 (by decide) (ht _ k_631) (fun _ h9 => h9) rfl d_M_token_191 ?_
                    refine lv_iconst (v := 1) hx hb d_M_token_194 (by decide) ?_
                    refine lv_iadd hx hb d_M_token_195 ?_
                    have e_65 : Int32.toInt (sa + 1) = (Int32.toInt sa) + 1 := i_add rfl (show Int32.toInt 1 = 1 by decide) (by omega) (by omega)
                    refine va_put (D := (dC, dI)) (ci := 4) (v := .int (sa + 1)) (ty := .int) (C := "SieveDeskModel") (T := F_M) (N := 19) hx hb ht i_M ty_M ty_M_ok n_M hown hK hP hD hS 0 rfl rfl 4 (by decide) (ht _ k_631) (fun _ h9 => h9) rfl (ty_M_ok 4 (by decide)) rfl rfl (Nat.le_of_ble_eq_true rfl) d_M_token_196 (fun H locs hP hD hS => ?_)
                    have hP : va_P (dC, dI) cls (ME h g ss (sa + 1) so pl si_5 fa li co st rq bl te op wo wz sr le_6 tx ro) H := hP
                    have hD : va_D A (ME h g ss (sa + 1) so pl si_5 fa li co st rq bl te op wo wz sr le_6 tx ro) := hD
                    refine lv_bipush (v := 100) hx hb d_M_token_199 (by decide) ?_
                    refine lv_iload_n hx hb d_M_token_201 rfl (lv_at hl 1 rfl) ?_
                    refine lv_iadd hx hb d_M_token_202 ?_
                    have e_66 : Int32.toInt (100 + r_2) = 100 + (Int32.toInt r_2) := i_add (show Int32.toInt 100 = 100 by decide) rfl (by omega) (by omega)
                    exact fin (100 + r_2) ((sa + 1), si_5, le_6, tx) _ _ _ ls d_M_token_203 ⟨(by (try dsimp only); omega), (by (try dsimp only); omega), (by (try dsimp only); omega), (by (try dsimp only); omega), (by (try dsimp only); omega), (by (try dsimp only); omega)⟩ hP hD hS
                  · have dc_64 := i_ne c_64 rfl (show Int32.toInt 40 = 40 by decide)
                    refine lv_iload_n hx hb d_M_token_147 rfl (lv_at hl 0 rfl) ?_
                    refine lv_bipush (v := 41) hx hb d_M_token_148 (by decide) ?_
                    refine lv_icmp_eq (tgt := 177) hx hb d_M_token_150 (by decide) (fun c_67 => ?_) (fun c_67 => ?_)
                    · have dc_67 := i_eq c_67 rfl (show Int32.toInt 41 = 41 by decide)
                      refine lv_iconst (v := 1) hx hb d_M_token_177 (by decide) ?_
                      refine lv_goto (tgt := 182) hx hb d_M_token_178 (by decide) ?_
                      refine lv_istore_n (lv' := [(2, .int 1), (1, .int r_2), (0, .ref (h 0))]) hx hb d_M_token_182 rfl hl (by decide) rfl (fun ls hl => ?_)
                      refine lv_iload_n hx hb d_M_token_183 rfl (lv_at hl 0 rfl) ?_
                      refine lv_if_ne (tgt := 189) hx hb d_M_token_184 (by decide) (fun _ => ?_) (fun cn => absurd cn (by decide))
                      refine lv_aload_n hx hb d_M_token_189 rfl (lv_at hl 2 rfl) ?_
                      refine lv_aload_n hx hb d_M_token_190 rfl (lv_at hl 2 rfl) ?_
                      refine va_get (D := (dC, dI)) (ci := 4) (v := .int sa) (C := "SieveDeskModel") (T := F_M) (N := 19) hx hb ht i_M hown hK hP 0 rfl rfl 4 (by decide) (ht _ k_631) (fun _ h9 => h9) rfl d_M_token_191 ?_
                      refine lv_iconst (v := 1) hx hb d_M_token_194 (by decide) ?_
                      refine lv_iadd hx hb d_M_token_195 ?_
                      have e_68 : Int32.toInt (sa + 1) = (Int32.toInt sa) + 1 := i_add rfl (show Int32.toInt 1 = 1 by decide) (by omega) (by omega)
                      refine va_put (D := (dC, dI)) (ci := 4) (v := .int (sa + 1)) (ty := .int) (C := "SieveDeskModel") (T := F_M) (N := 19) hx hb ht i_M ty_M ty_M_ok n_M hown hK hP hD hS 0 rfl rfl 4 (by decide) (ht _ k_631) (fun _ h9 => h9) rfl (ty_M_ok 4 (by decide)) rfl rfl (Nat.le_of_ble_eq_true rfl) d_M_token_196 (fun H locs hP hD hS => ?_)
                      have hP : va_P (dC, dI) cls (ME h g ss (sa + 1) so pl si_5 fa li co st rq bl te op wo wz sr le_6 tx ro) H := hP
                      have hD : va_D A (ME h g ss (sa + 1) so pl si_5 fa li co st rq bl te op wo wz sr le_6 tx ro) := hD
                      refine lv_bipush (v := 100) hx hb d_M_token_199 (by decide) ?_
                      refine lv_iload_n hx hb d_M_token_201 rfl (lv_at hl 1 rfl) ?_
                      refine lv_iadd hx hb d_M_token_202 ?_
                      have e_69 : Int32.toInt (100 + r_2) = 100 + (Int32.toInt r_2) := i_add (show Int32.toInt 100 = 100 by decide) rfl (by omega) (by omega)
                      exact fin (100 + r_2) ((sa + 1), si_5, le_6, tx) _ _ _ ls d_M_token_203 ⟨(by (try dsimp only); omega), (by (try dsimp only); omega), (by (try dsimp only); omega), (by (try dsimp only); omega), (by (try dsimp only); omega), (by (try dsimp only); omega)⟩ hP hD hS
                    · have dc_67 := i_ne c_67 rfl (show Int32.toInt 41 = 41 by decide)
                      refine lv_iload_n hx hb d_M_token_153 rfl (lv_at hl 0 rfl) ?_
                      refine lv_bipush (v := 91) hx hb d_M_token_154 (by decide) ?_
                      refine lv_icmp_eq (tgt := 177) hx hb d_M_token_156 (by decide) (fun c_70 => ?_) (fun c_70 => ?_)
                      · have dc_70 := i_eq c_70 rfl (show Int32.toInt 91 = 91 by decide)
                        refine lv_iconst (v := 1) hx hb d_M_token_177 (by decide) ?_
                        refine lv_goto (tgt := 182) hx hb d_M_token_178 (by decide) ?_
                        refine lv_istore_n (lv' := [(2, .int 1), (1, .int r_2), (0, .ref (h 0))]) hx hb d_M_token_182 rfl hl (by decide) rfl (fun ls hl => ?_)
                        refine lv_iload_n hx hb d_M_token_183 rfl (lv_at hl 0 rfl) ?_
                        refine lv_if_ne (tgt := 189) hx hb d_M_token_184 (by decide) (fun _ => ?_) (fun cn => absurd cn (by decide))
                        refine lv_aload_n hx hb d_M_token_189 rfl (lv_at hl 2 rfl) ?_
                        refine lv_aload_n hx hb d_M_token_190 rfl (lv_at hl 2 rfl) ?_
                        refine va_get (D := (dC, dI)) (ci := 4) (v := .int sa) (C := "SieveDeskModel") (T := F_M) (N := 19) hx hb ht i_M hown hK hP 0 rfl rfl 4 (by decide) (ht _ k_631) (fun _ h9 => h9) rfl d_M_token_191 ?_
                        refine lv_iconst (v := 1) hx hb d_M_token_194 (by decide) ?_
                        refine lv_iadd hx hb d_M_token_195 ?_
                        have e_71 : Int32.toInt (sa + 1) = (Int32.toInt sa) + 1 := i_add rfl (show Int32.toInt 1 = 1 by decide) (by omega) (by omega)
                        refine va_put (D := (dC, dI)) (ci := 4) (v := .int (sa + 1)) (ty := .int) (C := "SieveDeskModel") (T := F_M) (N := 19) hx hb ht i_M ty_M ty_M_ok n_M hown hK hP hD hS 0 rfl rfl 4 (by decide) (ht _ k_631) (fun _ h9 => h9) rfl (ty_M_ok 4 (by decide)) rfl rfl (Nat.le_of_ble_eq_true rfl) d_M_token_196 (fun H locs hP hD hS => ?_)
                        have hP : va_P (dC, dI) cls (ME h g ss (sa + 1) so pl si_5 fa li co st rq bl te op wo wz sr le_6 tx ro) H := hP
                        have hD : va_D A (ME h g ss (sa + 1) so pl si_5 fa li co st rq bl te op wo wz sr le_6 tx ro) := hD
                        refine lv_bipush (v := 100) hx hb d_M_token_199 (by decide) ?_
                        refine lv_iload_n hx hb d_M_token_201 rfl (lv_at hl 1 rfl) ?_
                        refine lv_iadd hx hb d_M_token_202 ?_
                        have e_72 : Int32.toInt (100 + r_2) = 100 + (Int32.toInt r_2) := i_add (show Int32.toInt 100 = 100 by decide) rfl (by omega) (by omega)
                        exact fin (100 + r_2) ((sa + 1), si_5, le_6, tx) _ _ _ ls d_M_token_203 ⟨(by (try dsimp only); omega), (by (try dsimp only); omega), (by (try dsimp only); omega), (by (try dsimp only); omega), (by (try dsimp only); omega), (by (try dsimp only); omega)⟩ hP hD hS
                      · have dc_70 := i_ne c_70 rfl (show Int32.toInt 91 = 91 by decide)
                        refine lv_iload_n hx hb d_M_token_159 rfl (lv_at hl 0 rfl) ?_
                        refine lv_bipush (v := 93) hx hb d_M_token_160 (by decide) ?_
                        refine lv_icmp_eq (tgt := 177) hx hb d_M_token_162 (by decide) (fun c_73 => ?_) (fun c_73 => ?_)
                        · have dc_73 := i_eq c_73 rfl (show Int32.toInt 93 = 93 by decide)
                          refine lv_iconst (v := 1) hx hb d_M_token_177 (by decide) ?_
                          refine lv_goto (tgt := 182) hx hb d_M_token_178 (by decide) ?_
                          refine lv_istore_n (lv' := [(2, .int 1), (1, .int r_2), (0, .ref (h 0))]) hx hb d_M_token_182 rfl hl (by decide) rfl (fun ls hl => ?_)
                          refine lv_iload_n hx hb d_M_token_183 rfl (lv_at hl 0 rfl) ?_
                          refine lv_if_ne (tgt := 189) hx hb d_M_token_184 (by decide) (fun _ => ?_) (fun cn => absurd cn (by decide))
                          refine lv_aload_n hx hb d_M_token_189 rfl (lv_at hl 2 rfl) ?_
                          refine lv_aload_n hx hb d_M_token_190 rfl (lv_at hl 2 rfl) ?_
                          refine va_get (D := (dC, dI)) (ci := 4) (v := .int sa) (C := "SieveDeskModel") (T := F_M) (N := 19) hx hb ht i_M hown hK hP 0 rfl rfl 4 (by decide) (ht _ k_631) (fun _ h9 => h9) rfl d_M_token_191 ?_
                          refine lv_iconst (v := 1) hx hb d_M_token_194 (by decide) ?_
                          refine lv_iadd hx hb d_M_token_195 ?_
                          have e_74 : Int32.toInt (sa + 1) = (Int32.toInt sa) + 1 := i_add rfl (show Int32.toInt 1 = 1 by decide) (by omega) (by omega)
                          refine va_put (D := (dC, dI)) (ci := 4) (v := .int (sa + 1)) (ty := .int) (C := "SieveDeskModel") (T := F_M) (N := 19) hx hb ht i_M ty_M ty_M_ok n_M hown hK hP hD hS 0 rfl rfl 4 (by decide) (ht _ k_631) (fun _ h9 => h9) rfl (ty_M_ok 4 (by decide)) rfl rfl (Nat.le_of_ble_eq_true rfl) d_M_token_196 (fun H locs hP hD hS => ?_)
                          have hP : va_P (dC, dI) cls (ME h g ss (sa + 1) so pl si_5 fa li co st rq bl te op wo wz sr le_6 tx ro) H := hP
                          have hD : va_D A (ME h g ss (sa + 1) so pl si_5 fa li co st rq bl te op wo wz sr le_6 tx ro) := hD
                          refine lv_bipush (v := 100) hx hb d_M_token_199 (by decide) ?_
                          refine lv_iload_n hx hb d_M_token_201 rfl (lv_at hl 1 rfl) ?_
                          refine lv_iadd hx hb d_M_token_202 ?_
                          have e_75 : Int32.toInt (100 + r_2) = 100 + (Int32.toInt r_2) := i_add (show Int32.toInt 100 = 100 by decide) rfl (by omega) (by omega)
                          exact fin (100 + r_2) ((sa + 1), si_5, le_6, tx) _ _ _ ls d_M_token_203 ⟨(by (try dsimp only); omega), (by (try dsimp only); omega), (by (try dsimp only); omega), (by (try dsimp only); omega), (by (try dsimp only); omega), (by (try dsimp only); omega)⟩ hP hD hS
                        · have dc_73 := i_ne c_73 rfl (show Int32.toInt 93 = 93 by decide)
                          refine lv_iload_n hx hb d_M_token_165 rfl (lv_at hl 0 rfl) ?_
                          refine lv_bipush (v := 123) hx hb d_M_token_166 (by decide) ?_
                          refine lv_icmp_eq (tgt := 177) hx hb d_M_token_168 (by decide) (fun c_76 => ?_) (fun c_76 => ?_)
                          · have dc_76 := i_eq c_76 rfl (show Int32.toInt 123 = 123 by decide)
                            refine lv_iconst (v := 1) hx hb d_M_token_177 (by decide) ?_
                            refine lv_goto (tgt := 182) hx hb d_M_token_178 (by decide) ?_
                            refine lv_istore_n (lv' := [(2, .int 1), (1, .int r_2), (0, .ref (h 0))]) hx hb d_M_token_182 rfl hl (by decide) rfl (fun ls hl => ?_)
                            refine lv_iload_n hx hb d_M_token_183 rfl (lv_at hl 0 rfl) ?_
                            refine lv_if_ne (tgt := 189) hx hb d_M_token_184 (by decide) (fun _ => ?_) (fun cn => absurd cn (by decide))
                            refine lv_aload_n hx hb d_M_token_189 rfl (lv_at hl 2 rfl) ?_
                            refine lv_aload_n hx hb d_M_token_190 rfl (lv_at hl 2 rfl) ?_
                            refine va_get (D := (dC, dI)) (ci := 4) (v := .int sa) (C := "SieveDeskModel") (T := F_M) (N := 19) hx hb ht i_M hown hK hP 0 rfl rfl 4 (by decide) (ht _ k_631) (fun _ h9 => h9) rfl d_M_token_191 ?_
                            refine lv_iconst (v := 1) hx hb d_M_token_194 (by decide) ?_
                            refine lv_iadd hx hb d_M_token_195 ?_
                            have e_77 : Int32.toInt (sa + 1) = (Int32.toInt sa) + 1 := i_add rfl (show Int32.toInt 1 = 1 by decide) (by omega) (by omega)
                            refine va_put (D := (dC, dI)) (ci := 4) (v := .int (sa + 1)) (ty := .int) (C := "SieveDeskModel") (T := F_M) (N := 19) hx hb ht i_M ty_M ty_M_ok n_M hown hK hP hD hS 0 rfl rfl 4 (by decide) (ht _ k_631) (fun _ h9 => h9) rfl (ty_M_ok 4 (by decide)) rfl rfl (Nat.le_of_ble_eq_true rfl) d_M_token_196 (fun H locs hP hD hS => ?_)
                            have hP : va_P (dC, dI) cls (ME h g ss (sa + 1) so pl si_5 fa li co st rq bl te op wo wz sr le_6 tx ro) H := hP
                            have hD : va_D A (ME h g ss (sa + 1) so pl si_5 fa li co st rq bl te op wo wz sr le_6 tx ro) := hD
                            refine lv_bipush (v := 100) hx hb d_M_token_199 (by decide) ?_
                            refine lv_iload_n hx hb d_M_token_201 rfl (lv_at hl 1 rfl) ?_
                            refine lv_iadd hx hb d_M_token_202 ?_
                            have e_78 : Int32.toInt (100 + r_2) = 100 + (Int32.toInt r_2) := i_add (show Int32.toInt 100 = 100 by decide) rfl (by omega) (by omega)
                            exact fin (100 + r_2) ((sa + 1), si_5, le_6, tx) _ _ _ ls d_M_token_203 ⟨(by (try dsimp only); omega), (by (try dsimp only); omega), (by (try dsimp only); omega), (by (try dsimp only); omega), (by (try dsimp only); omega), (by (try dsimp only); omega)⟩ hP hD hS
                          · have dc_76 := i_ne c_76 rfl (show Int32.toInt 123 = 123 by decide)
                            refine lv_iload_n hx hb d_M_token_171 rfl (lv_at hl 0 rfl) ?_
                            refine lv_bipush (v := 125) hx hb d_M_token_172 (by decide) ?_
                            refine lv_icmp_ne (tgt := 181) hx hb d_M_token_174 (by decide) (fun c_79 => ?_) (fun c_79 => ?_)
                            · have dc_79 := i_ne c_79 rfl (show Int32.toInt 125 = 125 by decide)
                              refine lv_iconst (v := 0) hx hb d_M_token_181 (by decide) ?_
                              refine lv_istore_n (lv' := [(2, .int 0), (1, .int r_2), (0, .ref (h 0))]) hx hb d_M_token_182 rfl hl (by decide) rfl (fun ls hl => ?_)
                              refine lv_iload_n hx hb d_M_token_183 rfl (lv_at hl 0 rfl) ?_
                              refine lv_if_ne (tgt := 189) hx hb d_M_token_184 (by decide) (fun cn => absurd (by decide) cn) (fun _ => ?_)
                              refine lv_iconst (v := 5) hx hb d_M_token_187 (by decide) ?_
                              have hc_5 : Int32.toInt 5 = 5 := by decide
                              exact fin 5 (sa, si_5, le_6, tx) _ _ _ ls d_M_token_188 ⟨(by (try dsimp only); omega), (by (try dsimp only); omega), (by (try dsimp only); omega), (by (try dsimp only); omega), (by (try dsimp only); omega), (by (try dsimp only); omega)⟩ hP hD hS
                            · have dc_79 := i_eq c_79 rfl (show Int32.toInt 125 = 125 by decide)
                              refine lv_iconst (v := 1) hx hb d_M_token_177 (by decide) ?_
                              refine lv_goto (tgt := 182) hx hb d_M_token_178 (by decide) ?_
                              refine lv_istore_n (lv' := [(2, .int 1), (1, .int r_2), (0, .ref (h 0))]) hx hb d_M_token_182 rfl hl (by decide) rfl (fun ls hl => ?_)
                              refine lv_iload_n hx hb d_M_token_183 rfl (lv_at hl 0 rfl) ?_
                              refine lv_if_ne (tgt := 189) hx hb d_M_token_184 (by decide) (fun _ => ?_) (fun cn => absurd cn (by decide))
                              refine lv_aload_n hx hb d_M_token_189 rfl (lv_at hl 2 rfl) ?_
                              refine lv_aload_n hx hb d_M_token_190 rfl (lv_at hl 2 rfl) ?_
                              refine va_get (D := (dC, dI)) (ci := 4) (v := .int sa) (C := "SieveDeskModel") (T := F_M) (N := 19) hx hb ht i_M hown hK hP 0 rfl rfl 4 (by decide) (ht _ k_631) (fun _ h9 => h9) rfl d_M_token_191 ?_
                              refine lv_iconst (v := 1) hx hb d_M_token_194 (by decide) ?_
                              refine lv_iadd hx hb d_M_token_195 ?_
                              have e_80 : Int32.toInt (sa + 1) = (Int32.toInt sa) + 1 := i_add rfl (show Int32.toInt 1 = 1 by decide) (by omega) (by omega)
                              refine va_put (D := (dC, dI)) (ci := 4) (v := .int (sa + 1)) (ty := .int) (C := "SieveDeskModel") (T := F_M) (N := 19) hx hb ht i_M ty_M ty_M_ok n_M hown hK hP hD hS 0 rfl rfl 4 (by decide) (ht _ k_631) (fun _ h9 => h9) rfl (ty_M_ok 4 (by decide)) rfl rfl (Nat.le_of_ble_eq_true rfl) d_M_token_196 (fun H locs hP hD hS => ?_)
                              have hP : va_P (dC, dI) cls (ME h g ss (sa + 1) so pl si_5 fa li co st rq bl te op wo wz sr le_6 tx ro) H := hP
                              have hD : va_D A (ME h g ss (sa + 1) so pl si_5 fa li co st rq bl te op wo wz sr le_6 tx ro) := hD
                              refine lv_bipush (v := 100) hx hb d_M_token_199 (by decide) ?_
                              refine lv_iload_n hx hb d_M_token_201 rfl (lv_at hl 1 rfl) ?_
                              refine lv_iadd hx hb d_M_token_202 ?_
                              have e_81 : Int32.toInt (100 + r_2) = 100 + (Int32.toInt r_2) := i_add (show Int32.toInt 100 = 100 by decide) rfl (by omega) (by omega)
                              exact fin (100 + r_2) ((sa + 1), si_5, le_6, tx) _ _ _ ls d_M_token_203 ⟨(by (try dsimp only); omega), (by (try dsimp only); omega), (by (try dsimp only); omega), (by (try dsimp only); omega), (by (try dsimp only); omega), (by (try dsimp only); omega)⟩ hP hD hS
            · have dc_57 := i_eq c_57 rfl (show Int32.toInt 34 = 34 by decide)
              refine lv_aload_n hx hb d_M_token_124 rfl (lv_at hl 1 rfl) ?_
              have hFc := va_free (wc := (ME h g ss sa so pl si_5 fa li co st rq bl te op wo wz sr le_6 tx ro)) hD hS hA [0, 1, 2, 3, 4, 5, 6] rfl
              refine va_calli (va_runV (As := []) (rest := []) ⟨hx, hb, hml, hown, ht⟩ (c_M_quoted l dC dI k h g ss sa so pl si_5 fa li co st rq bl te op wo le_6 wz sr tx ro  _ (by omega) (by omega) (by omega) (by omega) (by omega) (by omega) (by omega) (by omega)) (cwV 0 ht (g_V k_759 k_761 k_49 k_80 k_762) rfl rfl rfl (by decide +kernel) ⟨(Nat.le_of_ble_eq_true rfl), (Nat.le_of_ble_eq_true rfl)⟩) ⟨fb_X, va_recv hK hP (ci := 4) (q0 := 0) rfl rfl, pre_X hE hS hFc hP hK hD⟩ rfl rfl hl.1 rfl (lv_room (Nat.le_of_ble_eq_true rfl)) d_M_token_125 ⟨(Nat.le_of_ble_eq_true rfl), (Nat.le_of_ble_eq_true rfl)⟩) hS (fun q _ h9 => hFc q h9) hFc (fun r_87 u_86 t H locs het hvm hw hB hz1 hk1 hS => ?_)
              obtain ⟨sa_82, si_83, le_84, tx_85⟩ := u_86
              try dsimp only at hw
              obtain ⟨p_88, p_89, p_90, p_91, p_92, p_93, p_94⟩ := hw
              obtain ⟨hP1, hK1, hD1⟩ := hB
              rw [het] at hP1
              have hP : va_P (dC, dI) cls (ME h g ss sa_82 so pl si_83 fa li co st rq bl te op wo wz sr le_84 tx_85 ro) H := hP1
              have hD : va_D A (ME h g ss sa_82 so pl si_83 fa li co st rq bl te op wo wz sr le_84 tx_85 ro) := hD1.weaken (fun _ _ _ h9 => hFc _ h9)
              exact fin r_87 (sa_82, si_83, le_84, tx_85) _ _ _ ls d_M_token_128 ⟨(by (try dsimp only); omega), (by (try dsimp only); omega), (by (try dsimp only); omega), (by (try dsimp only); omega), (by (try dsimp only); omega), (by (try dsimp only); omega)⟩ hP hD hS
          · have dc_56 := i_ne c_56 rfl (show Int32.toInt 0 = 0 by decide)
            refine lv_aload_n hx hb d_M_token_113 rfl (lv_at hl 1 rfl) ?_
            have hFc := va_free (wc := (ME h g ss sa so pl si_5 fa li co st rq bl te op wo wz sr le_6 tx ro)) hD hS hA [0, 1, 2, 3, 4, 5, 6] rfl
            refine va_calli (va_runV (As := []) (rest := []) ⟨hx, hb, hml, hown, ht⟩ (c_M_digits l dC dI k h g ss sa so pl si_5 fa li co st rq bl te op wo le_6 wz sr tx ro  _ (by omega) (by omega) (by omega) (by omega)) (cwV 0 ht (g_V k_750 k_752 k_48 k_80 k_753) rfl rfl rfl (by decide +kernel) ⟨(Nat.le_of_ble_eq_true rfl), (Nat.le_of_ble_eq_true rfl)⟩) ⟨fb_X, va_recv hK hP (ci := 4) (q0 := 0) rfl rfl, pre_X hE hS hFc hP hK hD⟩ rfl rfl hl.1 rfl (lv_room (Nat.le_of_ble_eq_true rfl)) d_M_token_114 ⟨(Nat.le_of_ble_eq_true rfl), (Nat.le_of_ble_eq_true rfl)⟩) hS (fun q _ h9 => hFc q h9) hFc (fun r_96 sa_95 t H locs het hvm hw hB hz1 hk1 hS => ?_)
            obtain ⟨p_97, p_98, p_99, p_100, p_101⟩ := hw
            obtain ⟨hP1, hK1, hD1⟩ := hB
            rw [het] at hP1
            have hP : va_P (dC, dI) cls (ME h g ss sa_95 so pl si_5 fa li co st rq bl te op wo wz sr le_6 tx ro) H := hP1
            have hD : va_D A (ME h g ss sa_95 so pl si_5 fa li co st rq bl te op wo wz sr le_6 tx ro) := hD1.weaken (fun _ _ _ h9 => hFc _ h9)
            exact fin r_96 (sa_95, si_5, le_6, tx) _ _ _ ls d_M_token_117 ⟨(by (try dsimp only); omega), (by (try dsimp only); omega), (by (try dsimp only); omega), (by (try dsimp only); omega), (by (try dsimp only); omega), (by (try dsimp only); omega)⟩ hP hD hS
        · have dc_52 := i_eq c_52 rfl (show Int32.toInt 58 = 58 by decide)
          refine lv_aload_n hx hb d_M_token_67 rfl (lv_at hl 1 rfl) ?_
          refine lv_iconst (v := 1) hx hb d_M_token_68 (by decide) ?_
          have hc_1 : Int32.toInt 1 = 1 := by decide
          have hFc := va_free (wc := (ME h g ss sa so pl si_5 fa li co st rq bl te op wo wz sr le_6 tx ro)) hD hS hA [0, 1, 2, 3, 4, 5, 6] rfl
          refine va_calli (va_runV (As := [.int 1]) (rest := []) ⟨hx, hb, hml, hown, ht⟩ (c_M_peek l dC dI k h g ss sa so pl si_5 fa li co st rq bl te op wo le_6 wz sr tx ro 1 _ (by omega) (by omega) (by omega) (by omega) (by omega) (by omega) ) (cwV 1 ht (g_V k_702 k_704 k_39 k_80 k_705) rfl rfl rfl (by decide +kernel) ⟨(Nat.le_of_ble_eq_true rfl), (Nat.le_of_ble_eq_true rfl)⟩) ⟨fb_X, va_recv hK hP (ci := 4) (q0 := 0) rfl rfl, pre_X hE hS hFc hP hK hD⟩ rfl rfl hl.1 rfl (lv_room (Nat.le_of_ble_eq_true rfl)) d_M_token_69 ⟨(Nat.le_of_ble_eq_true rfl), (Nat.le_of_ble_eq_true rfl)⟩) hS (fun q _ h9 => hFc q h9) hFc (fun r_103 u_102 t H locs het hvm hw hB hz1 hk1 hS => ?_)
          obtain ⟨p_104, p_105⟩ := hw
          obtain ⟨hP1, hK1, hD1⟩ := hB
          rw [het] at hP1
          have hP : va_P (dC, dI) cls (ME h g ss sa so pl si_5 fa li co st rq bl te op wo wz sr le_6 tx ro) H := hP1
          have hD : va_D A (ME h g ss sa so pl si_5 fa li co st rq bl te op wo wz sr le_6 tx ro) := hD1.weaken (fun _ _ _ h9 => hFc _ h9)
          refine vp_callSi (W.runS (As := [.int r_103]) (rest := []) ⟨hx, hb, hml, hown, ht⟩ (c_M_isLetter l k r_103 ) (va_cwS 1 ht (g_S k_714 k_715 k_80 k_716) rfl rfl rfl (by decide +kernel) ⟨(Nat.le_of_ble_eq_true rfl), (Nat.le_of_ble_eq_true rfl)⟩) ⟨fb_J, pre_J hE hS⟩ rfl rfl hl.1 rfl (lv_room (Nat.le_of_ble_eq_true rfl)) d_M_token_72 ⟨(Nat.le_of_ble_eq_true rfl), (Nat.le_of_ble_eq_true rfl)⟩) (fun r_106 hw => ?_)
          obtain ⟨p_107, p_108⟩ := hw
          refine lv_if_ne (tgt := 90) hx hb d_M_token_75 (by decide) (fun c_109 => ?_) (fun c_109 => ?_)
          · have dc_109 := i_ne c_109 rfl (show Int32.toInt 0 = 0 by decide)
            refine lv_aload_n hx hb d_M_token_90 rfl (lv_at hl 1 rfl) ?_
            refine lv_aload_n hx hb d_M_token_91 rfl (lv_at hl 1 rfl) ?_
            refine va_get (D := (dC, dI)) (ci := 4) (v := .int sa) (C := "SieveDeskModel") (T := F_M) (N := 19) hx hb ht i_M hown hK hP 0 rfl rfl 4 (by decide) (ht _ k_631) (fun _ h9 => h9) rfl d_M_token_92 ?_
            refine lv_iconst (v := 1) hx hb d_M_token_95 (by decide) ?_
            refine lv_iadd hx hb d_M_token_96 ?_
            have e_110 : Int32.toInt (sa + 1) = (Int32.toInt sa) + 1 := i_add rfl (show Int32.toInt 1 = 1 by decide) (by omega) (by omega)
            refine va_put (D := (dC, dI)) (ci := 4) (v := .int (sa + 1)) (ty := .int) (C := "SieveDeskModel") (T := F_M) (N := 19) hx hb ht i_M ty_M ty_M_ok n_M hown hK hP hD hS 0 rfl rfl 4 (by decide) (ht _ k_631) (fun _ h9 => h9) rfl (ty_M_ok 4 (by decide)) rfl rfl (Nat.le_of_ble_eq_true rfl) d_M_token_97 (fun H locs hP hD hS => ?_)
            have hP : va_P (dC, dI) cls (ME h g ss (sa + 1) so pl si_5 fa li co st rq bl te op wo wz sr le_6 tx ro) H := hP
            have hD : va_D A (ME h g ss (sa + 1) so pl si_5 fa li co st rq bl te op wo wz sr le_6 tx ro) := hD
            refine lv_aload_n hx hb d_M_token_100 rfl (lv_at hl 1 rfl) ?_
            have hFc := va_free (wc := (ME h g ss (sa + 1) so pl si_5 fa li co st rq bl te op wo wz sr le_6 tx ro)) hD hS hA [0, 1, 2, 3, 4, 5, 6] rfl
            refine va_callv (va_runV (As := []) (rest := []) ⟨hx, hb, hml, hown, ht⟩ (c_M_wordOf l dC dI k h g ss (sa + 1) so pl si_5 fa li co st rq bl te op wo le_6 wz sr tx ro  _ (by omega) (by omega) (by omega) (by omega) (by omega) (by omega) (by omega)) (cwV 0 ht (g_V k_717 k_719 k_42 k_80 k_720) rfl rfl rfl (by decide +kernel) ⟨(Nat.le_of_ble_eq_true rfl), (Nat.le_of_ble_eq_true rfl)⟩) ⟨fb_X, va_recv hK hP (ci := 4) (q0 := 0) rfl rfl, pre_X hE hS hFc hP hK hD⟩ rfl rfl hl.1 rfl (lv_room (Nat.le_of_ble_eq_true rfl)) d_M_token_101 ⟨(Nat.le_of_ble_eq_true rfl), (Nat.le_of_ble_eq_true rfl)⟩) hS (fun q _ h9 => hFc q h9) hFc (fun u_115 t H locs het hvm hw hB hz1 hk1 hS => ?_)
            obtain ⟨sa_111, si_112, le_113, tx_114⟩ := u_115
            try dsimp only at hw
            obtain ⟨p_117, p_118, p_119, p_120, p_121, p_122, p_123⟩ := hw
            obtain ⟨hP1, hK1, hD1⟩ := hB
            rw [het] at hP1
            have hP : va_P (dC, dI) cls (ME h g ss sa_111 so pl si_112 fa li co st rq bl te op wo wz sr le_113 tx_114 ro) H := hP1
            have hD : va_D A (ME h g ss sa_111 so pl si_112 fa li co st rq bl te op wo wz sr le_113 tx_114 ro) := hD1.weaken (fun _ _ _ h9 => hFc _ h9)
            refine lv_iconst (v := 2) hx hb d_M_token_104 (by decide) ?_
            have hc_2 : Int32.toInt 2 = 2 := by decide
            exact fin 2 (sa_111, si_112, le_113, tx_114) _ _ _ ls d_M_token_105 ⟨(by (try dsimp only); omega), (by (try dsimp only); omega), (by (try dsimp only); omega), (by (try dsimp only); omega), (by (try dsimp only); omega), (by (try dsimp only); omega)⟩ hP hD hS
          · have dc_109 := i_eq c_109 rfl (show Int32.toInt 0 = 0 by decide)
            refine lv_aload_n hx hb d_M_token_78 rfl (lv_at hl 1 rfl) ?_
            refine lv_iconst (v := 1) hx hb d_M_token_79 (by decide) ?_
            have hFc := va_free (wc := (ME h g ss sa so pl si_5 fa li co st rq bl te op wo wz sr le_6 tx ro)) hD hS hA [0, 1, 2, 3, 4, 5, 6] rfl
            refine va_calli (va_runV (As := [.int 1]) (rest := []) ⟨hx, hb, hml, hown, ht⟩ (c_M_peek l dC dI k h g ss sa so pl si_5 fa li co st rq bl te op wo le_6 wz sr tx ro 1 _ (by omega) (by omega) (by omega) (by omega) (by omega) (by omega) ) (cwV 1 ht (g_V k_702 k_704 k_39 k_80 k_705) rfl rfl rfl (by decide +kernel) ⟨(Nat.le_of_ble_eq_true rfl), (Nat.le_of_ble_eq_true rfl)⟩) ⟨fb_X, va_recv hK hP (ci := 4) (q0 := 0) rfl rfl, pre_X hE hS hFc hP hK hD⟩ rfl rfl hl.1 rfl (lv_room (Nat.le_of_ble_eq_true rfl)) d_M_token_80 ⟨(Nat.le_of_ble_eq_true rfl), (Nat.le_of_ble_eq_true rfl)⟩) hS (fun q _ h9 => hFc q h9) hFc (fun r_125 u_124 t H locs het hvm hw hB hz1 hk1 hS => ?_)
            obtain ⟨p_126, p_127⟩ := hw
            obtain ⟨hP1, hK1, hD1⟩ := hB
            rw [het] at hP1
            have hP : va_P (dC, dI) cls (ME h g ss sa so pl si_5 fa li co st rq bl te op wo wz sr le_6 tx ro) H := hP1
            have hD : va_D A (ME h g ss sa so pl si_5 fa li co st rq bl te op wo wz sr le_6 tx ro) := hD1.weaken (fun _ _ _ h9 => hFc _ h9)
            refine lv_bipush (v := 95) hx hb d_M_token_83 (by decide) ?_
            refine lv_icmp_eq (tgt := 90) hx hb d_M_token_85 (by decide) (fun c_128 => ?_) (fun c_128 => ?_)
            · have dc_128 := i_eq c_128 rfl (show Int32.toInt 95 = 95 by decide)
              refine lv_aload_n hx hb d_M_token_90 rfl (lv_at hl 1 rfl) ?_
              refine lv_aload_n hx hb d_M_token_91 rfl (lv_at hl 1 rfl) ?_
              refine va_get (D := (dC, dI)) (ci := 4) (v := .int sa) (C := "SieveDeskModel") (T := F_M) (N := 19) hx hb ht i_M hown hK hP 0 rfl rfl 4 (by decide) (ht _ k_631) (fun _ h9 => h9) rfl d_M_token_92 ?_
              refine lv_iconst (v := 1) hx hb d_M_token_95 (by decide) ?_
              refine lv_iadd hx hb d_M_token_96 ?_
              have e_129 : Int32.toInt (sa + 1) = (Int32.toInt sa) + 1 := i_add rfl (show Int32.toInt 1 = 1 by decide) (by omega) (by omega)
              refine va_put (D := (dC, dI)) (ci := 4) (v := .int (sa + 1)) (ty := .int) (C := "SieveDeskModel") (T := F_M) (N := 19) hx hb ht i_M ty_M ty_M_ok n_M hown hK hP hD hS 0 rfl rfl 4 (by decide) (ht _ k_631) (fun _ h9 => h9) rfl (ty_M_ok 4 (by decide)) rfl rfl (Nat.le_of_ble_eq_true rfl) d_M_token_97 (fun H locs hP hD hS => ?_)
              have hP : va_P (dC, dI) cls (ME h g ss (sa + 1) so pl si_5 fa li co st rq bl te op wo wz sr le_6 tx ro) H := hP
              have hD : va_D A (ME h g ss (sa + 1) so pl si_5 fa li co st rq bl te op wo wz sr le_6 tx ro) := hD
              refine lv_aload_n hx hb d_M_token_100 rfl (lv_at hl 1 rfl) ?_
              have hFc := va_free (wc := (ME h g ss (sa + 1) so pl si_5 fa li co st rq bl te op wo wz sr le_6 tx ro)) hD hS hA [0, 1, 2, 3, 4, 5, 6] rfl
              refine va_callv (va_runV (As := []) (rest := []) ⟨hx, hb, hml, hown, ht⟩ (c_M_wordOf l dC dI k h g ss (sa + 1) so pl si_5 fa li co st rq bl te op wo le_6 wz sr tx ro  _ (by omega) (by omega) (by omega) (by omega) (by omega) (by omega) (by omega)) (cwV 0 ht (g_V k_717 k_719 k_42 k_80 k_720) rfl rfl rfl (by decide +kernel) ⟨(Nat.le_of_ble_eq_true rfl), (Nat.le_of_ble_eq_true rfl)⟩) ⟨fb_X, va_recv hK hP (ci := 4) (q0 := 0) rfl rfl, pre_X hE hS hFc hP hK hD⟩ rfl rfl hl.1 rfl (lv_room (Nat.le_of_ble_eq_true rfl)) d_M_token_101 ⟨(Nat.le_of_ble_eq_true rfl), (Nat.le_of_ble_eq_true rfl)⟩) hS (fun q _ h9 => hFc q h9) hFc (fun u_134 t H locs het hvm hw hB hz1 hk1 hS => ?_)
              obtain ⟨sa_130, si_131, le_132, tx_133⟩ := u_134
              try dsimp only at hw
              obtain ⟨p_136, p_137, p_138, p_139, p_140, p_141, p_142⟩ := hw
              obtain ⟨hP1, hK1, hD1⟩ := hB
              rw [het] at hP1
              have hP : va_P (dC, dI) cls (ME h g ss sa_130 so pl si_131 fa li co st rq bl te op wo wz sr le_132 tx_133 ro) H := hP1
              have hD : va_D A (ME h g ss sa_130 so pl si_131 fa li co st rq bl te op wo wz sr le_132 tx_133 ro) := hD1.weaken (fun _ _ _ h9 => hFc _ h9)
              refine lv_iconst (v := 2) hx hb d_M_token_104 (by decide) ?_
              have hc_2 : Int32.toInt 2 = 2 := by decide
              exact fin 2 (sa_130, si_131, le_132, tx_133) _ _ _ ls d_M_token_105 ⟨(by (try dsimp only); omega), (by (try dsimp only); omega), (by (try dsimp only); omega), (by (try dsimp only); omega), (by (try dsimp only); omega), (by (try dsimp only); omega)⟩ hP hD hS
            · have dc_128 := i_ne c_128 rfl (show Int32.toInt 95 = 95 by decide)
              refine lv_iconst (v := 5) hx hb d_M_token_88 (by decide) ?_
              have hc_5 : Int32.toInt 5 = 5 := by decide
              exact fin 5 (sa, si_5, le_6, tx) _ _ _ ls d_M_token_89 ⟨(by (try dsimp only); omega), (by (try dsimp only); omega), (by (try dsimp only); omega), (by (try dsimp only); omega), (by (try dsimp only); omega), (by (try dsimp only); omega)⟩ hP hD hS
      · have dc_51 := i_eq c_51 rfl (show Int32.toInt 95 = 95 by decide)
        refine lv_aload_n hx hb d_M_token_29 rfl (lv_at hl 1 rfl) ?_
        have hFc := va_free (wc := (ME h g ss sa so pl si_5 fa li co st rq bl te op wo wz sr le_6 tx ro)) hD hS hA [0, 1, 2, 3, 4, 5, 6] rfl
        refine va_callv (va_runV (As := []) (rest := []) ⟨hx, hb, hml, hown, ht⟩ (c_M_wordOf l dC dI k h g ss sa so pl si_5 fa li co st rq bl te op wo le_6 wz sr tx ro  _ (by omega) (by omega) (by omega) (by omega) (by omega) (by omega) (by omega)) (cwV 0 ht (g_V k_717 k_719 k_42 k_80 k_720) rfl rfl rfl (by decide +kernel) ⟨(Nat.le_of_ble_eq_true rfl), (Nat.le_of_ble_eq_true rfl)⟩) ⟨fb_X, va_recv hK hP (ci := 4) (q0 := 0) rfl rfl, pre_X hE hS hFc hP hK hD⟩ rfl rfl hl.1 rfl (lv_room (Nat.le_of_ble_eq_true rfl)) d_M_token_30 ⟨(Nat.le_of_ble_eq_true rfl), (Nat.le_of_ble_eq_true rfl)⟩) hS (fun q _ h9 => hFc q h9) hFc (fun u_147 t H locs het hvm hw hB hz1 hk1 hS => ?_)
        obtain ⟨sa_143, si_144, le_145, tx_146⟩ := u_147
        try dsimp only at hw
        obtain ⟨p_149, p_150, p_151, p_152, p_153, p_154, p_155⟩ := hw
        obtain ⟨hP1, hK1, hD1⟩ := hB
        rw [het] at hP1
        have hP : va_P (dC, dI) cls (ME h g ss sa_143 so pl si_144 fa li co st rq bl te op wo wz sr le_145 tx_146 ro) H := hP1
        have hD : va_D A (ME h g ss sa_143 so pl si_144 fa li co st rq bl te op wo wz sr le_145 tx_146 ro) := hD1.weaken (fun _ _ _ h9 => hFc _ h9)
        refine lv_aload_n hx hb d_M_token_33 rfl (lv_at hl 1 rfl) ?_
        refine lv_bipush (v := 54) hx hb d_M_token_34 (by decide) ?_
        have hc_54 : Int32.toInt 54 = 54 := by decide
        have hFc := va_free (wc := (ME h g ss sa_143 so pl si_144 fa li co st rq bl te op wo wz sr le_145 tx_146 ro)) hD hS hA [0, 1, 2, 3, 4, 5, 6] rfl
        refine va_calli (va_runV (As := [.int 54]) (rest := []) ⟨hx, hb, hml, hown, ht⟩ (c_M_like l dC dI k h g ss sa_143 so pl si_144 fa li co st rq bl te op wo le_145 wz sr tx_146 ro 54 _ (by omega) (by omega) ) (cwV 1 ht (g_V k_734 k_736 k_44 k_80 k_737) rfl rfl rfl (by decide +kernel) ⟨(Nat.le_of_ble_eq_true rfl), (Nat.le_of_ble_eq_true rfl)⟩) ⟨fb_X, va_recv hK hP (ci := 4) (q0 := 0) rfl rfl, pre_X hE hS hFc hP hK hD⟩ rfl rfl hl.1 rfl (lv_room (Nat.le_of_ble_eq_true rfl)) d_M_token_36 ⟨(Nat.le_of_ble_eq_true rfl), (Nat.le_of_ble_eq_true rfl)⟩) hS (fun q _ h9 => hFc q h9) hFc (fun r_157 u_156 t H locs het hvm hw hB hz1 hk1 hS => ?_)
        have p_158 := hw
        obtain ⟨hP1, hK1, hD1⟩ := hB
        rw [het] at hP1
        have hP : va_P (dC, dI) cls (ME h g ss sa_143 so pl si_144 fa li co st rq bl te op wo wz sr le_145 tx_146 ro) H := hP1
        have hD : va_D A (ME h g ss sa_143 so pl si_144 fa li co st rq bl te op wo wz sr le_145 tx_146 ro) := hD1.weaken (fun _ _ _ h9 => hFc _ h9)
        refine lv_if_eq (tgt := 59) hx hb d_M_token_39 (by decide) (fun c_159 => ?_) (fun c_159 => ?_)
        · have dc_159 := i_eq c_159 rfl (show Int32.toInt 0 = 0 by decide)
          refine lv_iconst (v := 1) hx hb d_M_token_59 (by decide) ?_
          have hc_1 : Int32.toInt 1 = 1 := by decide
          exact fin 1 (sa_143, si_144, le_145, tx_146) _ _ _ ls d_M_token_60 ⟨(by (try dsimp only); omega), (by (try dsimp only); omega), (by (try dsimp only); omega), (by (try dsimp only); omega), (by (try dsimp only); omega), (by (try dsimp only); omega)⟩ hP hD hS
        · have dc_159 := i_ne c_159 rfl (show Int32.toInt 0 = 0 by decide)
          refine lv_aload_n hx hb d_M_token_42 rfl (lv_at hl 1 rfl) ?_
          refine lv_iconst (v := 0) hx hb d_M_token_43 (by decide) ?_
          have hFc := va_free (wc := (ME h g ss sa_143 so pl si_144 fa li co st rq bl te op wo wz sr le_145 tx_146 ro)) hD hS hA [0, 1, 2, 3, 4, 5, 6] rfl
          refine va_calli (va_runV (As := [.int 0]) (rest := []) ⟨hx, hb, hml, hown, ht⟩ (c_M_peek l dC dI k h g ss sa_143 so pl si_144 fa li co st rq bl te op wo le_145 wz sr tx_146 ro 0 _ (by omega) (by omega) (by omega) (by omega) (by omega) (by omega) ) (cwV 1 ht (g_V k_702 k_704 k_39 k_80 k_705) rfl rfl rfl (by decide +kernel) ⟨(Nat.le_of_ble_eq_true rfl), (Nat.le_of_ble_eq_true rfl)⟩) ⟨fb_X, va_recv hK hP (ci := 4) (q0 := 0) rfl rfl, pre_X hE hS hFc hP hK hD⟩ rfl rfl hl.1 rfl (lv_room (Nat.le_of_ble_eq_true rfl)) d_M_token_44 ⟨(Nat.le_of_ble_eq_true rfl), (Nat.le_of_ble_eq_true rfl)⟩) hS (fun q _ h9 => hFc q h9) hFc (fun r_161 u_160 t H locs het hvm hw hB hz1 hk1 hS => ?_)
          obtain ⟨p_162, p_163⟩ := hw
          obtain ⟨hP1, hK1, hD1⟩ := hB
          rw [het] at hP1
          have hP : va_P (dC, dI) cls (ME h g ss sa_143 so pl si_144 fa li co st rq bl te op wo wz sr le_145 tx_146 ro) H := hP1
          have hD : va_D A (ME h g ss sa_143 so pl si_144 fa li co st rq bl te op wo wz sr le_145 tx_146 ro) := hD1.weaken (fun _ _ _ h9 => hFc _ h9)
          refine lv_bipush (v := 58) hx hb d_M_token_47 (by decide) ?_
          refine lv_icmp_ne (tgt := 59) hx hb d_M_token_49 (by decide) (fun c_164 => ?_) (fun c_164 => ?_)
          · have dc_164 := i_ne c_164 rfl (show Int32.toInt 58 = 58 by decide)
            refine lv_iconst (v := 1) hx hb d_M_token_59 (by decide) ?_
            have hc_1 : Int32.toInt 1 = 1 := by decide
            exact fin 1 (sa_143, si_144, le_145, tx_146) _ _ _ ls d_M_token_60 ⟨(by (try dsimp only); omega), (by (try dsimp only); omega), (by (try dsimp only); omega), (by (try dsimp only); omega), (by (try dsimp only); omega), (by (try dsimp only); omega)⟩ hP hD hS
          · have dc_164 := i_eq c_164 rfl (show Int32.toInt 58 = 58 by decide)
            refine lv_aload_n hx hb d_M_token_52 rfl (lv_at hl 1 rfl) ?_
            have hFc := va_free (wc := (ME h g ss sa_143 so pl si_144 fa li co st rq bl te op wo wz sr le_145 tx_146 ro)) hD hS hA [0, 1, 2, 3, 4, 5, 6] rfl
            refine va_calli (va_runV (As := []) (rest := []) ⟨hx, hb, hml, hown, ht⟩ (c_M_lines l dC dI k h g ss sa_143 so pl si_144 fa li co st rq bl te op wo le_145 wz sr tx_146 ro  _ (by omega) (by omega) (by omega) (by omega) (by omega) (by omega) (by omega)) (cwV 0 ht (g_V k_742 k_744 k_46 k_80 k_745) rfl rfl rfl (by decide +kernel) ⟨(Nat.le_of_ble_eq_true rfl), (Nat.le_of_ble_eq_true rfl)⟩) ⟨fb_X, va_recv hK hP (ci := 4) (q0 := 0) rfl rfl, pre_X hE hS hFc hP hK hD⟩ rfl rfl hl.1 rfl (lv_room (Nat.le_of_ble_eq_true rfl)) d_M_token_53 ⟨(Nat.le_of_ble_eq_true rfl), (Nat.le_of_ble_eq_true rfl)⟩) hS (fun q _ h9 => hFc q h9) hFc (fun r_170 u_169 t H locs het hvm hw hB hz1 hk1 hS => ?_)
            obtain ⟨sa_165, si_166, le_167, tx_168⟩ := u_169
            try dsimp only at hw
            obtain ⟨p_171, p_172, p_173, p_174, p_175, p_176⟩ := hw
            obtain ⟨hP1, hK1, hD1⟩ := hB
            rw [het] at hP1
            have hP : va_P (dC, dI) cls (ME h g ss sa_165 so pl si_166 fa li co st rq bl te op wo wz sr le_167 tx_168 ro) H := hP1
            have hD : va_D A (ME h g ss sa_165 so pl si_166 fa li co st rq bl te op wo wz sr le_167 tx_168 ro) := hD1.weaken (fun _ _ _ h9 => hFc _ h9)
            refine lv_goto (tgt := 60) hx hb d_M_token_56 (by decide) ?_
            exact fin r_170 (sa_165, si_166, le_167, tx_168) _ _ _ ls d_M_token_60 ⟨(by (try dsimp only); omega), (by (try dsimp only); omega), (by (try dsimp only); omega), (by (try dsimp only); omega), (by (try dsimp only); omega), (by (try dsimp only); omega)⟩ hP hD hS
  · have dc_12 := i_nle c_12 (show Int32.toInt 0 = 0 by decide) rfl
    refine lv_iconst (v := 0) hx hb d_M_token_14 (by decide) ?_
    exact fin 0 (sa, si_5, le_6, tx) _ _ _ ls d_M_token_15 ⟨(by (try dsimp only); omega), (by (try dsimp only); omega), (by (try dsimp only); omega), (by (try dsimp only); omega), (by (try dsimp only); omega), (by (try dsimp only); omega)⟩ hP hD hS
set_option maxHeartbeats 4000000 in
set_option maxRecDepth 100000 in
theorem c_M_token (l : Launch) (dC : Nat → ClassId) (dI : Nat → Nat → Nat) (k : Nat → Nat) (h : Nat → Nat) (g : Nat → ClassId) (ss : Int32) (sa : Int32) (so : Int32) (pl : Int32) (si : Int32) (fa : Int32) (li : Int32) (co : Int32) (st : Int32) (rq : Int32) (bl : Int32) (te : Int32) (op : Int32) (wo : Nat → Int64) (le : Nat → Int64) (wz : Nat → Int32) (sr : Nat → Int32) (tx : Nat → Int32) (ro : Nat → Int32)  (sz : Nat) (h_0 : 0 ≤ Int32.toInt ss) (h_1 : Int32.toInt ss ≤ 400) (v_0 : 0 ≤ Int32.toInt sa) (v_1 : Int32.toInt sa ≤ Int32.toInt ss) (v_2 : 0 ≤ Int32.toInt si) (v_3 : Int32.toInt si ≤ 400) : Met l y_M_token (.code y_M_token b_M_token 3 (some .int) :: TT) ({ frames := 3, cells := 0, slots := 0, locals := 63 }) (va_Pc [.ref (h 0)] (PX dC dI k (TM g) (ME h g ss sa so pl si fa li co st rq bl te op wo wz sr le tx ro) sz)) (va_Qi (fun (r : Int32) (u : Int32 × Int32 × (Nat → Int64) × (Nat → Int32)) => 0 ≤ Int32.toInt u.1 ∧ Int32.toInt u.1 ≤ Int32.toInt ss ∧ 0 ≤ Int32.toInt u.2.1 ∧ Int32.toInt u.2.1 ≤ 400 ∧ Int32.toInt sa ≤ Int32.toInt u.1 ∧ (Int32.toInt r = 0 ∨ Int32.toInt r = 5 ∨ (Int32.toInt r ≠ 0 ∧ Int32.toInt sa < Int32.toInt u.1))) (fun u t => BX dC dI (TM g) (va_A (ME h g ss sa so pl si fa li co st rq bl te op wo wz sr le tx ro) sz) (ME h g ss u.1 so pl u.2.1 fa li co st rq bl te op wo wz sr u.2.2.1 u.2.2.2 ro) t) (va_A (ME h g ss sa so pl si fa li co st rq bl te op wo wz sr le tx ro) sz)) 0 0 (va_A (ME h g ss sa so pl si fa li co st rq bl te op wo wz sr le tx ro) sz) := by
  refine Met.ofW (cc := b_M_token) (maxL := 3) (ret := (some .int)) (by decide) rfl ?_
  intro p e s m args below meth c s₁ B hml hv
  obtain ⟨rfl, hsz, hE, hP, hK, hD0⟩ := hv
  have hx := B.exec
  have hb := B.bytes
  have hr := B.returns
  have ht : ∀ w ∈ TT, w.before _ s = true := fun w hw => atoms_spec (ws := .code y_M_token b_M_token 3 (some .int) :: TT) B.pre w (List.mem_cons_of_mem _ hw)
  have hown : s.vm.findClass "SieveDeskModel" = some m.cls := findClass_of_methodNamed B.named
  have hlocks := B.notSynchronized
  subst hsz
  have hD := hD0.self (sz := s.heap.size)
  generalize hAe : va_A (ME h g ss sa so pl si fa li co st rq bl te op wo wz sr le tx ro) s.heap.size = A at hE hD ⊢
  have hA : ∀ q : Nat, s.heap.size ≤ q → A q := fun q h9 => by rw [← hAe]; exact Or.inr h9
  have hS : va_S A s.heap s.heap [] := va_S.rf
  have hl := lv_entry ([.ref (h 0)]) (n := 3) (Nat.le_of_ble_eq_true rfl)
  rw [lg_entry_eq]
  generalize (lg_sl ([.ref (h 0)]) ++ List.replicate (3 - (lg_sl ([.ref (h 0)])).length) Slot.unset).toArray = ls at hl ⊢
  have hl : lv_has ls 3 [(0, .ref (h 0))] := hl
  exact bd_M_token_0  hx hb hml hown ht hE hA hK h_0 h_1 (fun r u H locs pc ls hd hp hP hD hS => W.iret hx hb hr (fun t het hW => ⟨⟨r, u, rfl, hp, by rw [het]; exact hP, va_K.moved hW.alike hK, hD⟩, hS.F het⟩) hS.2.2 hd) sa si le tx rfl v_0 v_1 v_2 v_3 _ _ ls hP hD hS hl

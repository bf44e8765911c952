set_option maxHeartbeats 4000000 in
set_option maxRecDepth 100000 in
theorem bd_M_peek_0 {p : Program} {l : Launch} {e : Env} {s : State} {m : MethodId} {args : Array Value} {below : List Frame} {meth : Method} {c : Code} {Q : State → Prop} {A : Nat → Prop} {dC : Nat → ClassId} {dI : Nat → Nat → Nat} {k h : Nat → Nat} {g : Nat → ClassId} {ss : Int32} {sa : Int32} {so : Int32} {pl : Int32} {si : Int32} {fa : Int32} {li : Int32} {co : Int32} {st : Int32} {rq : Int32} {bl : Int32} {te : Int32} {op : Int32} {wo : Nat → Int64} {le : Nat → Int64} {wz : Nat → Int32} {sr : Nat → Int32} {tx : Nat → Int32} {ro : Nat → Int32} (hx : p.tables.exec = Jvm.exec) (hb : c.code = b_M_peek) (hml : c.maxLocals = 2) (hown : s.vm.findClass "SieveDeskModel" = some m.cls) (ht : ∀ w ∈ TT, w.before args s = true) (hE : KE k A s s.heap) (hA : ∀ q : Nat, s.heap.size ≤ q → A q) (hK : va_K (dC, dI) cls (TM g) s) {q : Int32} (h_0 : 0 ≤ Int32.toInt ss) (h_1 : Int32.toInt ss ≤ 400) (h_2 : 0 ≤ Int32.toInt sa) (h_3 : Int32.toInt sa ≤ Int32.toInt ss) (h_4 : 0 ≤ Int32.toInt q) (h_5 : Int32.toInt q ≤ 10) (fin : ∀ (r : Int32) (u : Unit) (H : Heap) (locs : List Loc) (pc : Nat) (ls : Array Slot), decode b_M_peek pc = .ok (.ireturn, 1) → (Int32.toInt r = pkI sr ss sa q ∧ (Int32.toInt r < 0 ∨ Int32.toInt sa + Int32.toInt q < Int32.toInt ss)) → va_P (dC, dI) cls (ME h g ss sa so pl si fa li co st rq bl te op wo wz sr le tx ro) H → va_D A (ME h g ss sa so pl si fa li co st rq bl te op wo wz sr le tx ro) → va_S A s.heap H locs → W p l e ({ frames := 0, cells := 0, slots := 0, locals := 0 } : Room) s m args below meth c H locs 0 0 Q (F0 m pc ls [.int r])) : ∀ (H : Heap) (locs : List Loc) (ls : Array Slot), va_P (dC, dI) cls (ME h g ss sa so pl si fa li co st rq bl te op wo wz sr le tx ro) H → va_D A (ME h g ss sa so pl si fa li co st rq bl te op wo wz sr le tx ro) → va_S A s.heap H locs → lv_has ls 2 [(0, .ref (h 0)), (1, .int q)] → W p l e ({ frames := 0, cells := 0, slots := 0, locals := 0 } : Room) s m args below meth c H locs 0 0 Q (F0 m 0 ls []) := by
  intro H locs ls hP hD hS hl
  refine lv_aload_n hx hb d_M_peek_0 rfl (lv_at hl 0 rfl) ?_
  refine va_get (D := (dC, dI)) (ci := 4) (v := .int sa) (C := "SieveDeskModel") (T := F_M) (N := 19) hx hb ht i_M hown hK hP 0 rfl rfl 4 (by decide) (ht _ k_631) (fun _ h9 => h9) rfl d_M_peek_1 ?_
  refine lv_iload_n hx hb d_M_peek_4 rfl (lv_at hl 1 rfl) ?_
  refine lv_iadd hx hb d_M_peek_5 ?_
  have e_1 : Int32.toInt (sa + q) = (Int32.toInt sa) + (Int32.toInt q) := i_add rfl rfl (by omega) (by omega)
  refine lv_aload_n hx hb d_M_peek_6 rfl (lv_at hl 0 rfl) ?_
  refine va_get (D := (dC, dI)) (ci := 4) (v := .int ss) (C := "SieveDeskModel") (T := F_M) (N := 19) hx hb ht i_M hown hK hP 0 rfl rfl 3 (by decide) (ht _ k_630) (fun _ h9 => h9) rfl d_M_peek_7 ?_
  refine lv_icmp_ge (tgt := 27) hx hb d_M_peek_10 (by decide) (fun c_2 => ?_) (fun c_2 => ?_)
  · have dc_2 := i_le c_2 rfl e_1
    refine lv_iconst (v := (-1)) hx hb d_M_peek_27 (by decide) ?_
    have hc_m1 : Int32.toInt (-1) = (-1) := by decide
    exact fin (-1) () _ _ _ ls d_M_peek_28 ⟨(pkq_out c_2), (by (try dsimp only); omega)⟩ hP hD hS
  · have dc_2 := i_nle c_2 rfl e_1
    refine lv_aload_n hx hb d_M_peek_13 rfl (lv_at hl 0 rfl) ?_
    refine va_get (D := (dC, dI)) (ci := 4) (v := .ref (h 3)) (C := "SieveDeskModel") (T := F_M) (N := 19) hx hb ht i_M hown hK hP 0 rfl rfl 2 (by decide) (ht _ k_629) (fun _ h9 => h9) rfl d_M_peek_14 ?_
    refine lv_aload_n hx hb d_M_peek_17 rfl (lv_at hl 0 rfl) ?_
    refine va_get (D := (dC, dI)) (ci := 4) (v := .int sa) (C := "SieveDeskModel") (T := F_M) (N := 19) hx hb ht i_M hown hK hP 0 rfl rfl 4 (by decide) (ht _ k_631) (fun _ h9 => h9) rfl d_M_peek_18 ?_
    refine lv_iload_n hx hb d_M_peek_21 rfl (lv_at hl 1 rfl) ?_
    refine lv_iadd hx hb d_M_peek_22 ?_
    have e_3 : Int32.toInt (sa + q) = (Int32.toInt sa) + (Int32.toInt q) := i_add rfl rfl (by omega) (by omega)
    refine va_iald hx hb hK hP 3 2 rfl rfl (i_in e_3 (by omega) (by omega)) d_M_peek_23 ?_
    refine lv_goto (tgt := 28) hx hb d_M_peek_24 (by decide) ?_
    exact fin (sr (Int32.toNatClampNeg (sa + q))) () _ _ _ ls d_M_peek_28 ⟨(pkq_in c_2), (by (try dsimp only); omega)⟩ hP hD hS
set_option maxHeartbeats 4000000 in
set_option maxRecDepth 100000 in
theorem c_M_peek (l : Launch) (dC : Nat → ClassId) (dI : Nat → Nat → Nat) (k : Nat → Nat) (h : Nat → Nat) (g : Nat → ClassId) (ss : Int32) (sa : Int32) (so : Int32) (pl : Int32) (si : Int32) (fa : Int32) (li : Int32) (co : Int32) (st : Int32) (rq : Int32) (bl : Int32) (te : Int32) (op : Int32) (wo : Nat → Int64) (le : Nat → Int64) (wz : Nat → Int32) (sr : Nat → Int32) (tx : Nat → Int32) (ro : Nat → Int32) (q : Int32) (sz : Nat) (h_0 : 0 ≤ Int32.toInt ss) (h_1 : Int32.toInt ss ≤ 400) (h_2 : 0 ≤ Int32.toInt sa) (h_3 : Int32.toInt sa ≤ Int32.toInt ss) (h_4 : 0 ≤ Int32.toInt q) (h_5 : Int32.toInt q ≤ 10)  : Met l y_M_peek (.code y_M_peek b_M_peek 2 (some .int) :: TT) ({ frames := 0, cells := 0, slots := 0, locals := 0 }) (va_Pc [.ref (h 0), .int q] (PX dC dI k (TM g) (ME h g ss sa so pl si fa li co st rq bl te op wo wz sr le tx ro) sz)) (va_Qi (fun (r : Int32) (u : Unit) => Int32.toInt r = pkI sr ss sa q ∧ (Int32.toInt r < 0 ∨ Int32.toInt sa + Int32.toInt q < Int32.toInt ss)) (fun u t => BX dC dI (TM g) (va_A (ME h g ss sa so pl si fa li co st rq bl te op wo wz sr le tx ro) sz) (ME h g ss sa so pl si fa li co st rq bl te op wo wz sr le tx ro) t) (va_A (ME h g ss sa so pl si fa li co st rq bl te op wo wz sr le tx ro) sz)) 0 0 (va_A (ME h g ss sa so pl si fa li co st rq bl te op wo wz sr le tx ro) sz) := by
  refine Met.ofW (cc := b_M_peek) (maxL := 2) (ret := (some .int)) (by decide) rfl ?_
  intro p e s m args below meth c s₁ B hml hv
  obtain ⟨rfl, hsz, hE, hP, hK, hD0⟩ := hv
  have hx := B.exec
  have hb := B.bytes
  have hr := B.returns
  have ht : ∀ w ∈ TT, w.before _ s = true := fun w hw => atoms_spec (ws := .code y_M_peek b_M_peek 2 (some .int) :: TT) B.pre w (List.mem_cons_of_mem _ hw)
  have hown : s.vm.findClass "SieveDeskModel" = some m.cls := findClass_of_methodNamed B.named
  have hlocks := B.notSynchronized
  subst hsz
  have hD := hD0.self (sz := s.heap.size)
  generalize hAe : va_A (ME h g ss sa so pl si fa li co st rq bl te op wo wz sr le tx ro) s.heap.size = A at hE hD ⊢
  have hA : ∀ q : Nat, s.heap.size ≤ q → A q := fun q h9 => by rw [← hAe]; exact Or.inr h9
  have hS : va_S A s.heap s.heap [] := va_S.rf
  have hl := lv_entry ([.ref (h 0), .int q]) (n := 2) (Nat.le_of_ble_eq_true rfl)
  rw [lg_entry_eq]
  generalize (lg_sl ([.ref (h 0), .int q]) ++ List.replicate (2 - (lg_sl ([.ref (h 0), .int q])).length) Slot.unset).toArray = ls at hl ⊢
  have hl : lv_has ls 2 [(0, .ref (h 0)), (1, .int q)] := hl
  exact bd_M_peek_0 (q := q) hx hb hml hown ht hE hA hK h_0 h_1 h_2 h_3 h_4 h_5 (fun r u H locs pc ls hd hp hP hD hS => W.iret hx hb hr (fun t het hW => ⟨⟨r, u, rfl, hp, by rw [het]; exact hP, va_K.moved hW.alike hK, hD⟩, hS.F het⟩) hS.2.2 hd)   _ _ ls hP hD hS hl
set_option maxHeartbeats 4000000 in
set_option maxRecDepth 100000 in
theorem lp_M_begin_7 {p : Program} {l : Launch} {e : Env} {s : State} {m : MethodId} {args : Array Value} {below : List Frame} {meth : Method} {c : Code} {Q : State → Prop} {A : Nat → Prop} {dC : Nat → ClassId} {dI : Nat → Nat → Nat} {k h : Nat → Nat} {g : Nat → ClassId} {ss : Int32} {sa : Int32} {so : Int32} {pl : Int32} {fa : Int32} {li : Int32} {co : Int32} {st : Int32} {rq : Int32} {bl : Int32} {te : Int32} {op : Int32} {wo : Nat → Int64} {wz : Nat → Int32} {sr : Nat → Int32} {tx : Nat → Int32} {ro : Nat → Int32} (hx : p.tables.exec = Jvm.exec) (hb : c.code = b_M_begin) (hml : c.maxLocals = 2) (hown : s.vm.findClass "SieveDeskModel" = some m.cls) (ht : ∀ w ∈ TT, w.before args s = true) (hE : KE k A s s.heap) (hA : ∀ q : Nat, s.heap.size ≤ q → A q) (hK : va_K (dC, dI) cls (TM g) s)   (fin : ∀ (u : Int32 × (Nat → Int64)) (H : Heap) (locs : List Loc) (pc : Nat) (ls : Array Slot), decode b_M_begin pc = .ok (.return_, 1) → (0 ≤ Int32.toInt u.1 ∧ Int32.toInt u.1 ≤ 400 ∧ Int32.toInt u.1 = 0) → va_P (dC, dI) cls (ME h g ss sa so pl u.1 fa li co st rq bl te op wo wz sr u.2 tx ro) H → va_D A (ME h g ss sa so pl u.1 fa li co st rq bl te op wo wz sr u.2 tx ro) → va_S A s.heap H locs → W p l e ({ frames := 0, cells := 0, slots := 0, locals := 0 } : Room) s m args below meth c H locs 0 0 Q (F0 m pc ls [])) : ∀ (nn : Nat), ∀ (kk : Int32) (si : Int32) (le : Nat → Int64), 0 ≤ Int32.toInt kk → Int32.toInt kk ≤ 4 → Int32.toInt si = 0 → (4 - Int32.toInt kk).toNat < nn → ∀ (H : Heap) (locs : List Loc) (ls : Array Slot), va_P (dC, dI) cls (ME h g ss sa so pl si fa li co st rq bl te op wo wz sr le tx ro) H → va_D A (ME h g ss sa so pl si fa li co st rq bl te op wo wz sr le tx ro) → va_S A s.heap H locs → lv_has ls 2 [(1, .int kk), (0, .ref (h 0))] → W p l e ({ frames := 0, cells := 0, slots := 0, locals := 0 } : Room) s m args below meth c H locs 0 0 Q (F0 m 7 ls []) := by
  intro nn
  induction nn with
  | zero =>
    intro _ _ _ _ _ _ hm
    exact absurd hm (Nat.not_lt_zero _)
  | succ nn ih =>
    intro kk si le v_0 v_1 v_2 hm H locs ls hP hD hS hl
    refine lv_iload_n hx hb d_M_begin_7 rfl (lv_at hl 0 rfl) ?_
    refine lv_iconst (v := 4) hx hb d_M_begin_8 (by decide) ?_
    refine lv_icmp_ge (tgt := 25) hx hb d_M_begin_9 (by decide) (fun c_1 => ?_) (fun c_1 => ?_)
    · have dc_1 := i_le c_1 (show Int32.toInt 4 = 4 by decide) rfl
      exact fin  (si, le) _ _ _ ls d_M_begin_25 ⟨(by (try dsimp only); omega), (by (try dsimp only); omega), (by (try dsimp only); omega)⟩ hP hD hS
    · have dc_1 := i_nle c_1 (show Int32.toInt 4 = 4 by decide) rfl
      refine lv_aload_n hx hb d_M_begin_12 rfl (lv_at hl 1 rfl) ?_
      refine va_get (D := (dC, dI)) (ci := 4) (v := .ref (h 4)) (C := "SieveDeskModel") (T := F_M) (N := 19) hx hb ht i_M hown hK hP 0 rfl rfl 8 (by decide) (ht _ k_635) (fun _ h9 => h9) rfl d_M_begin_13 ?_
      refine lv_iload_n hx hb d_M_begin_16 rfl (lv_at hl 0 rfl) ?_
      refine lv_lconst (v := 0) hx hb d_M_begin_17 (by decide) ?_
      refine va_last hx hb hK hP hD hS 4 3 rfl rfl (i_in rfl (by omega) (by omega)) d_M_begin_18 (fun H locs hP hD hS => ?_)
      have hP : va_P (dC, dI) cls (ME h g ss sa so pl si fa li co st rq bl te op wo wz sr (vp_updL le (Int32.toNatClampNeg kk) 0) tx ro) H := hP
      have hD : va_D A (ME h g ss sa so pl si fa li co st rq bl te op wo wz sr (vp_updL le (Int32.toNatClampNeg kk) 0) tx ro) := hD
      refine lv_iinc (v := (kk + 1)) (lv' := [(1, .int (kk + 1)), (0, .ref (h 0))]) hx hb d_M_begin_19 hl (k := 0) rfl rfl (by decide) rfl (fun ls hl => ?_)
      have e_2 : Int32.toInt (kk + 1) = (Int32.toInt kk) + 1 := i_add rfl (show Int32.toInt 1 = 1 by decide) (by omega) (by omega)
      refine lv_goto (tgt := 7) hx hb d_M_begin_22 (by decide) ?_
      exact ih (kk + 1) si (vp_updL le (Int32.toNatClampNeg kk) 0) (by omega) (by omega) (by omega) (by omega) _ _ ls hP hD hS (lv_sub hl [0, 1] rfl)
set_option maxHeartbeats 4000000 in
set_option maxRecDepth 100000 in
theorem bd_M_begin_0 {p : Program} {l : Launch} {e : Env} {s : State} {m : MethodId} {args : Array Value} {below : List Frame} {meth : Method} {c : Code} {Q : State → Prop} {A : Nat → Prop} {dC : Nat → ClassId} {dI : Nat → Nat → Nat} {k h : Nat → Nat} {g : Nat → ClassId} {ss : Int32} {sa : Int32} {so : Int32} {pl : Int32} {fa : Int32} {li : Int32} {co : Int32} {st : Int32} {rq : Int32} {bl : Int32} {te : Int32} {op : Int32} {wo : Nat → Int64} {wz : Nat → Int32} {sr : Nat → Int32} {tx : Nat → Int32} {ro : Nat → Int32} (hx : p.tables.exec = Jvm.exec) (hb : c.code = b_M_begin) (hml : c.maxLocals = 2) (hown : s.vm.findClass "SieveDeskModel" = some m.cls) (ht : ∀ w ∈ TT, w.before args s = true) (hE : KE k A s s.heap) (hA : ∀ q : Nat, s.heap.size ≤ q → A q) (hK : va_K (dC, dI) cls (TM g) s)   (fin : ∀ (u : Int32 × (Nat → Int64)) (H : Heap) (locs : List Loc) (pc : Nat) (ls : Array Slot), decode b_M_begin pc = .ok (.return_, 1) → (0 ≤ Int32.toInt u.1 ∧ Int32.toInt u.1 ≤ 400 ∧ Int32.toInt u.1 = 0) → va_P (dC, dI) cls (ME h g ss sa so pl u.1 fa li co st rq bl te op wo wz sr u.2 tx ro) H → va_D A (ME h g ss sa so pl u.1 fa li co st rq bl te op wo wz sr u.2 tx ro) → va_S A s.heap H locs → W p l e ({ frames := 0, cells := 0, slots := 0, locals := 0 } : Room) s m args below meth c H locs 0 0 Q (F0 m pc ls [])) : ∀ (si : Int32) (le : Nat → Int64), ∀ (H : Heap) (locs : List Loc) (ls : Array Slot), va_P (dC, dI) cls (ME h g ss sa so pl si fa li co st rq bl te op wo wz sr le tx ro) H → va_D A (ME h g ss sa so pl si fa li co st rq bl te op wo wz sr le tx ro) → va_S A s.heap H locs → lv_has ls 2 [(0, .ref (h 0))] → W p l e ({ frames := 0, cells := 0, slots := 0, locals := 0 } : Room) s m args below meth c H locs 0 0 Q (F0 m 0 ls []) := by
  intro si le H locs ls hP hD hS hl
  refine lv_aload_n hx hb d_M_begin_0 rfl (lv_at hl 0 rfl) ?_
  refine lv_iconst (v := 0) hx hb d_M_begin_1 (by decide) ?_
  refine va_put (D := (dC, dI)) (ci := 4) (v := .int 0) (ty := .int) (C := "SieveDeskModel") (T := F_M) (N := 19) hx hb ht i_M ty_M ty_M_ok n_M hown hK hP hD hS 0 rfl rfl 7 (by decide) (ht _ k_634) (fun _ h9 => h9) rfl (ty_M_ok 7 (by decide)) rfl rfl (Nat.le_of_ble_eq_true rfl) d_M_begin_2 (fun H locs hP hD hS => ?_)
  have hP : va_P (dC, dI) cls (ME h g ss sa so pl 0 fa li co st rq bl te op wo wz sr le tx ro) H := hP
  have hD : va_D A (ME h g ss sa so pl 0 fa li co st rq bl te op wo wz sr le tx ro) := hD
  refine lv_iconst (v := 0) hx hb d_M_begin_5 (by decide) ?_
  refine lv_istore_n (lv' := [(1, .int 0), (0, .ref (h 0))]) hx hb d_M_begin_6 rfl hl (by decide) rfl (fun ls hl => ?_)
  have hc_0 : Int32.toInt 0 = 0 := by decide
  exact (lp_M_begin_7  hx hb hml hown ht hE hA hK  fin _) 0 0 le (by omega) (by omega) (by omega) (Nat.lt_succ_self _) _ _ ls hP hD hS (lv_sub hl [0, 1] rfl)
set_option maxHeartbeats 4000000 in
set_option maxRecDepth 100000 in
theorem c_M_begin (l : Launch) (dC : Nat → ClassId) (dI : Nat → Nat → Nat) (k : Nat → Nat) (h : Nat → Nat) (g : Nat → ClassId) (ss : Int32) (sa : Int32) (so : Int32) (pl : Int32) (si : Int32) (fa : Int32) (li : Int32) (co : Int32) (st : Int32) (rq : Int32) (bl : Int32) (te : Int32) (op : Int32) (wo : Nat → Int64) (le : Nat → Int64) (wz : Nat → Int32) (sr : Nat → Int32) (tx : Nat → Int32) (ro : Nat → Int32)  (sz : Nat)   : Met l y_M_begin (.code y_M_begin b_M_begin 2 none :: TT) ({ frames := 0, cells := 0, slots := 0, locals := 0 }) (va_Pc [.ref (h 0)] (PX dC dI k (TM g) (ME h g ss sa so pl si fa li co st rq bl te op wo wz sr le tx ro) sz)) (va_Qv (fun u : Int32 × (Nat → Int64) => 0 ≤ Int32.toInt u.1 ∧ Int32.toInt u.1 ≤ 400 ∧ Int32.toInt u.1 = 0) (fun u t => BX dC dI (TM g) (va_A (ME h g ss sa so pl si fa li co st rq bl te op wo wz sr le tx ro) sz) (ME h g ss sa so pl u.1 fa li co st rq bl te op wo wz sr u.2 tx ro) t) (va_A (ME h g ss sa so pl si fa li co st rq bl te op wo wz sr le tx ro) sz)) 0 0 (va_A (ME h g ss sa so pl si fa li co st rq bl te op wo wz sr le tx ro) sz) := by
  refine Met.ofW (cc := b_M_begin) (maxL := 2) (ret := none) (by decide) rfl ?_
  intro p e s m args below meth c s₁ B hml hv
  obtain ⟨rfl, hsz, hE, hP, hK, hD0⟩ := hv
  have hx := B.exec
  have hb := B.bytes
  have hr := B.returns
  have ht : ∀ w ∈ TT, w.before _ s = true := fun w hw => atoms_spec (ws := .code y_M_begin b_M_begin 2 none :: TT) B.pre w (List.mem_cons_of_mem _ hw)
  have hown : s.vm.findClass "SieveDeskModel" = some m.cls := findClass_of_methodNamed B.named
  have hlocks := B.notSynchronized
  subst hsz
  have hD := hD0.self (sz := s.heap.size)
  generalize hAe : va_A (ME h g ss sa so pl si fa li co st rq bl te op wo wz sr le tx ro) s.heap.size = A at hE hD ⊢
  have hA : ∀ q : Nat, s.heap.size ≤ q → A q := fun q h9 => by rw [← hAe]; exact Or.inr h9
  have hS : va_S A s.heap s.heap [] := va_S.rf
  have hl := lv_entry ([.ref (h 0)]) (n := 2) (Nat.le_of_ble_eq_true rfl)
  rw [lg_entry_eq]
  generalize (lg_sl ([.ref (h 0)]) ++ List.replicate (2 - (lg_sl ([.ref (h 0)])).length) Slot.unset).toArray = ls at hl ⊢
  have hl : lv_has ls 2 [(0, .ref (h 0))] := hl
  exact bd_M_begin_0  hx hb hml hown ht hE hA hK  (fun u H locs pc ls hd hp hP hD hS => W.vret hx hb hr (fun t het hW => ⟨⟨u, rfl, hp, by rw [het]; exact hP, va_K.moved hW.alike hK, hD⟩, hS.F het⟩) hS.2.2 hd) si le  _ _ ls hP hD hS hl
set_option maxHeartbeats 4000000 in
set_option maxRecDepth 100000 in
theorem bd_M_add_0 {p : Program} {l : Launch} {e : Env} {s : State} {m : MethodId} {args : Array Value} {below : List Frame} {meth : Method} {c : Code} {Q : State → Prop} {A : Nat → Prop} {dC : Nat → ClassId} {dI : Nat → Nat → Nat} {k h : Nat → Nat} {g : Nat → ClassId} {ss : Int32} {sa : Int32} {so : Int32} {pl : Int32} {fa : Int32} {li : Int32} {co : Int32} {st : Int32} {rq : Int32} {bl : Int32} {te : Int32} {op : Int32} {wo : Nat → Int64} {wz : Nat → Int32} {sr : Nat → Int32} {ro : Nat → Int32} {si0 : Int32} (hx : p.tables.exec = Jvm.exec) (hb : c.code = b_M_add) (hml : c.maxLocals = 2) (hown : s.vm.findClass "SieveDeskModel" = some m.cls) (ht : ∀ w ∈ TT, w.before args s = true) (hE : KE k A s s.heap) (hA : ∀ q : Nat, s.heap.size ≤ q → A q) (hK : va_K (dC, dI) cls (TM g) s) {c1 : Int32}  (fin : ∀ (u : Int32 × (Nat → Int64) × (Nat → Int32)) (H : Heap) (locs : List Loc) (pc : Nat) (ls : Array Slot), decode b_M_add pc = .ok (.return_, 1) → (0 ≤ Int32.toInt u.1 ∧ Int32.toInt u.1 ≤ 400 ∧ Int32.toInt u.1 = Int32.toInt si0 + 1) → va_P (dC, dI) cls (ME h g ss sa so pl u.1 fa li co st rq bl te op wo wz sr u.2.1 u.2.2 ro) H → va_D A (ME h g ss sa so pl u.1 fa li co st rq bl te op wo wz sr u.2.1 u.2.2 ro) → va_S A s.heap H locs → W p l e ({ frames := 1, cells := 0, slots := 0, locals := 20 } : Room) s m args below meth c H locs 0 0 Q (F0 m pc ls [])) : ∀ (si : Int32) (le : Nat → Int64) (tx : Nat → Int32), si = si0 → 0 ≤ Int32.toInt si → Int32.toInt si ≤ 400 → Int32.toInt si ≤ 399 → ∀ (H : Heap) (locs : List Loc) (ls : Array Slot), va_P (dC, dI) cls (ME h g ss sa so pl si fa li co st rq bl te op wo wz sr le tx ro) H → va_D A (ME h g ss sa so pl si fa li co st rq bl te op wo wz sr le tx ro) → va_S A s.heap H locs → lv_has ls 2 [(0, .ref (h 0)), (1, .int c1)] → W p l e ({ frames := 1, cells := 0, slots := 0, locals := 20 } : Room) s m args below meth c H locs 0 0 Q (F0 m 0 ls []) := by
  intro si le tx v_0 v_1 v_2 v_3 H locs ls hP hD hS hl
  subst v_0
  refine lv_aload_n hx hb d_M_add_0 rfl (lv_at hl 0 rfl) ?_
  refine va_get (D := (dC, dI)) (ci := 4) (v := .int si) (C := "SieveDeskModel") (T := F_M) (N := 19) hx hb ht i_M hown hK hP 0 rfl rfl 7 (by decide) (ht _ k_634) (fun _ h9 => h9) rfl d_M_add_1 ?_
  refine lv_bipush (v := 32) hx hb d_M_add_4 (by decide) ?_
  refine lv_icmp_ge (tgt := 53) hx hb d_M_add_6 (by decide) (fun c_1 => ?_) (fun c_1 => ?_)
  · have dc_1 := i_le c_1 (show Int32.toInt 32 = 32 by decide) rfl
    refine lv_aload_n hx hb d_M_add_53 rfl (lv_at hl 0 rfl) ?_
    refine va_get (D := (dC, dI)) (ci := 4) (v := .int si) (C := "SieveDeskModel") (T := F_M) (N := 19) hx hb ht i_M hown hK hP 0 rfl rfl 7 (by decide) (ht _ k_634) (fun _ h9 => h9) rfl d_M_add_54 ?_
    refine lv_sipush (v := 1010) hx hb d_M_add_57 (by decide) ?_
    refine lv_icmp_ge (tgt := 73) hx hb d_M_add_60 (by decide) (fun c_2 => ?_) (fun c_2 => ?_)
    · have dc_2 := i_le c_2 (show Int32.toInt 1010 = 1010 by decide) rfl
      refine lv_aload_n hx hb d_M_add_73 rfl (lv_at hl 0 rfl) ?_
      refine lv_aload_n hx hb d_M_add_74 rfl (lv_at hl 0 rfl) ?_
      refine va_get (D := (dC, dI)) (ci := 4) (v := .int si) (C := "SieveDeskModel") (T := F_M) (N := 19) hx hb ht i_M hown hK hP 0 rfl rfl 7 (by decide) (ht _ k_634) (fun _ h9 => h9) rfl d_M_add_75 ?_
      refine lv_iconst (v := 1) hx hb d_M_add_78 (by decide) ?_
      refine lv_iadd hx hb d_M_add_79 ?_
      have e_3 : Int32.toInt (si + 1) = (Int32.toInt si) + 1 := i_add rfl (show Int32.toInt 1 = 1 by decide) (by omega) (by omega)
      refine va_put (D := (dC, dI)) (ci := 4) (v := .int (si + 1)) (ty := .int) (C := "SieveDeskModel") (T := F_M) (N := 19) hx hb ht i_M ty_M ty_M_ok n_M hown hK hP hD hS 0 rfl rfl 7 (by decide) (ht _ k_634) (fun _ h9 => h9) rfl (ty_M_ok 7 (by decide)) rfl rfl (Nat.le_of_ble_eq_true rfl) d_M_add_80 (fun H locs hP hD hS => ?_)
      have hP : va_P (dC, dI) cls (ME h g ss sa so pl (si + 1) fa li co st rq bl te op wo wz sr le tx ro) H := hP
      have hD : va_D A (ME h g ss sa so pl (si + 1) fa li co st rq bl te op wo wz sr le tx ro) := hD
      exact fin  ((si + 1), le, tx) _ _ _ ls d_M_add_83 ⟨(by (try dsimp only); omega), (by (try dsimp only); omega), (by (try dsimp only); omega)⟩ hP hD hS
    · have dc_2 := i_nle c_2 (show Int32.toInt 1010 = 1010 by decide) rfl
      refine lv_aload_n hx hb d_M_add_63 rfl (lv_at hl 0 rfl) ?_
      refine va_get (D := (dC, dI)) (ci := 4) (v := .ref (h 5)) (C := "SieveDeskModel") (T := F_M) (N := 19) hx hb ht i_M hown hK hP 0 rfl rfl 9 (by decide) (ht _ k_636) (fun _ h9 => h9) rfl d_M_add_64 ?_
      refine lv_aload_n hx hb d_M_add_67 rfl (lv_at hl 0 rfl) ?_
      refine va_get (D := (dC, dI)) (ci := 4) (v := .int si) (C := "SieveDeskModel") (T := F_M) (N := 19) hx hb ht i_M hown hK hP 0 rfl rfl 7 (by decide) (ht _ k_634) (fun _ h9 => h9) rfl d_M_add_68 ?_
      refine lv_iload_n hx hb d_M_add_71 rfl (lv_at hl 1 rfl) ?_
      refine va_iast hx hb hK hP hD hS 5 4 rfl rfl (i_in rfl (by omega) (by omega)) d_M_add_72 (fun H locs hP hD hS => ?_)
      have hP : va_P (dC, dI) cls (ME h g ss sa so pl si fa li co st rq bl te op wo wz sr le (upd tx (Int32.toNatClampNeg si) c1) ro) H := hP
      have hD : va_D A (ME h g ss sa so pl si fa li co st rq bl te op wo wz sr le (upd tx (Int32.toNatClampNeg si) c1) ro) := hD
      refine lv_aload_n hx hb d_M_add_73 rfl (lv_at hl 0 rfl) ?_
      refine lv_aload_n hx hb d_M_add_74 rfl (lv_at hl 0 rfl) ?_
      refine va_get (D := (dC, dI)) (ci := 4) (v := .int si) (C := "SieveDeskModel") (T := F_M) (N := 19) hx hb ht i_M hown hK hP 0 rfl rfl 7 (by decide) (ht _ k_634) (fun _ h9 => h9) rfl d_M_add_75 ?_
      refine lv_iconst (v := 1) hx hb d_M_add_78 (by decide) ?_
      refine lv_iadd hx hb d_M_add_79 ?_
      have e_4 : Int32.toInt (si + 1) = (Int32.toInt si) + 1 := i_add rfl (show Int32.toInt 1 = 1 by decide) (by omega) (by omega)
      refine va_put (D := (dC, dI)) (ci := 4) (v := .int (si + 1)) (ty := .int) (C := "SieveDeskModel") (T := F_M) (N := 19) hx hb ht i_M ty_M ty_M_ok n_M hown hK hP hD hS 0 rfl rfl 7 (by decide) (ht _ k_634) (fun _ h9 => h9) rfl (ty_M_ok 7 (by decide)) rfl rfl (Nat.le_of_ble_eq_true rfl) d_M_add_80 (fun H locs hP hD hS => ?_)
      have hP : va_P (dC, dI) cls (ME h g ss sa so pl (si + 1) fa li co st rq bl te op wo wz sr le (upd tx (Int32.toNatClampNeg si) c1) ro) H := hP
      have hD : va_D A (ME h g ss sa so pl (si + 1) fa li co st rq bl te op wo wz sr le (upd tx (Int32.toNatClampNeg si) c1) ro) := hD
      exact fin  ((si + 1), le, (upd tx (Int32.toNatClampNeg si) c1)) _ _ _ ls d_M_add_83 ⟨(by (try dsimp only); omega), (by (try dsimp only); omega), (by (try dsimp only); omega)⟩ hP hD hS
  · have dc_1 := i_nle c_1 (show Int32.toInt 32 = 32 by decide) rfl
    refine lv_aload_n hx hb d_M_add_9 rfl (lv_at hl 0 rfl) ?_
    refine va_get (D := (dC, dI)) (ci := 4) (v := .ref (h 4)) (C := "SieveDeskModel") (T := F_M) (N := 19) hx hb ht i_M hown hK hP 0 rfl rfl 8 (by decide) (ht _ k_635) (fun _ h9 => h9) rfl d_M_add_10 ?_
    refine lv_aload_n hx hb d_M_add_13 rfl (lv_at hl 0 rfl) ?_
    refine va_get (D := (dC, dI)) (ci := 4) (v := .int si) (C := "SieveDeskModel") (T := F_M) (N := 19) hx hb ht i_M hown hK hP 0 rfl rfl 7 (by decide) (ht _ k_634) (fun _ h9 => h9) rfl d_M_add_14 ?_
    refine lv_bipush (v := 8) hx hb d_M_add_17 (by decide) ?_
    refine lv_idiv hx hb d_M_add_19 (by decide) ?_
    have e_5 := i_div8 (x := si) rfl (by omega)
    refine lv_aload_n hx hb d_M_add_20 rfl (lv_at hl 0 rfl) ?_
    refine va_get (D := (dC, dI)) (ci := 4) (v := .ref (h 4)) (C := "SieveDeskModel") (T := F_M) (N := 19) hx hb ht i_M hown hK hP 0 rfl rfl 8 (by decide) (ht _ k_635) (fun _ h9 => h9) rfl d_M_add_21 ?_
    refine lv_aload_n hx hb d_M_add_24 rfl (lv_at hl 0 rfl) ?_
    refine va_get (D := (dC, dI)) (ci := 4) (v := .int si) (C := "SieveDeskModel") (T := F_M) (N := 19) hx hb ht i_M hown hK hP 0 rfl rfl 7 (by decide) (ht _ k_634) (fun _ h9 => h9) rfl d_M_add_25 ?_
    refine lv_bipush (v := 8) hx hb d_M_add_28 (by decide) ?_
    refine lv_idiv hx hb d_M_add_30 (by decide) ?_
    have e_6 := i_div8 (x := si) rfl (by omega)
    refine va_lald hx hb hK hP 4 3 rfl rfl (i_in rfl (by omega) (by omega)) d_M_add_31 ?_
    refine lv_iload_n hx hb d_M_add_32 rfl (lv_at hl 1 rfl) ?_
    refine vp_callSi (W.runS (As := [.int c1]) (rest := [.long (le (Int32.toNatClampNeg (si / 8))), .int (si / 8), .ref (h 4)]) ⟨hx, hb, hml, hown, ht⟩ (c_M_low l k c1 ) (va_cwS 1 ht (g_S k_731 k_732 k_80 k_733) rfl rfl rfl (by decide +kernel) ⟨(Nat.le_of_ble_eq_true rfl), (Nat.le_of_ble_eq_true rfl)⟩) ⟨fb_J, pre_J hE hS⟩ rfl rfl hl.1 rfl (lv_room (Nat.le_of_ble_eq_true rfl)) d_M_add_33 ⟨(Nat.le_of_ble_eq_true rfl), (Nat.le_of_ble_eq_true rfl)⟩) (fun r_7 hw => ?_)
    have p_8 := hw
    refine lv_i2l (v := (Int32.toInt64 r_7)) hx hb d_M_add_36 rfl ?_
    refine lv_bipush (v := 56) hx hb d_M_add_37 (by decide) ?_
    refine lv_bipush (v := 8) hx hb d_M_add_39 (by decide) ?_
    refine lv_aload_n hx hb d_M_add_41 rfl (lv_at hl 0 rfl) ?_
    refine va_get (D := (dC, dI)) (ci := 4) (v := .int si) (C := "SieveDeskModel") (T := F_M) (N := 19) hx hb ht i_M hown hK hP 0 rfl rfl 7 (by decide) (ht _ k_634) (fun _ h9 => h9) rfl d_M_add_42 ?_
    refine lv_bipush (v := 8) hx hb d_M_add_45 (by decide) ?_
    refine lv_irem hx hb d_M_add_47 (by decide) ?_
    refine lv_imul hx hb d_M_add_48 ?_
    refine lv_isub hx hb d_M_add_49 ?_
    refine lv_lshl (v := ((Int32.toInt64 r_7) <<< ((Int32.toInt64 (56 - (8 * (si - si / 8 * 8)))) &&& 63))) hx hb d_M_add_50 rfl ?_
    refine lv_lor hx hb d_M_add_51 ?_
    refine va_last hx hb hK hP hD hS 4 3 rfl rfl (i_in rfl (by omega) (by omega)) d_M_add_52 (fun H locs hP hD hS => ?_)
    have hP : va_P (dC, dI) cls (ME h g ss sa so pl si fa li co st rq bl te op wo wz sr (vp_updL le (Int32.toNatClampNeg (si / 8)) ((le (Int32.toNatClampNeg (si / 8))) ||| ((Int32.toInt64 r_7) <<< ((Int32.toInt64 (56 - (8 * (si - si / 8 * 8)))) &&& 63)))) tx ro) H := hP
    have hD : va_D A (ME h g ss sa so pl si fa li co st rq bl te op wo wz sr (vp_updL le (Int32.toNatClampNeg (si / 8)) ((le (Int32.toNatClampNeg (si / 8))) ||| ((Int32.toInt64 r_7) <<< ((Int32.toInt64 (56 - (8 * (si - si / 8 * 8)))) &&& 63)))) tx ro) := hD
    refine lv_aload_n hx hb d_M_add_53 rfl (lv_at hl 0 rfl) ?_
    refine va_get (D := (dC, dI)) (ci := 4) (v := .int si) (C := "SieveDeskModel") (T := F_M) (N := 19) hx hb ht i_M hown hK hP 0 rfl rfl 7 (by decide) (ht _ k_634) (fun _ h9 => h9) rfl d_M_add_54 ?_
    refine lv_sipush (v := 1010) hx hb d_M_add_57 (by decide) ?_
    refine lv_icmp_ge (tgt := 73) hx hb d_M_add_60 (by decide) (fun c_9 => ?_) (fun c_9 => ?_)
    · have dc_9 := i_le c_9 (show Int32.toInt 1010 = 1010 by decide) rfl
      refine lv_aload_n hx hb d_M_add_73 rfl (lv_at hl 0 rfl) ?_
      refine lv_aload_n hx hb d_M_add_74 rfl (lv_at hl 0 rfl) ?_
      refine va_get (D := (dC, dI)) (ci := 4) (v := .int si) (C := "SieveDeskModel") (T := F_M) (N := 19) hx hb ht i_M hown hK hP 0 rfl rfl 7 (by decide) (ht _ k_634) (fun _ h9 => h9) rfl d_M_add_75 ?_
      refine lv_iconst (v := 1) hx hb d_M_add_78 (by decide) ?_
      refine lv_iadd hx hb d_M_add_79 ?_
      have e_10 : Int32.toInt (si + 1) = (Int32.toInt si) + 1 := i_add rfl (show Int32.toInt 1 = 1 by decide) (by omega) (by omega)
      refine va_put (D := (dC, dI)) (ci := 4) (v := .int (si + 1)) (ty := .int) (C := "SieveDeskModel") (T := F_M) (N := 19) hx hb ht i_M ty_M ty_M_ok n_M hown hK hP hD hS 0 rfl rfl 7 (by decide) (ht _ k_634) (fun _ h9 => h9) rfl (ty_M_ok 7 (by decide)) rfl rfl (Nat.le_of_ble_eq_true rfl) d_M_add_80 (fun H locs hP hD hS => ?_)
      have hP : va_P (dC, dI) cls (ME h g ss sa so pl (si + 1) fa li co st rq bl te op wo wz sr (vp_updL le (Int32.toNatClampNeg (si / 8)) ((le (Int32.toNatClampNeg (si / 8))) ||| ((Int32.toInt64 r_7) <<< ((Int32.toInt64 (56 - (8 * (si - si / 8 * 8)))) &&& 63)))) tx ro) H := hP
      have hD : va_D A (ME h g ss sa so pl (si + 1) fa li co st rq bl te op wo wz sr (vp_updL le (Int32.toNatClampNeg (si / 8)) ((le (Int32.toNatClampNeg (si / 8))) ||| ((Int32.toInt64 r_7) <<< ((Int32.toInt64 (56 - (8 * (si - si / 8 * 8)))) &&& 63)))) tx ro) := hD
      exact fin  ((si + 1), (vp_updL le (Int32.toNatClampNeg (si / 8)) ((le (Int32.toNatClampNeg (si / 8))) ||| ((Int32.toInt64 r_7) <<< ((Int32.toInt64 (56 - (8 * (si - si / 8 * 8)))) &&& 63)))), tx) _ _ _ ls d_M_add_83 ⟨(by (try dsimp only); omega), (by (try dsimp only); omega), (by (try dsimp only); omega)⟩ hP hD hS
    · have dc_9 := i_nle c_9 (show Int32.toInt 1010 = 1010 by decide) rfl
      refine lv_aload_n hx hb d_M_add_63 rfl (lv_at hl 0 rfl) ?_
      refine va_get (D := (dC, dI)) (ci := 4) (v := .ref (h 5)) (C := "SieveDeskModel") (T := F_M) (N := 19) hx hb ht i_M hown hK hP 0 rfl rfl 9 (by decide) (ht _ k_636) (fun _ h9 => h9) rfl d_M_add_64 ?_
      refine lv_aload_n hx hb d_M_add_67 rfl (lv_at hl 0 rfl) ?_
      refine va_get (D := (dC, dI)) (ci := 4) (v := .int si) (C := "SieveDeskModel") (T := F_M) (N := 19) hx hb ht i_M hown hK hP 0 rfl rfl 7 (by decide) (ht _ k_634) (fun _ h9 => h9) rfl d_M_add_68 ?_
      refine lv_iload_n hx hb d_M_add_71 rfl (lv_at hl 1 rfl) ?_
      refine va_iast hx hb hK hP hD hS 5 4 rfl rfl (i_in rfl (by omega) (by omega)) d_M_add_72 (fun H locs hP hD hS => ?_)
      have hP : va_P (dC, dI) cls (ME h g ss sa so pl si fa li co st rq bl te op wo wz sr (vp_updL le (Int32.toNatClampNeg (si / 8)) ((le (Int32.toNatClampNeg (si / 8))) ||| ((Int32.toInt64 r_7) <<< ((Int32.toInt64 (56 - (8 * (si - si / 8 * 8)))) &&& 63)))) (upd tx (Int32.toNatClampNeg si) c1) ro) H := hP
      have hD : va_D A (ME h g ss sa so pl si fa li co st rq bl te op wo wz sr (vp_updL le (Int32.toNatClampNeg (si / 8)) ((le (Int32.toNatClampNeg (si / 8))) ||| ((Int32.toInt64 r_7) <<< ((Int32.toInt64 (56 - (8 * (si - si / 8 * 8)))) &&& 63)))) (upd tx (Int32.toNatClampNeg si) c1) ro) := hD
      refine lv_aload_n hx hb d_M_add_73 rfl (lv_at hl 0 rfl) ?_
      refine lv_aload_n hx hb d_M_add_74 rfl (lv_at hl 0 rfl) ?_
      refine va_get (D := (dC, dI)) (ci := 4) (v := .int si) (C := "SieveDeskModel") (T := F_M) (N := 19) hx hb ht i_M hown hK hP 0 rfl rfl 7 (by decide) (ht _ k_634) (fun _ h9 => h9) rfl d_M_add_75 ?_
      refine lv_iconst (v := 1) hx hb d_M_add_78 (by decide) ?_
      refine lv_iadd hx hb d_M_add_79 ?_
      have e_11 : Int32.toInt (si + 1) = (Int32.toInt si) + 1 := i_add rfl (show Int32.toInt 1 = 1 by decide) (by omega) (by omega)
      refine va_put (D := (dC, dI)) (ci := 4) (v := .int (si + 1)) (ty := .int) (C := "SieveDeskModel") (T := F_M) (N := 19) hx hb ht i_M ty_M ty_M_ok n_M hown hK hP hD hS 0 rfl rfl 7 (by decide) (ht _ k_634) (fun _ h9 => h9) rfl (ty_M_ok 7 (by decide)) rfl rfl (Nat.le_of_ble_eq_true rfl) d_M_add_80 (fun H locs hP hD hS => ?_)
      have hP : va_P (dC, dI) cls (ME h g ss sa so pl (si + 1) fa li co st rq bl te op wo wz sr (vp_updL le (Int32.toNatClampNeg (si / 8)) ((le (Int32.toNatClampNeg (si / 8))) ||| ((Int32.toInt64 r_7) <<< ((Int32.toInt64 (56 - (8 * (si - si / 8 * 8)))) &&& 63)))) (upd tx (Int32.toNatClampNeg si) c1) ro) H := hP
      have hD : va_D A (ME h g ss sa so pl (si + 1) fa li co st rq bl te op wo wz sr (vp_updL le (Int32.toNatClampNeg (si / 8)) ((le (Int32.toNatClampNeg (si / 8))) ||| ((Int32.toInt64 r_7) <<< ((Int32.toInt64 (56 - (8 * (si - si / 8 * 8)))) &&& 63)))) (upd tx (Int32.toNatClampNeg si) c1) ro) := hD
      exact fin  ((si + 1), (vp_updL le (Int32.toNatClampNeg (si / 8)) ((le (Int32.toNatClampNeg (si / 8))) ||| ((Int32.toInt64 r_7) <<< ((Int32.toInt64 (56 - (8 * (si - si / 8 * 8)))) &&& 63)))), (upd tx (Int32.toNatClampNeg si) c1)) _ _ _ ls d_M_add_83 ⟨(by (try dsimp only); omega), (by (try dsimp only); omega), (by (try dsimp only); omega)⟩ hP hD hS
set_option maxHeartbeats 4000000 in
set_option maxRecDepth 100000 in
theorem c_M_add (l : Launch) (dC : Nat → ClassId) (dI : Nat → Nat → Nat) (k : Nat → Nat) (h : Nat → Nat) (g : Nat → ClassId) (ss : Int32) (sa : Int32) (so : Int32) (pl : Int32) (si : Int32) (fa : Int32) (li : Int32) (co : Int32) (st : Int32) (rq : Int32) (bl : Int32) (te : Int32) (op : Int32) (wo : Nat → Int64) (le : Nat → Int64) (wz : Nat → Int32) (sr : Nat → Int32) (tx : Nat → Int32) (ro : Nat → Int32) (c1 : Int32) (sz : Nat)  (v_0 : 0 ≤ Int32.toInt si) (v_1 : Int32.toInt si ≤ 400) (v_2 : Int32.toInt si ≤ 399) : Met l y_M_add (.code y_M_add b_M_add 2 none :: TT) ({ frames := 1, cells := 0, slots := 0, locals := 20 }) (va_Pc [.ref (h 0), .int c1] (PX dC dI k (TM g) (ME h g ss sa so pl si fa li co st rq bl te op wo wz sr le tx ro) sz)) (va_Qv (fun u : Int32 × (Nat → Int64) × (Nat → Int32) => 0 ≤ Int32.toInt u.1 ∧ Int32.toInt u.1 ≤ 400 ∧ Int32.toInt u.1 = Int32.toInt si + 1) (fun u t => BX dC dI (TM g) (va_A (ME h g ss sa so pl si fa li co st rq bl te op wo wz sr le tx ro) sz) (ME h g ss sa so pl u.1 fa li co st rq bl te op wo wz sr u.2.1 u.2.2 ro) t) (va_A (ME h g ss sa so pl si fa li co st rq bl te op wo wz sr le tx ro) sz)) 0 0 (va_A (ME h g ss sa so pl si fa li co st rq bl te op wo wz sr le tx ro) sz) := by
  refine Met.ofW (cc := b_M_add) (maxL := 2) (ret := none) (by decide) rfl ?_
  intro p e s m args below meth c s₁ B hml hv
  obtain ⟨rfl, hsz, hE, hP, hK, hD0⟩ := hv
  have hx := B.exec
  have hb := B.bytes
  have hr := B.returns
  have ht : ∀ w ∈ TT, w.before _ s = true := fun w hw => atoms_spec (ws := .code y_M_add b_M_add 2 none :: TT) B.pre w (List.mem_cons_of_mem _ hw)
  have hown : s.vm.findClass "SieveDeskModel" = some m.cls := findClass_of_methodNamed B.named
  have hlocks := B.notSynchronized
  subst hsz
  have hD := hD0.self (sz := s.heap.size)
  generalize hAe : va_A (ME h g ss sa so pl si fa li co st rq bl te op wo wz sr le tx ro) s.heap.size = A at hE hD ⊢
  have hA : ∀ q : Nat, s.heap.size ≤ q → A q := fun q h9 => by rw [← hAe]; exact Or.inr h9
  have hS : va_S A s.heap s.heap [] := va_S.rf
  have hl := lv_entry ([.ref (h 0), .int c1]) (n := 2) (Nat.le_of_ble_eq_true rfl)
  rw [lg_entry_eq]
  generalize (lg_sl ([.ref (h 0), .int c1]) ++ List.replicate (2 - (lg_sl ([.ref (h 0), .int c1])).length) Slot.unset).toArray = ls at hl ⊢
  have hl : lv_has ls 2 [(0, .ref (h 0)), (1, .int c1)] := hl
  exact bd_M_add_0 (c1 := c1) hx hb hml hown ht hE hA hK  (fun u H locs pc ls hd hp hP hD hS => W.vret hx hb hr (fun t het hW => ⟨⟨u, rfl, hp, by rw [het]; exact hP, va_K.moved hW.alike hK, hD⟩, hS.F het⟩) hS.2.2 hd) si le tx rfl v_0 v_1 v_2 _ _ ls hP hD hS hl
set_option maxHeartbeats 4000000 in
set_option maxRecDepth 100000 in
theorem lp_M_which_g0 {p : Program} {l : Launch} {e : Env} {s : State} {m : MethodId} {args : Array Value} {below : List Frame} {meth : Method} {c : Code} {Q : State → Prop} {A : Nat → Prop} {dC : Nat → ClassId} {dI : Nat → Nat → Nat} {k h : Nat → Nat} {g : Nat → ClassId} {ss : Int32} {sa : Int32} {so : Int32} {pl : Int32} {si : Int32} {fa : Int32} {li : Int32} {co : Int32} {st : Int32} {rq : Int32} {bl : Int32} {te : Int32} {op : Int32} {wo : Nat → Int64} {le : Nat → Int64} {wz : Nat → Int32} {sr : Nat → Int32} {tx : Nat → Int32} {ro : Nat → Int32} (hx : p.tables.exec = Jvm.exec) (hb : c.code = b_M_which) (hml : c.maxLocals = 6) (hown : s.vm.findClass "SieveDeskModel" = some m.cls) (ht : ∀ w ∈ TT, w.before args s = true) (hE : KE k A s s.heap) (hA : ∀ q : Nat, s.heap.size ≤ q → A q) (hK : va_K (dC, dI) cls (TM g) s) {fr n : Int32} (h_0 : 0 ≤ Int32.toInt fr) (h_1 : 0 ≤ Int32.toInt n) (h_2 : Int32.toInt fr + Int32.toInt n ≤ 55) (fin : ∀ (r : Int32) (u : Unit) (H : Heap) (locs : List Loc) (pc : Nat) (ls : Array Slot), decode b_M_which pc = .ok (.ireturn, 1) → ((Int32.toInt r = -1 ∨ (Int32.toInt fr ≤ Int32.toInt r ∧ Int32.toInt r < Int32.toInt fr + Int32.toInt n))) → va_P (dC, dI) cls (ME h g ss sa so pl si fa li co st rq bl te op wo wz sr le tx ro) H → va_D A (ME h g ss sa so pl si fa li co st rq bl te op wo wz sr le tx ro) → va_S A s.heap H locs → W p l e ({ frames := 0, cells := 0, slots := 0, locals := 0 } : Room) s m args below meth c H locs 0 0 Q (F0 m pc ls [.int r])) : ∀ (nn : Nat), (∀ (w : Int32), Int32.toInt fr ≤ Int32.toInt w → Int32.toInt w ≤ 55 → (10 * (55 - Int32.toInt w) + 9).toNat < nn → ∀ (H : Heap) (locs : List Loc) (ls : Array Slot), va_P (dC, dI) cls (ME h g ss sa so pl si fa li co st rq bl te op wo wz sr le tx ro) H → va_D A (ME h g ss sa so pl si fa li co st rq bl te op wo wz sr le tx ro) → va_S A s.heap H locs → lv_has ls 6 [(3, .int w), (0, .ref (h 0)), (1, .int fr), (2, .int n)] → W p l e ({ frames := 0, cells := 0, slots := 0, locals := 0 } : Room) s m args below meth c H locs 0 0 Q (F0 m 2 ls [])) ∧ (∀ (w : Int32) (lk : Int32) (kk : Int32), Int32.toInt fr ≤ Int32.toInt w → Int32.toInt w < Int32.toInt fr + Int32.toInt n → 0 ≤ Int32.toInt kk → Int32.toInt kk ≤ 4 → (10 * (55 - Int32.toInt w) + 4 - Int32.toInt kk).toNat < nn → ∀ (H : Heap) (locs : List Loc) (ls : Array Slot), va_P (dC, dI) cls (ME h g ss sa so pl si fa li co st rq bl te op wo wz sr le tx ro) H → va_D A (ME h g ss sa so pl si fa li co st rq bl te op wo wz sr le tx ro) → va_S A s.heap H locs → lv_has ls 6 [(3, .int w), (4, .int lk), (5, .int kk), (0, .ref (h 0)), (1, .int fr), (2, .int n)] → W p l e ({ frames := 0, cells := 0, slots := 0, locals := 0 } : Room) s m args below meth c H locs 0 0 Q (F0 m 32 ls [])) := by
  intro nn
  induction nn with
  | zero =>
    refine ⟨fun _ _ _ hm => absurd hm (Nat.not_lt_zero _), fun _ _ _ _ _ _ _ hm => absurd hm (Nat.not_lt_zero _)⟩
  | succ nn ih =>
    refine ⟨?_, ?_⟩
    · intro w v_0 v_1 hm H locs ls hP hD hS hl
      refine lv_iload_n hx hb d_M_which_2 rfl (lv_at hl 0 rfl) ?_
      refine lv_iload_n hx hb d_M_which_3 rfl (lv_at hl 2 rfl) ?_
      refine lv_iload_n hx hb d_M_which_4 rfl (lv_at hl 3 rfl) ?_
      refine lv_iadd hx hb d_M_which_5 ?_
      have e_1 : Int32.toInt (fr + n) = (Int32.toInt fr) + (Int32.toInt n) := i_add rfl rfl (by omega) (by omega)
      refine lv_icmp_ge (tgt := 91) hx hb d_M_which_6 (by decide) (fun c_2 => ?_) (fun c_2 => ?_)
      · have dc_2 := i_le c_2 e_1 rfl
        refine lv_iconst (v := (-1)) hx hb d_M_which_91 (by decide) ?_
        have hc_m1 : Int32.toInt (-1) = (-1) := by decide
        exact fin (-1) () _ _ _ ls d_M_which_92 (by (try dsimp only); omega) hP hD hS
      · have dc_2 := i_nle c_2 e_1 rfl
        refine lv_aload_n hx hb d_M_which_9 rfl (lv_at hl 1 rfl) ?_
        refine va_get (D := (dC, dI)) (ci := 4) (v := .int si) (C := "SieveDeskModel") (T := F_M) (N := 19) hx hb ht i_M hown hK hP 0 rfl rfl 7 (by decide) (ht _ k_634) (fun _ h9 => h9) rfl d_M_which_10 ?_
        refine lv_aload_n hx hb d_M_which_13 rfl (lv_at hl 1 rfl) ?_
        refine va_get (D := (dC, dI)) (ci := 4) (v := .ref (h 2)) (C := "SieveDeskModel") (T := F_M) (N := 19) hx hb ht i_M hown hK hP 0 rfl rfl 1 (by decide) (ht _ k_628) (fun _ h9 => h9) rfl d_M_which_14 ?_
        refine lv_iload_n hx hb d_M_which_17 rfl (lv_at hl 0 rfl) ?_
        refine va_iald hx hb hK hP 2 1 rfl rfl (i_in rfl (by omega) (by omega)) d_M_which_18 ?_
        refine lv_icmp_ne (tgt := 26) hx hb d_M_which_19 (by decide) (fun c_3 => ?_) (fun c_3 => ?_)
        · refine lv_iconst (v := 0) hx hb d_M_which_26 (by decide) ?_
          refine lv_istore (lv' := [(4, .int 0), (3, .int w), (0, .ref (h 0)), (1, .int fr), (2, .int n)]) hx hb d_M_which_27 hl (by decide) rfl (fun ls hl => ?_)
          refine lv_iconst (v := 0) hx hb d_M_which_29 (by decide) ?_
          refine lv_istore (lv' := [(5, .int 0), (4, .int 0), (3, .int w), (0, .ref (h 0)), (1, .int fr), (2, .int n)]) hx hb d_M_which_30 hl (by decide) rfl (fun ls hl => ?_)
          have hc_0 : Int32.toInt 0 = 0 := by decide
          exact ih.2 w 0 0 (by omega) (by omega) (by omega) (by omega) (by omega) _ _ ls hP hD hS (lv_sub hl [2, 1, 0, 3, 4, 5] rfl)
        · refine lv_iconst (v := 1) hx hb d_M_which_22 (by decide) ?_
          refine lv_goto (tgt := 27) hx hb d_M_which_23 (by decide) ?_
          refine lv_istore (lv' := [(4, .int 1), (3, .int w), (0, .ref (h 0)), (1, .int fr), (2, .int n)]) hx hb d_M_which_27 hl (by decide) rfl (fun ls hl => ?_)
          refine lv_iconst (v := 0) hx hb d_M_which_29 (by decide) ?_
          refine lv_istore (lv' := [(5, .int 0), (4, .int 1), (3, .int w), (0, .ref (h 0)), (1, .int fr), (2, .int n)]) hx hb d_M_which_30 hl (by decide) rfl (fun ls hl => ?_)
          have hc_1 : Int32.toInt 1 = 1 := by decide
          have hc_0 : Int32.toInt 0 = 0 := by decide
          exact ih.2 w 1 0 (by omega) (by omega) (by omega) (by omega) (by omega) _ _ ls hP hD hS (lv_sub hl [2, 1, 0, 3, 4, 5] rfl)
    · intro w lk kk v_0 v_1 v_2 v_3 hm H locs ls hP hD hS hl
      refine lv_iload hx hb d_M_which_32 (lv_at hl 2 rfl) ?_
      refine lv_iconst (v := 4) hx hb d_M_which_34 (by decide) ?_
      refine lv_icmp_ge (tgt := 78) hx hb d_M_which_35 (by decide) (fun c_4 => ?_) (fun c_4 => ?_)
      · have dc_4 := i_le c_4 (show Int32.toInt 4 = 4 by decide) rfl
        refine lv_iload hx hb d_M_which_78 (lv_at hl 1 rfl) ?_
        refine lv_if_eq (tgt := 85) hx hb d_M_which_80 (by decide) (fun c_5 => ?_) (fun c_5 => ?_)
        · refine lv_iinc (v := (w + 1)) (lv' := [(3, .int (w + 1)), (4, .int lk), (5, .int kk), (0, .ref (h 0)), (1, .int fr), (2, .int n)]) hx hb d_M_which_85 hl (k := 0) rfl rfl (by decide) rfl (fun ls hl => ?_)
          have e_6 : Int32.toInt (w + 1) = (Int32.toInt w) + 1 := i_add rfl (show Int32.toInt 1 = 1 by decide) (by omega) (by omega)
          refine lv_goto (tgt := 2) hx hb d_M_which_88 (by decide) ?_
          exact ih.1 (w + 1) (by omega) (by omega) (by omega) _ _ ls hP hD hS (lv_sub hl [0, 3, 4, 5] rfl)
        · refine lv_iload_n hx hb d_M_which_83 rfl (lv_at hl 0 rfl) ?_
          exact fin w () _ _ _ ls d_M_which_84 (by (try dsimp only); omega) hP hD hS
      · have dc_4 := i_nle c_4 (show Int32.toInt 4 = 4 by decide) rfl
        refine lv_iload hx hb d_M_which_38 (lv_at hl 1 rfl) ?_
        refine lv_if_eq (tgt := 78) hx hb d_M_which_40 (by decide) (fun c_7 => ?_) (fun c_7 => ?_)
        · refine lv_iload hx hb d_M_which_78 (lv_at hl 1 rfl) ?_
          refine lv_if_eq (tgt := 85) hx hb d_M_which_80 (by decide) (fun c_8 => ?_) (fun c_8 => ?_)
          · refine lv_iinc (v := (w + 1)) (lv' := [(3, .int (w + 1)), (4, .int lk), (5, .int kk), (0, .ref (h 0)), (1, .int fr), (2, .int n)]) hx hb d_M_which_85 hl (k := 0) rfl rfl (by decide) rfl (fun ls hl => ?_)
            have e_9 : Int32.toInt (w + 1) = (Int32.toInt w) + 1 := i_add rfl (show Int32.toInt 1 = 1 by decide) (by omega) (by omega)
            refine lv_goto (tgt := 2) hx hb d_M_which_88 (by decide) ?_
            exact ih.1 (w + 1) (by omega) (by omega) (by omega) _ _ ls hP hD hS (lv_sub hl [0, 3, 4, 5] rfl)
          · refine lv_iload_n hx hb d_M_which_83 rfl (lv_at hl 0 rfl) ?_
            exact fin w () _ _ _ ls d_M_which_84 (by (try dsimp only); omega) hP hD hS
        · refine lv_aload_n hx hb d_M_which_43 rfl (lv_at hl 3 rfl) ?_
          refine va_get (D := (dC, dI)) (ci := 4) (v := .ref (h 4)) (C := "SieveDeskModel") (T := F_M) (N := 19) hx hb ht i_M hown hK hP 0 rfl rfl 8 (by decide) (ht _ k_635) (fun _ h9 => h9) rfl d_M_which_44 ?_
          refine lv_iload hx hb d_M_which_47 (lv_at hl 2 rfl) ?_
          refine va_lald hx hb hK hP 4 3 rfl rfl (i_in rfl (by omega) (by omega)) d_M_which_49 ?_
          refine lv_aload_n hx hb d_M_which_50 rfl (lv_at hl 3 rfl) ?_
          refine va_get (D := (dC, dI)) (ci := 4) (v := .ref (h 1)) (C := "SieveDeskModel") (T := F_M) (N := 19) hx hb ht i_M hown hK hP 0 rfl rfl 0 (by decide) (ht _ k_627) (fun _ h9 => h9) rfl d_M_which_51 ?_
          refine lv_iconst (v := 4) hx hb d_M_which_54 (by decide) ?_
          refine lv_iload_n hx hb d_M_which_55 rfl (lv_at hl 0 rfl) ?_
          refine lv_imul hx hb d_M_which_56 ?_
          have e_10 : Int32.toInt (4 * w) = 4 * (Int32.toInt w) := i_mul (show Int32.toInt 4 = 4 by decide) rfl (by omega) (by omega)
          refine lv_iload hx hb d_M_which_57 (lv_at hl 2 rfl) ?_
          refine lv_iadd hx hb d_M_which_59 ?_
          have e_11 : Int32.toInt ((4 * w) + kk) = (4 * (Int32.toInt w)) + (Int32.toInt kk) := i_add e_10 rfl (by omega) (by omega)
          refine va_lald hx hb hK hP 1 0 rfl rfl (i_in e_11 (by omega) (by omega)) d_M_which_60 ?_
          refine W.lcmp hx hb d_M_which_61 ?_
          refine lv_topi (fun lc_12 elc_12 => ?_)
          refine lv_if_ne (tgt := 69) hx hb d_M_which_62 (by decide) (fun c_13 => ?_) (fun c_13 => ?_)
          · refine lv_iconst (v := 0) hx hb d_M_which_69 (by decide) ?_
            refine lv_istore (lv' := [(4, .int 0), (3, .int w), (5, .int kk), (0, .ref (h 0)), (1, .int fr), (2, .int n)]) hx hb d_M_which_70 hl (by decide) rfl (fun ls hl => ?_)
            refine lv_iinc (v := (kk + 1)) (lv' := [(5, .int (kk + 1)), (4, .int 0), (3, .int w), (0, .ref (h 0)), (1, .int fr), (2, .int n)]) hx hb d_M_which_72 hl (k := 2) rfl rfl (by decide) rfl (fun ls hl => ?_)
            have e_14 : Int32.toInt (kk + 1) = (Int32.toInt kk) + 1 := i_add rfl (show Int32.toInt 1 = 1 by decide) (by omega) (by omega)
            refine lv_goto (tgt := 32) hx hb d_M_which_75 (by decide) ?_
            have hc_0 : Int32.toInt 0 = 0 := by decide
            exact ih.2 w 0 (kk + 1) (by omega) (by omega) (by omega) (by omega) (by omega) _ _ ls hP hD hS (lv_sub hl [2, 1, 0, 3, 4, 5] rfl)
          · refine lv_iconst (v := 1) hx hb d_M_which_65 (by decide) ?_
            refine lv_goto (tgt := 70) hx hb d_M_which_66 (by decide) ?_
            refine lv_istore (lv' := [(4, .int 1), (3, .int w), (5, .int kk), (0, .ref (h 0)), (1, .int fr), (2, .int n)]) hx hb d_M_which_70 hl (by decide) rfl (fun ls hl => ?_)
            refine lv_iinc (v := (kk + 1)) (lv' := [(5, .int (kk + 1)), (4, .int 1), (3, .int w), (0, .ref (h 0)), (1, .int fr), (2, .int n)]) hx hb d_M_which_72 hl (k := 2) rfl rfl (by decide) rfl (fun ls hl => ?_)
            have e_15 : Int32.toInt (kk + 1) = (Int32.toInt kk) + 1 := i_add rfl (show Int32.toInt 1 = 1 by decide) (by omega) (by omega)
            refine lv_goto (tgt := 32) hx hb d_M_which_75 (by decide) ?_
            have hc_1 : Int32.toInt 1 = 1 := by decide
            exact ih.2 w 1 (kk + 1) (by omega) (by omega) (by omega) (by omega) (by omega) _ _ ls hP hD hS (lv_sub hl [2, 1, 0, 3, 4, 5] rfl)
set_option maxHeartbeats 4000000 in
set_option maxRecDepth 100000 in
theorem bd_M_which_0 {p : Program} {l : Launch} {e : Env} {s : State} {m : MethodId} {args : Array Value} {below : List Frame} {meth : Method} {c : Code} {Q : State → Prop} {A : Nat → Prop} {dC : Nat → ClassId} {dI : Nat → Nat → Nat} {k h : Nat → Nat} {g : Nat → ClassId} {ss : Int32} {sa : Int32} {so : Int32} {pl : Int32} {si : Int32} {fa : Int32} {li : Int32} {co : Int32} {st : Int32} {rq : Int32} {bl : Int32} {te : Int32} {op : Int32} {wo : Nat → Int64} {le : Nat → Int64} {wz : Nat → Int32} {sr : Nat → Int32} {tx : Nat → Int32} {ro : Nat → Int32} (hx : p.tables.exec = Jvm.exec) (hb : c.code = b_M_which) (hml : c.maxLocals = 6) (hown : s.vm.findClass "SieveDeskModel" = some m.cls) (ht : ∀ w ∈ TT, w.before args s = true) (hE : KE k A s s.heap) (hA : ∀ q : Nat, s.heap.size ≤ q → A q) (hK : va_K (dC, dI) cls (TM g) s) {fr n : Int32} (h_0 : 0 ≤ Int32.toInt fr) (h_1 : 0 ≤ Int32.toInt n) (h_2 : Int32.toInt fr + Int32.toInt n ≤ 55) (fin : ∀ (r : Int32) (u : Unit) (H : Heap) (locs : List Loc) (pc : Nat) (ls : Array Slot), decode b_M_which pc = .ok (.ireturn, 1) → ((Int32.toInt r = -1 ∨ (Int32.toInt fr ≤ Int32.toInt r ∧ Int32.toInt r < Int32.toInt fr + Int32.toInt n))) → va_P (dC, dI) cls (ME h g ss sa so pl si fa li co st rq bl te op wo wz sr le tx ro) H → va_D A (ME h g ss sa so pl si fa li co st rq bl te op wo wz sr le tx ro) → va_S A s.heap H locs → W p l e ({ frames := 0, cells := 0, slots := 0, locals := 0 } : Room) s m args below meth c H locs 0 0 Q (F0 m pc ls [.int r])) : ∀ (H : Heap) (locs : List Loc) (ls : Array Slot), va_P (dC, dI) cls (ME h g ss sa so pl si fa li co st rq bl te op wo wz sr le tx ro) H → va_D A (ME h g ss sa so pl si fa li co st rq bl te op wo wz sr le tx ro) → va_S A s.heap H locs → lv_has ls 6 [(0, .ref (h 0)), (1, .int fr), (2, .int n)] → W p l e ({ frames := 0, cells := 0, slots := 0, locals := 0 } : Room) s m args below meth c H locs 0 0 Q (F0 m 0 ls []) := by
  intro H locs ls hP hD hS hl
  refine lv_iload_n hx hb d_M_which_0 rfl (lv_at hl 1 rfl) ?_
  refine lv_istore_n (lv' := [(3, .int fr), (0, .ref (h 0)), (1, .int fr), (2, .int n)]) hx hb d_M_which_1 rfl hl (by decide) rfl (fun ls hl => ?_)
  exact (lp_M_which_g0 (fr := fr) (n := n) hx hb hml hown ht hE hA hK h_0 h_1 h_2 fin _).1 fr (by omega) (by omega) (Nat.lt_succ_self _) _ _ ls hP hD hS (lv_sub hl [0, 1, 2, 3] rfl)
set_option maxHeartbeats 4000000 in
set_option maxRecDepth 100000 in
theorem c_M_which (l : Launch) (dC : Nat → ClassId) (dI : Nat → Nat → Nat) (k : Nat → Nat) (h : Nat → Nat) (g : Nat → ClassId) (ss : Int32) (sa : Int32) (so : Int32) (pl : Int32) (si : Int32) (fa : Int32) (li : Int32) (co : Int32) (st : Int32) (rq : Int32) (bl : Int32) (te : Int32) (op : Int32) (wo : Nat → Int64) (le : Nat → Int64) (wz : Nat → Int32) (sr : Nat → Int32) (tx : Nat → Int32) (ro : Nat → Int32) (fr n : Int32) (sz : Nat) (h_0 : 0 ≤ Int32.toInt fr) (h_1 : 0 ≤ Int32.toInt n) (h_2 : Int32.toInt fr + Int32.toInt n ≤ 55)  : Met l y_M_which (.code y_M_which b_M_which 6 (some .int) :: TT) ({ frames := 0, cells := 0, slots := 0, locals := 0 }) (va_Pc [.ref (h 0), .int fr, .int n] (PX dC dI k (TM g) (ME h g ss sa so pl si fa li co st rq bl te op wo wz sr le tx ro) sz)) (va_Qi (fun (r : Int32) (u : Unit) => (Int32.toInt r = -1 ∨ (Int32.toInt fr ≤ Int32.toInt r ∧ Int32.toInt r < Int32.toInt fr + Int32.toInt n))) (fun u t => BX dC dI (TM g) (va_A (ME h g ss sa so pl si fa li co st rq bl te op wo wz sr le tx ro) sz) (ME h g ss sa so pl si fa li co st rq bl te op wo wz sr le tx ro) t) (va_A (ME h g ss sa so pl si fa li co st rq bl te op wo wz sr le tx ro) sz)) 0 0 (va_A (ME h g ss sa so pl si fa li co st rq bl te op wo wz sr le tx ro) sz) := by
  refine Met.ofW (cc := b_M_which) (maxL := 6) (ret := (some .int)) (by decide) rfl ?_
  intro p e s m args below meth c s₁ B hml hv
  obtain ⟨rfl, hsz, hE, hP, hK, hD0⟩ := hv
  have hx := B.exec
  have hb := B.bytes
  have hr := B.returns
  have ht : ∀ w ∈ TT, w.before _ s = true := fun w hw => atoms_spec (ws := .code y_M_which b_M_which 6 (some .int) :: TT) B.pre w (List.mem_cons_of_mem _ hw)
  have hown : s.vm.findClass "SieveDeskModel" = some m.cls := findClass_of_methodNamed B.named
  have hlocks := B.notSynchronized
  subst hsz
  have hD := hD0.self (sz := s.heap.size)
  generalize hAe : va_A (ME h g ss sa so pl si fa li co st rq bl te op wo wz sr le tx ro) s.heap.size = A at hE hD ⊢
  have hA : ∀ q : Nat, s.heap.size ≤ q → A q := fun q h9 => by rw [← hAe]; exact Or.inr h9
  have hS : va_S A s.heap s.heap [] := va_S.rf
  have hl := lv_entry ([.ref (h 0), .int fr, .int n]) (n := 6) (Nat.le_of_ble_eq_true rfl)
  rw [lg_entry_eq]
  generalize (lg_sl ([.ref (h 0), .int fr, .int n]) ++ List.replicate (6 - (lg_sl ([.ref (h 0), .int fr, .int n])).length) Slot.unset).toArray = ls at hl ⊢
  have hl : lv_has ls 6 [(0, .ref (h 0)), (1, .int fr), (2, .int n)] := hl
  exact bd_M_which_0 (fr := fr) (n := n) hx hb hml hown ht hE hA hK h_0 h_1 h_2 (fun r u H locs pc ls hd hp hP hD hS => W.iret hx hb hr (fun t het hW => ⟨⟨r, u, rfl, hp, by rw [het]; exact hP, va_K.moved hW.alike hK, hD⟩, hS.F het⟩) hS.2.2 hd)   _ _ ls hP hD hS hl
set_option maxHeartbeats 4000000 in
set_option maxRecDepth 100000 in
theorem bd_M_like_0 {p : Program} {l : Launch} {e : Env} {s : State} {m : MethodId} {args : Array Value} {below : List Frame} {meth : Method} {c : Code} {Q : State → Prop} {A : Nat → Prop} {dC : Nat → ClassId} {dI : Nat → Nat → Nat} {k h : Nat → Nat} {g : Nat → ClassId} {ss : Int32} {sa : Int32} {so : Int32} {pl : Int32} {si : Int32} {fa : Int32} {li : Int32} {co : Int32} {st : Int32} {rq : Int32} {bl : Int32} {te : Int32} {op : Int32} {wo : Nat → Int64} {le : Nat → Int64} {wz : Nat → Int32} {sr : Nat → Int32} {tx : Nat → Int32} {ro : Nat → Int32} (hx : p.tables.exec = Jvm.exec) (hb : c.code = b_M_like) (hml : c.maxLocals = 2) (hown : s.vm.findClass "SieveDeskModel" = some m.cls) (ht : ∀ w ∈ TT, w.before args s = true) (hE : KE k A s s.heap) (hA : ∀ q : Nat, s.heap.size ≤ q → A q) (hK : va_K (dC, dI) cls (TM g) s) {w : Int32} (h_0 : 0 ≤ Int32.toInt w) (h_1 : Int32.toInt w ≤ 54) (fin : ∀ (r : Int32) (u : Unit) (H : Heap) (locs : List Loc) (pc : Nat) (ls : Array Slot), decode b_M_like pc = .ok (.ireturn, 1) → narrow .boolean (.int r) = .int r → (narrow .boolean (.int r) = .int r) → va_P (dC, dI) cls (ME h g ss sa so pl si fa li co st rq bl te op wo wz sr le tx ro) H → va_D A (ME h g ss sa so pl si fa li co st rq bl te op wo wz sr le tx ro) → va_S A s.heap H locs → W p l e ({ frames := 1, cells := 0, slots := 0, locals := 25 } : Room) s m args below meth c H locs 0 0 Q (F0 m pc ls [.int r])) : ∀ (H : Heap) (locs : List Loc) (ls : Array Slot), va_P (dC, dI) cls (ME h g ss sa so pl si fa li co st rq bl te op wo wz sr le tx ro) H → va_D A (ME h g ss sa so pl si fa li co st rq bl te op wo wz sr le tx ro) → va_S A s.heap H locs → lv_has ls 2 [(0, .ref (h 0)), (1, .int w)] → W p l e ({ frames := 1, cells := 0, slots := 0, locals := 25 } : Room) s m args below meth c H locs 0 0 Q (F0 m 0 ls []) := by
  intro H locs ls hP hD hS hl
  refine lv_aload_n hx hb d_M_like_0 rfl (lv_at hl 0 rfl) ?_
  refine lv_iload_n hx hb d_M_like_1 rfl (lv_at hl 1 rfl) ?_
  refine lv_iconst (v := 1) hx hb d_M_like_2 (by decide) ?_
  have hc_1 : Int32.toInt 1 = 1 := by decide
  have hFc := va_free (wc := (ME h g ss sa so pl si fa li co st rq bl te op wo wz sr le tx ro)) hD hS hA [0, 1, 2, 3, 4, 5, 6] rfl
  refine va_calli (va_runV (As := [.int w, .int 1]) (rest := []) ⟨hx, hb, hml, hown, ht⟩ (c_M_which l dC dI k h g ss sa so pl si fa li co st rq bl te op wo le wz sr tx ro w 1 _ (by omega) (by omega) (by omega) ) (cwV 2 ht (g_V k_738 k_740 k_45 k_80 k_741) rfl rfl rfl (by decide +kernel) ⟨(Nat.le_of_ble_eq_true rfl), (Nat.le_of_ble_eq_true rfl)⟩) ⟨fb_X, va_recv hK hP (ci := 4) (q0 := 0) rfl rfl, pre_X hE hS hFc hP hK hD⟩ rfl rfl hl.1 rfl (lv_room (Nat.le_of_ble_eq_true rfl)) d_M_like_3 ⟨(Nat.le_of_ble_eq_true rfl), (Nat.le_of_ble_eq_true rfl)⟩) hS (fun q _ h9 => hFc q h9) hFc (fun r_2 u_1 t H locs het hvm hw hB hz1 hk1 hS => ?_)
  have p_3 := hw
  obtain ⟨hP1, hK1, hD1⟩ := hB
  rw [het] at hP1
  have hP : va_P (dC, dI) cls (ME h g ss sa so pl si fa li co st rq bl te op wo wz sr le tx ro) H := hP1
  have hD : va_D A (ME h g ss sa so pl si fa li co st rq bl te op wo wz sr le tx ro) := hD1.weaken (fun _ _ _ h9 => hFc _ h9)
  refine lv_iload_n hx hb d_M_like_6 rfl (lv_at hl 1 rfl) ?_
  refine lv_icmp_ne (tgt := 14) hx hb d_M_like_7 (by decide) (fun c_4 => ?_) (fun c_4 => ?_)
  · have dc_4 := i_ne c_4 rfl rfl
    refine lv_iconst (v := 0) hx hb d_M_like_14 (by decide) ?_
    have hc_0 : Int32.toInt 0 = 0 := by decide
    exact fin 0 () _ _ _ ls d_M_like_15 rfl rfl hP hD hS
  · have dc_4 := i_eq c_4 rfl rfl
    refine lv_iconst (v := 1) hx hb d_M_like_10 (by decide) ?_
    refine lv_goto (tgt := 15) hx hb d_M_like_11 (by decide) ?_
    exact fin 1 () _ _ _ ls d_M_like_15 rfl rfl hP hD hS
set_option maxHeartbeats 4000000 in
set_option maxRecDepth 100000 in
theorem c_M_like (l : Launch) (dC : Nat → ClassId) (dI : Nat → Nat → Nat) (k : Nat → Nat) (h : Nat → Nat) (g : Nat → ClassId) (ss : Int32) (sa : Int32) (so : Int32) (pl : Int32) (si : Int32) (fa : Int32) (li : Int32) (co : Int32) (st : Int32) (rq : Int32) (bl : Int32) (te : Int32) (op : Int32) (wo : Nat → Int64) (le : Nat → Int64) (wz : Nat → Int32) (sr : Nat → Int32) (tx : Nat → Int32) (ro : Nat → Int32) (w : Int32) (sz : Nat) (h_0 : 0 ≤ Int32.toInt w) (h_1 : Int32.toInt w ≤ 54)  : Met l y_M_like (.code y_M_like b_M_like 2 (some .boolean) :: TT) ({ frames := 1, cells := 0, slots := 0, locals := 25 }) (va_Pc [.ref (h 0), .int w] (PX dC dI k (TM g) (ME h g ss sa so pl si fa li co st rq bl te op wo wz sr le tx ro) sz)) (va_Qi (fun (r : Int32) (u : Unit) => narrow .boolean (.int r) = .int r) (fun u t => BX dC dI (TM g) (va_A (ME h g ss sa so pl si fa li co st rq bl te op wo wz sr le tx ro) sz) (ME h g ss sa so pl si fa li co st rq bl te op wo wz sr le tx ro) t) (va_A (ME h g ss sa so pl si fa li co st rq bl te op wo wz sr le tx ro) sz)) 0 0 (va_A (ME h g ss sa so pl si fa li co st rq bl te op wo wz sr le tx ro) sz) := by
  refine Met.ofW (cc := b_M_like) (maxL := 2) (ret := (some .boolean)) (by decide) rfl ?_
  intro p e s m args below meth c s₁ B hml hv
  obtain ⟨rfl, hsz, hE, hP, hK, hD0⟩ := hv
  have hx := B.exec
  have hb := B.bytes
  have hr := B.returns
  have ht : ∀ w ∈ TT, w.before _ s = true := fun w hw => atoms_spec (ws := .code y_M_like b_M_like 2 (some .boolean) :: TT) B.pre w (List.mem_cons_of_mem _ hw)
  have hown : s.vm.findClass "SieveDeskModel" = some m.cls := findClass_of_methodNamed B.named
  have hlocks := B.notSynchronized
  subst hsz
  have hD := hD0.self (sz := s.heap.size)
  generalize hAe : va_A (ME h g ss sa so pl si fa li co st rq bl te op wo wz sr le tx ro) s.heap.size = A at hE hD ⊢
  have hA : ∀ q : Nat, s.heap.size ≤ q → A q := fun q h9 => by rw [← hAe]; exact Or.inr h9
  have hS : va_S A s.heap s.heap [] := va_S.rf
  have hl := lv_entry ([.ref (h 0), .int w]) (n := 2) (Nat.le_of_ble_eq_true rfl)
  rw [lg_entry_eq]
  generalize (lg_sl ([.ref (h 0), .int w]) ++ List.replicate (2 - (lg_sl ([.ref (h 0), .int w])).length) Slot.unset).toArray = ls at hl ⊢
  have hl : lv_has ls 2 [(0, .ref (h 0)), (1, .int w)] := hl
  exact bd_M_like_0 (w := w) hx hb hml hown ht hE hA hK h_0 h_1 (fun r u H locs pc ls hd hn hp hP hD hS => W.zret hx hb hr hn (fun t het hW => ⟨⟨r, u, rfl, hp, by rw [het]; exact hP, va_K.moved hW.alike hK, hD⟩, hS.F het⟩) hS.2.2 hd)   _ _ ls hP hD hS hl

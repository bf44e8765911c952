set_option maxHeartbeats 4000000 in
set_option maxRecDepth 100000 in
theorem bd_M_push_0 {p : Program} {l : Launch} {e : Env} {s : State} {m : MethodId} {args : Array Value} {below : List Frame} {meth : Method} {c : Code} {Q : State → Prop} {A : Nat → Prop} {dC : Nat → ClassId} {dI : Nat → Nat → Nat} {k h : Nat → Nat} {g : Nat → ClassId} {ss : Int32} {sa : Int32} {so : Int32} {pl : Int32} {si : Int32} {fa : Int32} {li : Int32} {co : Int32} {st : Int32} {rq : Int32} {bl : Int32} {te : Int32} {wo : Nat → Int64} {le : Nat → Int64} {wz : Nat → Int32} {sr : Nat → Int32} {tx : Nat → Int32} {op0 : Int32} {ro0 : Nat → Int32} (hx : p.tables.exec = Jvm.exec) (hb : c.code = b_M_push) (hml : c.maxLocals = 2) (hown : s.vm.findClass "SieveDeskModel" = some m.cls) (ht : ∀ w ∈ TT, w.before args s = true) (hE : KE k A s s.heap) (hA : ∀ q : Nat, s.heap.size ≤ q → A q) (hK : va_K (dC, dI) cls (TM g) s) {x : Nat} (h_0 : -1 ≤ Int32.toInt fa) (h_1 : Int32.toInt fa ≤ 400) (fin : ∀ (u : Int32 × (Nat → Int32)) (H : Heap) (locs : List Loc) (pc : Nat) (ls : Array Slot), decode b_M_push pc = .ok (.return_, 1) → ((Int32.toInt fa < 0 ∨ (Int32.toInt so = 0 ∧ Int32.toInt u.1 = 0)) ∧ ((0 ≤ Int32.toInt fa ∧ u.1 = op0 ∧ u.2 = ro0) ∨ (Int32.toInt fa < 0 ∧ Int32.toInt u.1 = Int32.toInt op0 + 1 ∧ u.2 = upd ro0 (Int32.toNatClampNeg op0) (nI x)))) → va_P (dC, dI) cls (ME h g ss sa so pl si fa li co st rq bl te u.1 wo wz sr le tx u.2) H → va_D A (ME h g ss sa so pl si fa li co st rq bl te u.1 wo wz sr le tx u.2) → va_S A s.heap H locs → W p l e ({ frames := 0, cells := 0, slots := 0, locals := 0 } : Room) s m args below meth c H locs 0 0 Q (F0 m pc ls [])) : ∀ (op : Int32) (ro : Nat → Int32), op = op0 → ro = ro0 → (Int32.toInt fa < 0 ∨ (Int32.toInt so = 0 ∧ Int32.toInt op = 0)) → (0 ≤ Int32.toInt fa ∨ (0 ≤ Int32.toInt op ∧ Int32.toInt op ≤ 79)) → ∀ (H : Heap) (locs : List Loc) (ls : Array Slot), va_P (dC, dI) cls (ME h g ss sa so pl si fa li co st rq bl te op wo wz sr le tx ro) H → va_D A (ME h g ss sa so pl si fa li co st rq bl te op wo wz sr le tx ro) → va_S A s.heap H locs → lv_has ls 2 [(0, .ref (h 0)), (1, .int (nI x))] → W p l e ({ frames := 0, cells := 0, slots := 0, locals := 0 } : Room) s m args below meth c H locs 0 0 Q (F0 m 0 ls []) := by
  intro op ro v_0 v_1 v_2 v_3 H locs ls hP hD hS hl
  subst v_0
  subst v_1
  refine lv_aload_n hx hb d_M_push_0 rfl (lv_at hl 0 rfl) ?_
  refine va_get (D := (dC, dI)) (ci := 4) (v := .int fa) (C := "SieveDeskModel") (T := F_M) (N := 19) hx hb ht i_M hown hK hP 0 rfl rfl 10 (by decide) (ht _ k_637) (fun _ h9 => h9) rfl d_M_push_1 ?_
  refine lv_if_lt (tgt := 8) hx hb d_M_push_4 (by decide) (fun c_1 => ?_) (fun c_1 => ?_)
  · have dc_1 := i_lt c_1 rfl (show Int32.toInt 0 = 0 by decide)
    refine lv_aload_n hx hb d_M_push_8 rfl (lv_at hl 0 rfl) ?_
    refine va_get (D := (dC, dI)) (ci := 4) (v := .ref (h 6)) (C := "SieveDeskModel") (T := F_M) (N := 19) hx hb ht i_M hown hK hP 0 rfl rfl 18 (by decide) (ht _ k_645) (fun _ h9 => h9) rfl d_M_push_9 ?_
    refine lv_aload_n hx hb d_M_push_12 rfl (lv_at hl 0 rfl) ?_
    refine va_get (D := (dC, dI)) (ci := 4) (v := .int op) (C := "SieveDeskModel") (T := F_M) (N := 19) hx hb ht i_M hown hK hP 0 rfl rfl 17 (by decide) (ht _ k_644) (fun _ h9 => h9) rfl d_M_push_13 ?_
    refine lv_iload_n hx hb d_M_push_16 rfl (lv_at hl 1 rfl) ?_
    refine va_iast hx hb hK hP hD hS 6 5 rfl rfl (i_in rfl (by omega) (by omega)) d_M_push_17 (fun H locs hP hD hS => ?_)
    have hP : va_P (dC, dI) cls (ME h g ss sa so pl si fa li co st rq bl te op wo wz sr le tx (upd ro (Int32.toNatClampNeg op) (nI x))) H := hP
    have hD : va_D A (ME h g ss sa so pl si fa li co st rq bl te op wo wz sr le tx (upd ro (Int32.toNatClampNeg op) (nI x))) := hD
    refine lv_aload_n hx hb d_M_push_18 rfl (lv_at hl 0 rfl) ?_
    refine lv_aload_n hx hb d_M_push_19 rfl (lv_at hl 0 rfl) ?_
    refine va_get (D := (dC, dI)) (ci := 4) (v := .int op) (C := "SieveDeskModel") (T := F_M) (N := 19) hx hb ht i_M hown hK hP 0 rfl rfl 17 (by decide) (ht _ k_644) (fun _ h9 => h9) rfl d_M_push_20 ?_
    refine lv_iconst (v := 1) hx hb d_M_push_23 (by decide) ?_
    refine lv_iadd hx hb d_M_push_24 ?_
    have e_2 : Int32.toInt (op + 1) = (Int32.toInt op) + 1 := i_add rfl (show Int32.toInt 1 = 1 by decide) (by omega) (by omega)
    refine va_put (D := (dC, dI)) (ci := 4) (v := .int (op + 1)) (ty := .int) (C := "SieveDeskModel") (T := F_M) (N := 19) hx hb ht i_M ty_M ty_M_ok n_M hown hK hP hD hS 0 rfl rfl 17 (by decide) (ht _ k_644) (fun _ h9 => h9) rfl (ty_M_ok 17 (by decide)) rfl rfl (Nat.le_of_ble_eq_true rfl) d_M_push_25 (fun H locs hP hD hS => ?_)
    have hP : va_P (dC, dI) cls (ME h g ss sa so pl si fa li co st rq bl te (op + 1) wo wz sr le tx (upd ro (Int32.toNatClampNeg op) (nI x))) H := hP
    have hD : va_D A (ME h g ss sa so pl si fa li co st rq bl te (op + 1) wo wz sr le tx (upd ro (Int32.toNatClampNeg op) (nI x))) := hD
    exact fin  ((op + 1), (upd ro (Int32.toNatClampNeg op) (nI x))) _ _ _ ls d_M_push_28 ⟨(by (try dsimp only); omega), (Or.inr ⟨by omega, by (try dsimp only); omega, rfl⟩)⟩ hP hD hS
  · have dc_1 := i_nlt c_1 rfl (show Int32.toInt 0 = 0 by decide)
    exact fin  (op, ro) _ _ _ ls d_M_push_7 ⟨(by (try dsimp only); omega), (Or.inl ⟨by omega, rfl, rfl⟩)⟩ hP hD hS
set_option maxHeartbeats 4000000 in
set_option maxRecDepth 100000 in
theorem c_M_push (l : Launch) (dC : Nat → ClassId) (dI : Nat → Nat → Nat) (k : Nat → Nat) (h : Nat → Nat) (g : Nat → ClassId) (ss : Int32) (sa : Int32) (so : Int32) (pl : Int32) (si : Int32) (fa : Int32) (li : Int32) (co : Int32) (st : Int32) (rq : Int32) (bl : Int32) (te : Int32) (op : Int32) (wo : Nat → Int64) (le : Nat → Int64) (wz : Nat → Int32) (sr : Nat → Int32) (tx : Nat → Int32) (ro : Nat → Int32) (x : Nat) (sz : Nat) (h_0 : -1 ≤ Int32.toInt fa) (h_1 : Int32.toInt fa ≤ 400) (v_0 : Int32.toInt fa < 0 ∨ (Int32.toInt so = 0 ∧ Int32.toInt op = 0)) (v_1 : 0 ≤ Int32.toInt fa ∨ (0 ≤ Int32.toInt op ∧ Int32.toInt op ≤ 79)) : Met l y_M_push (.code y_M_push b_M_push 2 none :: TT) ({ frames := 0, cells := 0, slots := 0, locals := 0 }) (va_Pc [.ref (h 0), .int (nI x)] (PX dC dI k (TM g) (ME h g ss sa so pl si fa li co st rq bl te op wo wz sr le tx ro) sz)) (va_Qv (fun u : Int32 × (Nat → Int32) => (Int32.toInt fa < 0 ∨ (Int32.toInt so = 0 ∧ Int32.toInt u.1 = 0)) ∧ ((0 ≤ Int32.toInt fa ∧ u.1 = op ∧ u.2 = ro) ∨ (Int32.toInt fa < 0 ∧ Int32.toInt u.1 = Int32.toInt op + 1 ∧ u.2 = upd ro (Int32.toNatClampNeg op) (nI x)))) (fun u t => BX dC dI (TM g) (va_A (ME h g ss sa so pl si fa li co st rq bl te op wo wz sr le tx ro) sz) (ME h g ss sa so pl si fa li co st rq bl te u.1 wo wz sr le tx u.2) t) (va_A (ME h g ss sa so pl si fa li co st rq bl te op wo wz sr le tx ro) sz)) 0 0 (va_A (ME h g ss sa so pl si fa li co st rq bl te op wo wz sr le tx ro) sz) := by
  refine Met.ofW (cc := b_M_push) (maxL := 2) (ret := none) (by decide) rfl ?_
  intro p e s m args below meth c s₁ B hml hv
  obtain ⟨rfl, hsz, hE, hP, hK, hD0⟩ := hv
  have hx := B.exec
  have hb := B.bytes
  have hr := B.returns
  have ht : ∀ w ∈ TT, w.before _ s = true := fun w hw => atoms_spec (ws := .code y_M_push b_M_push 2 none :: TT) B.pre w (List.mem_cons_of_mem _ hw)
  have hown : s.vm.findClass "SieveDeskModel" = some m.cls := findClass_of_methodNamed B.named
  have hlocks := B.notSynchronized
  subst hsz
  have hD := hD0.self (sz := s.heap.size)
  generalize hAe : va_A (ME h g ss sa so pl si fa li co st rq bl te op wo wz sr le tx ro) s.heap.size = A at hE hD ⊢
  have hA : ∀ q : Nat, s.heap.size ≤ q → A q := fun q h9 => by rw [← hAe]; exact Or.inr h9
  have hS : va_S A s.heap s.heap [] := va_S.rf
  have hl := lv_entry ([.ref (h 0), .int (nI x)]) (n := 2) (Nat.le_of_ble_eq_true rfl)
  rw [lg_entry_eq]
  generalize (lg_sl ([.ref (h 0), .int (nI x)]) ++ List.replicate (2 - (lg_sl ([.ref (h 0), .int (nI x)])).length) Slot.unset).toArray = ls at hl ⊢
  have hl : lv_has ls 2 [(0, .ref (h 0)), (1, .int (nI x))] := hl
  exact bd_M_push_0 (x := x) hx hb hml hown ht hE hA hK h_0 h_1 (fun u H locs pc ls hd hp hP hD hS => W.vret hx hb hr (fun t het hW => ⟨⟨u, rfl, hp, by rw [het]; exact hP, va_K.moved hW.alike hK, hD⟩, hS.F het⟩) hS.2.2 hd) op ro rfl rfl v_0 v_1 _ _ ls hP hD hS hl

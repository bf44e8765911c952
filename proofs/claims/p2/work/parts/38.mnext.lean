set_option maxHeartbeats 4000000 in
set_option maxRecDepth 100000 in
theorem bd_M_fail_0 {p : Program} {l : Launch} {e : Env} {s : State} {m : MethodId} {args : Array Value} {below : List Frame} {meth : Method} {c : Code} {Q : State → Prop} {A : Nat → Prop} {dC : Nat → ClassId} {dI : Nat → Nat → Nat} {k h : Nat → Nat} {g : Nat → ClassId} {ss : Int32} {sa : Int32} {pl : Int32} {si : Int32} {li : Int32} {co : Int32} {st : Int32} {rq : Int32} {bl : Int32} {te : Int32} {wo : Nat → Int64} {le : Nat → Int64} {wz : Nat → Int32} {sr : Nat → Int32} {tx : Nat → Int32} {ro : Nat → Int32} (hx : p.tables.exec = Jvm.exec) (hb : c.code = b_M_fail) (hml : c.maxLocals = 1) (hown : s.vm.findClass "SieveDeskModel" = some m.cls) (ht : ∀ w ∈ TT, w.before args s = true) (hE : KE k A s s.heap) (hA : ∀ q : Nat, s.heap.size ≤ q → A q) (hK : va_K (dC, dI) cls (TM g) s)  (h_0 : 0 ≤ Int32.toInt pl) (h_1 : Int32.toInt pl ≤ 400) (fin : ∀ (u : Int32 × Int32 × Int32) (H : Heap) (locs : List Loc) (pc : Nat) (ls : Array Slot), decode b_M_fail pc = .ok (.return_, 1) → (-1 ≤ Int32.toInt u.2.1 ∧ Int32.toInt u.2.1 ≤ 400 ∧ (Int32.toInt u.2.1 < 0 ∨ (Int32.toInt u.1 = 0 ∧ Int32.toInt u.2.2 = 0)) ∧ 0 ≤ Int32.toInt u.2.1 ∧ Int32.toInt u.1 = 0 ∧ Int32.toInt u.2.2 = 0) → va_P (dC, dI) cls (ME h g ss sa u.1 pl si u.2.1 li co st rq bl te u.2.2 wo wz sr le tx ro) H → va_D A (ME h g ss sa u.1 pl si u.2.1 li co st rq bl te u.2.2 wo wz sr le tx ro) → va_S A s.heap H locs → W p l e ({ frames := 0, cells := 0, slots := 0, locals := 0 } : Room) s m args below meth c H locs 0 0 Q (F0 m pc ls [])) : ∀ (so : Int32) (fa : Int32) (op : Int32), -1 ≤ Int32.toInt fa → Int32.toInt fa ≤ 400 → ∀ (H : Heap) (locs : List Loc) (ls : Array Slot), va_P (dC, dI) cls (ME h g ss sa so pl si fa li co st rq bl te op wo wz sr le tx ro) H → va_D A (ME h g ss sa so pl si fa li co st rq bl te op wo wz sr le tx ro) → va_S A s.heap H locs → lv_has ls 1 [(0, .ref (h 0))] → W p l e ({ frames := 0, cells := 0, slots := 0, locals := 0 } : Room) s m args below meth c H locs 0 0 Q (F0 m 0 ls []) := by
  intro so fa op v_0 v_1 H locs ls hP hD hS hl
  refine lv_aload_n hx hb d_M_fail_0 rfl (lv_at hl 0 rfl) ?_
  refine lv_aload_n hx hb d_M_fail_1 rfl (lv_at hl 0 rfl) ?_
  refine va_get (D := (dC, dI)) (ci := 4) (v := .int fa) (C := "SieveDeskModel") (T := F_M) (N := 19) hx hb ht i_M hown hK hP 0 rfl rfl 10 (by decide) (ht _ k_637) (fun _ h9 => h9) rfl d_M_fail_2 ?_
  refine lv_if_ge (tgt := 15) hx hb d_M_fail_5 (by decide) (fun c_1 => ?_) (fun c_1 => ?_)
  · have dc_1 := i_le c_1 (show Int32.toInt 0 = 0 by decide) rfl
    refine lv_aload_n hx hb d_M_fail_15 rfl (lv_at hl 0 rfl) ?_
    refine va_get (D := (dC, dI)) (ci := 4) (v := .int fa) (C := "SieveDeskModel") (T := F_M) (N := 19) hx hb ht i_M hown hK hP 0 rfl rfl 10 (by decide) (ht _ k_637) (fun _ h9 => h9) rfl d_M_fail_16 ?_
    refine va_put (D := (dC, dI)) (ci := 4) (v := .int fa) (ty := .int) (C := "SieveDeskModel") (T := F_M) (N := 19) hx hb ht i_M ty_M ty_M_ok n_M hown hK hP hD hS 0 rfl rfl 10 (by decide) (ht _ k_637) (fun _ h9 => h9) rfl (ty_M_ok 10 (by decide)) rfl rfl (Nat.le_of_ble_eq_true rfl) d_M_fail_19 (fun H locs hP hD hS => ?_)
    have hP : va_P (dC, dI) cls (ME h g ss sa so pl si fa li co st rq bl te op wo wz sr le tx ro) H := hP
    have hD : va_D A (ME h g ss sa so pl si fa li co st rq bl te op wo wz sr le tx ro) := hD
    refine lv_aload_n hx hb d_M_fail_22 rfl (lv_at hl 0 rfl) ?_
    refine lv_iconst (v := 0) hx hb d_M_fail_23 (by decide) ?_
    refine va_put (D := (dC, dI)) (ci := 4) (v := .int 0) (ty := .int) (C := "SieveDeskModel") (T := F_M) (N := 19) hx hb ht i_M ty_M ty_M_ok n_M hown hK hP hD hS 0 rfl rfl 5 (by decide) (ht _ k_632) (fun _ h9 => h9) rfl (ty_M_ok 5 (by decide)) rfl rfl (Nat.le_of_ble_eq_true rfl) d_M_fail_24 (fun H locs hP hD hS => ?_)
    have hP : va_P (dC, dI) cls (ME h g ss sa 0 pl si fa li co st rq bl te op wo wz sr le tx ro) H := hP
    have hD : va_D A (ME h g ss sa 0 pl si fa li co st rq bl te op wo wz sr le tx ro) := hD
    refine lv_aload_n hx hb d_M_fail_27 rfl (lv_at hl 0 rfl) ?_
    refine lv_iconst (v := 0) hx hb d_M_fail_28 (by decide) ?_
    refine va_put (D := (dC, dI)) (ci := 4) (v := .int 0) (ty := .int) (C := "SieveDeskModel") (T := F_M) (N := 19) hx hb ht i_M ty_M ty_M_ok n_M hown hK hP hD hS 0 rfl rfl 17 (by decide) (ht _ k_644) (fun _ h9 => h9) rfl (ty_M_ok 17 (by decide)) rfl rfl (Nat.le_of_ble_eq_true rfl) d_M_fail_29 (fun H locs hP hD hS => ?_)
    have hP : va_P (dC, dI) cls (ME h g ss sa 0 pl si fa li co st rq bl te 0 wo wz sr le tx ro) H := hP
    have hD : va_D A (ME h g ss sa 0 pl si fa li co st rq bl te 0 wo wz sr le tx ro) := hD
    have hc_0 : Int32.toInt 0 = 0 := by decide
    exact fin  (0, fa, 0) _ _ _ ls d_M_fail_32 ⟨(by (try dsimp only); omega), (by (try dsimp only); omega), (by (try dsimp only); omega), (by (try dsimp only); omega), (by (try dsimp only); omega), (by (try dsimp only); omega)⟩ hP hD hS
  · have dc_1 := i_nle c_1 (show Int32.toInt 0 = 0 by decide) rfl
    refine lv_aload_n hx hb d_M_fail_8 rfl (lv_at hl 0 rfl) ?_
    refine va_get (D := (dC, dI)) (ci := 4) (v := .int pl) (C := "SieveDeskModel") (T := F_M) (N := 19) hx hb ht i_M hown hK hP 0 rfl rfl 6 (by decide) (ht _ k_633) (fun _ h9 => h9) rfl d_M_fail_9 ?_
    refine lv_goto (tgt := 19) hx hb d_M_fail_12 (by decide) ?_
    refine va_put (D := (dC, dI)) (ci := 4) (v := .int pl) (ty := .int) (C := "SieveDeskModel") (T := F_M) (N := 19) hx hb ht i_M ty_M ty_M_ok n_M hown hK hP hD hS 0 rfl rfl 10 (by decide) (ht _ k_637) (fun _ h9 => h9) rfl (ty_M_ok 10 (by decide)) rfl rfl (Nat.le_of_ble_eq_true rfl) d_M_fail_19 (fun H locs hP hD hS => ?_)
    have hP : va_P (dC, dI) cls (ME h g ss sa so pl si pl li co st rq bl te op wo wz sr le tx ro) H := hP
    have hD : va_D A (ME h g ss sa so pl si pl li co st rq bl te op wo wz sr le tx ro) := hD
    refine lv_aload_n hx hb d_M_fail_22 rfl (lv_at hl 0 rfl) ?_
    refine lv_iconst (v := 0) hx hb d_M_fail_23 (by decide) ?_
    refine va_put (D := (dC, dI)) (ci := 4) (v := .int 0) (ty := .int) (C := "SieveDeskModel") (T := F_M) (N := 19) hx hb ht i_M ty_M ty_M_ok n_M hown hK hP hD hS 0 rfl rfl 5 (by decide) (ht _ k_632) (fun _ h9 => h9) rfl (ty_M_ok 5 (by decide)) rfl rfl (Nat.le_of_ble_eq_true rfl) d_M_fail_24 (fun H locs hP hD hS => ?_)
    have hP : va_P (dC, dI) cls (ME h g ss sa 0 pl si pl li co st rq bl te op wo wz sr le tx ro) H := hP
    have hD : va_D A (ME h g ss sa 0 pl si pl li co st rq bl te op wo wz sr le tx ro) := hD
    refine lv_aload_n hx hb d_M_fail_27 rfl (lv_at hl 0 rfl) ?_
    refine lv_iconst (v := 0) hx hb d_M_fail_28 (by decide) ?_
    refine va_put (D := (dC, dI)) (ci := 4) (v := .int 0) (ty := .int) (C := "SieveDeskModel") (T := F_M) (N := 19) hx hb ht i_M ty_M ty_M_ok n_M hown hK hP hD hS 0 rfl rfl 17 (by decide) (ht _ k_644) (fun _ h9 => h9) rfl (ty_M_ok 17 (by decide)) rfl rfl (Nat.le_of_ble_eq_true rfl) d_M_fail_29 (fun H locs hP hD hS => ?_)
    have hP : va_P (dC, dI) cls (ME h g ss sa 0 pl si pl li co st rq bl te 0 wo wz sr le tx ro) H := hP
    have hD : va_D A (ME h g ss sa 0 pl si pl li co st rq bl te 0 wo wz sr le tx ro) := hD
    have hc_0 : Int32.toInt 0 = 0 := by decide
    exact fin  (0, pl, 0) _ _ _ ls d_M_fail_32 ⟨(by (try dsimp only); omega), (by (try dsimp only); omega), (by (try dsimp only); omega), (by (try dsimp only); omega), (by (try dsimp only); omega), (by (try dsimp only); omega)⟩ hP hD hS
set_option maxHeartbeats 4000000 in
set_option maxRecDepth 100000 in
theorem c_M_fail (l : Launch) (dC : Nat → ClassId) (dI : Nat → Nat → Nat) (k : Nat → Nat) (h : Nat → Nat) (g : Nat → ClassId) (ss : Int32) (sa : Int32) (so : Int32) (pl : Int32) (si : Int32) (fa : Int32) (li : Int32) (co : Int32) (st : Int32) (rq : Int32) (bl : Int32) (te : Int32) (op : Int32) (wo : Nat → Int64) (le : Nat → Int64) (wz : Nat → Int32) (sr : Nat → Int32) (tx : Nat → Int32) (ro : Nat → Int32)  (sz : Nat) (h_0 : 0 ≤ Int32.toInt pl) (h_1 : Int32.toInt pl ≤ 400) (v_0 : -1 ≤ Int32.toInt fa) (v_1 : Int32.toInt fa ≤ 400) : Met l y_M_fail (.code y_M_fail b_M_fail 1 none :: TT) ({ frames := 0, cells := 0, slots := 0, locals := 0 }) (va_Pc [.ref (h 0)] (PX dC dI k (TM g) (ME h g ss sa so pl si fa li co st rq bl te op wo wz sr le tx ro) sz)) (va_Qv (fun u : Int32 × Int32 × Int32 => -1 ≤ Int32.toInt u.2.1 ∧ Int32.toInt u.2.1 ≤ 400 ∧ (Int32.toInt u.2.1 < 0 ∨ (Int32.toInt u.1 = 0 ∧ Int32.toInt u.2.2 = 0)) ∧ 0 ≤ Int32.toInt u.2.1 ∧ Int32.toInt u.1 = 0 ∧ Int32.toInt u.2.2 = 0) (fun u t => BX dC dI (TM g) (va_A (ME h g ss sa so pl si fa li co st rq bl te op wo wz sr le tx ro) sz) (ME h g ss sa u.1 pl si u.2.1 li co st rq bl te u.2.2 wo wz sr le tx ro) t) (va_A (ME h g ss sa so pl si fa li co st rq bl te op wo wz sr le tx ro) sz)) 0 0 (va_A (ME h g ss sa so pl si fa li co st rq bl te op wo wz sr le tx ro) sz) := by
  refine Met.ofW (cc := b_M_fail) (maxL := 1) (ret := none) (by decide) rfl ?_
  intro p e s m args below meth c s₁ B hml hv
  obtain ⟨rfl, hsz, hE, hP, hK, hD0⟩ := hv
  have hx := B.exec
  have hb := B.bytes
  have hr := B.returns
  have ht : ∀ w ∈ TT, w.before _ s = true := fun w hw => atoms_spec (ws := .code y_M_fail b_M_fail 1 none :: TT) B.pre w (List.mem_cons_of_mem _ hw)
  have hown : s.vm.findClass "SieveDeskModel" = some m.cls := findClass_of_methodNamed B.named
  have hlocks := B.notSynchronized
  subst hsz
  have hD := hD0.self (sz := s.heap.size)
  generalize hAe : va_A (ME h g ss sa so pl si fa li co st rq bl te op wo wz sr le tx ro) s.heap.size = A at hE hD ⊢
  have hA : ∀ q : Nat, s.heap.size ≤ q → A q := fun q h9 => by rw [← hAe]; exact Or.inr h9
  have hS : va_S A s.heap s.heap [] := va_S.rf
  have hl := lv_entry ([.ref (h 0)]) (n := 1) (Nat.le_of_ble_eq_true rfl)
  rw [lg_entry_eq]
  generalize (lg_sl ([.ref (h 0)]) ++ List.replicate (1 - (lg_sl ([.ref (h 0)])).length) Slot.unset).toArray = ls at hl ⊢
  have hl : lv_has ls 1 [(0, .ref (h 0))] := hl
  exact bd_M_fail_0  hx hb hml hown ht hE hA hK h_0 h_1 (fun u H locs pc ls hd hp hP hD hS => W.vret hx hb hr (fun t het hW => ⟨⟨u, rfl, hp, by rw [het]; exact hP, va_K.moved hW.alike hK, hD⟩, hS.F het⟩) hS.2.2 hd) so fa op v_0 v_1 _ _ ls hP hD hS hl
set_option maxHeartbeats 4000000 in
set_option maxRecDepth 100000 in
theorem bd_M_next_0 {p : Program} {l : Launch} {e : Env} {s : State} {m : MethodId} {args : Array Value} {below : List Frame} {meth : Method} {c : Code} {Q : State → Prop} {A : Nat → Prop} {dC : Nat → ClassId} {dI : Nat → Nat → Nat} {k h : Nat → Nat} {g : Nat → ClassId} {ss : Int32} {li : Int32} {co : Int32} {st : Int32} {rq : Int32} {bl : Int32} {te : Int32} {wo : Nat → Int64} {wz : Nat → Int32} {sr : Nat → Int32} {ro : Nat → Int32} {sa0 : Int32} {so0 : Int32} {fa0 : Int32} {op0 : Int32} (hx : p.tables.exec = Jvm.exec) (hb : c.code = b_M_next) (hml : c.maxLocals = 2) (hown : s.vm.findClass "SieveDeskModel" = some m.cls) (ht : ∀ w ∈ TT, w.before args s = true) (hE : KE k A s s.heap) (hA : ∀ q : Nat, s.heap.size ≤ q → A q) (hK : va_K (dC, dI) cls (TM g) s)  (h_0 : 0 ≤ Int32.toInt ss) (h_1 : Int32.toInt ss ≤ 400) (fin : ∀ (u : Int32 × Int32 × Int32 × Int32 × Int32 × Int32 × (Nat → Int64) × (Nat → Int32)) (H : Heap) (locs : List Loc) (pc : Nat) (ls : Array Slot), decode b_M_next pc = .ok (.return_, 1) → (0 ≤ Int32.toInt u.1 ∧ Int32.toInt u.1 ≤ Int32.toInt ss ∧ 0 ≤ Int32.toInt u.2.2.1 ∧ Int32.toInt u.2.2.1 ≤ 400 ∧ -1 ≤ Int32.toInt u.2.2.2.1 ∧ Int32.toInt u.2.2.2.1 ≤ 400 ∧ (Int32.toInt u.2.2.2.1 < 0 ∨ (Int32.toInt u.2.1 = 0 ∧ Int32.toInt u.2.2.2.2.1 = 0)) ∧ 0 ≤ Int32.toInt u.2.2.2.2.2.1 ∧ Int32.toInt u.2.2.2.2.2.1 ≤ 400 ∧ PR ss sa0 so0 fa0 op0 u.1 u.2.1 u.2.2.2.1 u.2.2.2.2.1 ∧ (PS ss sa0 so0 fa0 op0 u.1 u.2.1 u.2.2.2.1 u.2.2.2.2.1 ∨ (Int32.toInt so0 = 0 ∧ Int32.toInt fa0 < 0))) → va_P (dC, dI) cls (ME h g ss u.1 u.2.1 u.2.2.1 u.2.2.2.2.2.1 u.2.2.2.1 li co st rq bl te u.2.2.2.2.1 wo wz sr u.2.2.2.2.2.2.1 u.2.2.2.2.2.2.2 ro) H → va_D A (ME h g ss u.1 u.2.1 u.2.2.1 u.2.2.2.2.2.1 u.2.2.2.1 li co st rq bl te u.2.2.2.2.1 wo wz sr u.2.2.2.2.2.2.1 u.2.2.2.2.2.2.2 ro) → va_S A s.heap H locs → W p l e ({ frames := 4, cells := 0, slots := 0, locals := 85 } : Room) s m args below meth c H locs 0 0 Q (F0 m pc ls [])) : ∀ (sa : Int32) (so : Int32) (pl : Int32) (fa : Int32) (op : Int32) (si : Int32) (le : Nat → Int64) (tx : Nat → Int32), sa = sa0 → so = so0 → fa = fa0 → op = op0 → 0 ≤ Int32.toInt sa → Int32.toInt sa ≤ Int32.toInt ss → 0 ≤ Int32.toInt pl → Int32.toInt pl ≤ 400 → -1 ≤ Int32.toInt fa → Int32.toInt fa ≤ 400 → (Int32.toInt fa < 0 ∨ (Int32.toInt so = 0 ∧ Int32.toInt op = 0)) → 0 ≤ Int32.toInt si → Int32.toInt si ≤ 400 → ∀ (H : Heap) (locs : List Loc) (ls : Array Slot), va_P (dC, dI) cls (ME h g ss sa so pl si fa li co st rq bl te op wo wz sr le tx ro) H → va_D A (ME h g ss sa so pl si fa li co st rq bl te op wo wz sr le tx ro) → va_S A s.heap H locs → lv_has ls 2 [(0, .ref (h 0))] → W p l e ({ frames := 4, cells := 0, slots := 0, locals := 85 } : Room) s m args below meth c H locs 0 0 Q (F0 m 0 ls []) := by
  intro sa so pl fa op si le tx v_0 v_1 v_2 v_3 v_4 v_5 v_6 v_7 v_8 v_9 v_10 v_11 v_12 H locs ls hP hD hS hl
  subst v_0
  subst v_1
  subst v_2
  subst v_3
  refine lv_aload_n hx hb d_M_next_0 rfl (lv_at hl 0 rfl) ?_
  refine va_get (D := (dC, dI)) (ci := 4) (v := .int fa) (C := "SieveDeskModel") (T := F_M) (N := 19) hx hb ht i_M hown hK hP 0 rfl rfl 10 (by decide) (ht _ k_637) (fun _ h9 => h9) rfl d_M_next_1 ?_
  refine lv_if_lt (tgt := 8) hx hb d_M_next_4 (by decide) (fun c_1 => ?_) (fun c_1 => ?_)
  · have dc_1 := i_lt c_1 rfl (show Int32.toInt 0 = 0 by decide)
    refine lv_aload_n hx hb d_M_next_8 rfl (lv_at hl 0 rfl) ?_
    have hFc := va_free (wc := (ME h g ss sa so pl si fa li co st rq bl te op wo wz sr le tx ro)) hD hS hA [0, 1, 2, 3, 4, 5, 6] rfl
    refine va_calli (va_runV (As := []) (rest := []) ⟨hx, hb, hml, hown, ht⟩ (c_M_skip l dC dI k h g ss sa so pl si fa li co st rq bl te op wo le wz sr tx ro  _ (by omega) (by omega) (by omega) (by omega)) (cwV 0 ht (g_V k_698 k_700 k_38 k_80 k_701) rfl rfl rfl (by decide +kernel) ⟨(Nat.le_of_ble_eq_true rfl), (Nat.le_of_ble_eq_true rfl)⟩) ⟨fb_X, va_recv hK hP (ci := 4) (q0 := 0) rfl rfl, pre_X hE hS hFc hP hK hD⟩ rfl rfl hl.1 rfl (lv_room (Nat.le_of_ble_eq_true rfl)) d_M_next_9 ⟨(Nat.le_of_ble_eq_true rfl), (Nat.le_of_ble_eq_true rfl)⟩) hS (fun q _ h9 => hFc q h9) hFc (fun r_3 sa_2 t H locs het hvm hw hB hz1 hk1 hS => ?_)
    obtain ⟨p_4, p_5, p_6, p_7⟩ := hw
    obtain ⟨hP1, hK1, hD1⟩ := hB
    rw [het] at hP1
    have hP : va_P (dC, dI) cls (ME h g ss sa_2 so pl si fa li co st rq bl te op wo wz sr le tx ro) H := hP1
    have hD : va_D A (ME h g ss sa_2 so pl si fa li co st rq bl te op wo wz sr le tx ro) := hD1.weaken (fun _ _ _ h9 => hFc _ h9)
    refine lv_istore_n (lv' := [(1, .int r_3), (0, .ref (h 0))]) hx hb d_M_next_12 rfl hl (by decide) rfl (fun ls hl => ?_)
    refine lv_aload_n hx hb d_M_next_13 rfl (lv_at hl 1 rfl) ?_
    refine lv_aload_n hx hb d_M_next_14 rfl (lv_at hl 1 rfl) ?_
    refine va_get (D := (dC, dI)) (ci := 4) (v := .int sa_2) (C := "SieveDeskModel") (T := F_M) (N := 19) hx hb ht i_M hown hK hP 0 rfl rfl 4 (by decide) (ht _ k_631) (fun _ h9 => h9) rfl d_M_next_15 ?_
    refine va_put (D := (dC, dI)) (ci := 4) (v := .int sa_2) (ty := .int) (C := "SieveDeskModel") (T := F_M) (N := 19) hx hb ht i_M ty_M ty_M_ok n_M hown hK hP hD hS 0 rfl rfl 6 (by decide) (ht _ k_633) (fun _ h9 => h9) rfl (ty_M_ok 6 (by decide)) rfl rfl (Nat.le_of_ble_eq_true rfl) d_M_next_18 (fun H locs hP hD hS => ?_)
    have hP : va_P (dC, dI) cls (ME h g ss sa_2 so sa_2 si fa li co st rq bl te op wo wz sr le tx ro) H := hP
    have hD : va_D A (ME h g ss sa_2 so sa_2 si fa li co st rq bl te op wo wz sr le tx ro) := hD
    refine lv_aload_n hx hb d_M_next_21 rfl (lv_at hl 1 rfl) ?_
    refine lv_iload_n hx hb d_M_next_22 rfl (lv_at hl 0 rfl) ?_
    refine lv_if_eq (tgt := 33) hx hb d_M_next_23 (by decide) (fun c_8 => ?_) (fun c_8 => ?_)
    · refine lv_iconst (v := 5) hx hb d_M_next_33 (by decide) ?_
      refine va_put (D := (dC, dI)) (ci := 4) (v := .int 5) (ty := .int) (C := "SieveDeskModel") (T := F_M) (N := 19) hx hb ht i_M ty_M ty_M_ok n_M hown hK hP hD hS 0 rfl rfl 5 (by decide) (ht _ k_632) (fun _ h9 => h9) rfl (ty_M_ok 5 (by decide)) rfl rfl (Nat.le_of_ble_eq_true rfl) d_M_next_34 (fun H locs hP hD hS => ?_)
      have hP : va_P (dC, dI) cls (ME h g ss sa_2 5 sa_2 si fa li co st rq bl te op wo wz sr le tx ro) H := hP
      have hD : va_D A (ME h g ss sa_2 5 sa_2 si fa li co st rq bl te op wo wz sr le tx ro) := hD
      refine lv_aload_n hx hb d_M_next_37 rfl (lv_at hl 1 rfl) ?_
      refine va_get (D := (dC, dI)) (ci := 4) (v := .int 5) (C := "SieveDeskModel") (T := F_M) (N := 19) hx hb ht i_M hown hK hP 0 rfl rfl 5 (by decide) (ht _ k_632) (fun _ h9 => h9) rfl d_M_next_38 ?_
      refine lv_iconst (v := 5) hx hb d_M_next_41 (by decide) ?_
      refine lv_icmp_ne (tgt := 49) hx hb d_M_next_42 (by decide) (fun cn => absurd (by decide) cn) (fun _ => ?_)
      refine lv_aload_n hx hb d_M_next_45 rfl (lv_at hl 1 rfl) ?_
      have hFc := va_free (wc := (ME h g ss sa_2 5 sa_2 si fa li co st rq bl te op wo wz sr le tx ro)) hD hS hA [0, 1, 2, 3, 4, 5, 6] rfl
      refine va_callv (va_runV (As := []) (rest := []) ⟨hx, hb, hml, hown, ht⟩ (c_M_fail l dC dI k h g ss sa_2 5 sa_2 si fa li co st rq bl te op wo le wz sr tx ro  _ (by omega) (by omega) (by omega) (by omega)) (cwV 0 ht (g_V k_763 k_765 k_50 k_80 k_766) rfl rfl rfl (by decide +kernel) ⟨(Nat.le_of_ble_eq_true rfl), (Nat.le_of_ble_eq_true rfl)⟩) ⟨fb_X, va_recv hK hP (ci := 4) (q0 := 0) rfl rfl, pre_X hE hS hFc hP hK hD⟩ rfl rfl hl.1 rfl (lv_room (Nat.le_of_ble_eq_true rfl)) d_M_next_46 ⟨(Nat.le_of_ble_eq_true rfl), (Nat.le_of_ble_eq_true rfl)⟩) hS (fun q _ h9 => hFc q h9) hFc (fun u_12 t H locs het hvm hw hB hz1 hk1 hS => ?_)
      obtain ⟨so_9, fa_10, op_11⟩ := u_12
      try dsimp only at hw
      obtain ⟨p_14, p_15, p_16, p_17, p_18, p_19⟩ := hw
      obtain ⟨hP1, hK1, hD1⟩ := hB
      rw [het] at hP1
      have hP : va_P (dC, dI) cls (ME h g ss sa_2 so_9 sa_2 si fa_10 li co st rq bl te op_11 wo wz sr le tx ro) H := hP1
      have hD : va_D A (ME h g ss sa_2 so_9 sa_2 si fa_10 li co st rq bl te op_11 wo wz sr le tx ro) := hD1.weaken (fun _ _ _ h9 => hFc _ h9)
      exact fin  (sa_2, so_9, sa_2, fa_10, op_11, si, le, tx) _ _ _ ls d_M_next_49 ⟨(by (try dsimp only); omega), (by (try dsimp only); omega), (by (try dsimp only); omega), (by (try dsimp only); omega), (by (try dsimp only); omega), (by (try dsimp only); omega), (by (try dsimp only); omega), (by (try dsimp only); omega), (by (try dsimp only); omega), (pr_next (by (try dsimp only); omega) (by (try dsimp only); omega)), (ps_next (by (try dsimp only); omega) (by (try dsimp only); omega))⟩ hP hD hS
    · refine lv_aload_n hx hb d_M_next_26 rfl (lv_at hl 1 rfl) ?_
      have hFc := va_free (wc := (ME h g ss sa_2 so sa_2 si fa li co st rq bl te op wo wz sr le tx ro)) hD hS hA [0, 1, 2, 3, 4, 5, 6] rfl
      refine va_calli (va_runV (As := []) (rest := [.ref (h 0)]) ⟨hx, hb, hml, hown, ht⟩ (c_M_token l dC dI k h g ss sa_2 so sa_2 si fa li co st rq bl te op wo le wz sr tx ro  _ (by omega) (by omega) (by omega) (by omega) (by omega) (by omega)) (cwV 0 ht (g_V k_706 k_708 k_40 k_80 k_709) rfl rfl rfl (by decide +kernel) ⟨(Nat.le_of_ble_eq_true rfl), (Nat.le_of_ble_eq_true rfl)⟩) ⟨fb_X, va_recv hK hP (ci := 4) (q0 := 0) rfl rfl, pre_X hE hS hFc hP hK hD⟩ rfl rfl hl.1 rfl (lv_room (Nat.le_of_ble_eq_true rfl)) d_M_next_27 ⟨(Nat.le_of_ble_eq_true rfl), (Nat.le_of_ble_eq_true rfl)⟩) hS (fun q _ h9 => hFc q h9) hFc (fun r_25 u_24 t H locs het hvm hw hB hz1 hk1 hS => ?_)
      obtain ⟨sa_20, si_21, le_22, tx_23⟩ := u_24
      try dsimp only at hw
      obtain ⟨p_26, p_27, p_28, p_29, p_30, p_31⟩ := hw
      obtain ⟨hP1, hK1, hD1⟩ := hB
      rw [het] at hP1
      have hP : va_P (dC, dI) cls (ME h g ss sa_20 so sa_2 si_21 fa li co st rq bl te op wo wz sr le_22 tx_23 ro) H := hP1
      have hD : va_D A (ME h g ss sa_20 so sa_2 si_21 fa li co st rq bl te op wo wz sr le_22 tx_23 ro) := hD1.weaken (fun _ _ _ h9 => hFc _ h9)
      refine lv_goto (tgt := 34) hx hb d_M_next_30 (by decide) ?_
      refine va_put (D := (dC, dI)) (ci := 4) (v := .int r_25) (ty := .int) (C := "SieveDeskModel") (T := F_M) (N := 19) hx hb ht i_M ty_M ty_M_ok n_M hown hK hP hD hS 0 rfl rfl 5 (by decide) (ht _ k_632) (fun _ h9 => h9) rfl (ty_M_ok 5 (by decide)) rfl rfl (Nat.le_of_ble_eq_true rfl) d_M_next_34 (fun H locs hP hD hS => ?_)
      have hP : va_P (dC, dI) cls (ME h g ss sa_20 r_25 sa_2 si_21 fa li co st rq bl te op wo wz sr le_22 tx_23 ro) H := hP
      have hD : va_D A (ME h g ss sa_20 r_25 sa_2 si_21 fa li co st rq bl te op wo wz sr le_22 tx_23 ro) := hD
      refine lv_aload_n hx hb d_M_next_37 rfl (lv_at hl 1 rfl) ?_
      refine va_get (D := (dC, dI)) (ci := 4) (v := .int r_25) (C := "SieveDeskModel") (T := F_M) (N := 19) hx hb ht i_M hown hK hP 0 rfl rfl 5 (by decide) (ht _ k_632) (fun _ h9 => h9) rfl d_M_next_38 ?_
      refine lv_iconst (v := 5) hx hb d_M_next_41 (by decide) ?_
      refine lv_icmp_ne (tgt := 49) hx hb d_M_next_42 (by decide) (fun c_32 => ?_) (fun c_32 => ?_)
      · have dc_32 := i_ne c_32 rfl (show Int32.toInt 5 = 5 by decide)
        exact fin  (sa_20, r_25, sa_2, fa, op, si_21, le_22, tx_23) _ _ _ ls d_M_next_49 ⟨(by (try dsimp only); omega), (by (try dsimp only); omega), (by (try dsimp only); omega), (by (try dsimp only); omega), (by (try dsimp only); omega), (by (try dsimp only); omega), (by (try dsimp only); omega), (by (try dsimp only); omega), (by (try dsimp only); omega), (pr_next (by (try dsimp only); omega) (by (try dsimp only); omega)), (ps_next (by (try dsimp only); omega) (by (try dsimp only); omega))⟩ hP hD hS
      · have dc_32 := i_eq c_32 rfl (show Int32.toInt 5 = 5 by decide)
        refine lv_aload_n hx hb d_M_next_45 rfl (lv_at hl 1 rfl) ?_
        have hFc := va_free (wc := (ME h g ss sa_20 r_25 sa_2 si_21 fa li co st rq bl te op wo wz sr le_22 tx_23 ro)) hD hS hA [0, 1, 2, 3, 4, 5, 6] rfl
        refine va_callv (va_runV (As := []) (rest := []) ⟨hx, hb, hml, hown, ht⟩ (c_M_fail l dC dI k h g ss sa_20 r_25 sa_2 si_21 fa li co st rq bl te op wo le_22 wz sr tx_23 ro  _ (by omega) (by omega) (by omega) (by omega)) (cwV 0 ht (g_V k_763 k_765 k_50 k_80 k_766) rfl rfl rfl (by decide +kernel) ⟨(Nat.le_of_ble_eq_true rfl), (Nat.le_of_ble_eq_true rfl)⟩) ⟨fb_X, va_recv hK hP (ci := 4) (q0 := 0) rfl rfl, pre_X hE hS hFc hP hK hD⟩ rfl rfl hl.1 rfl (lv_room (Nat.le_of_ble_eq_true rfl)) d_M_next_46 ⟨(Nat.le_of_ble_eq_true rfl), (Nat.le_of_ble_eq_true rfl)⟩) hS (fun q _ h9 => hFc q h9) hFc (fun u_36 t H locs het hvm hw hB hz1 hk1 hS => ?_)
        obtain ⟨so_33, fa_34, op_35⟩ := u_36
        try dsimp only at hw
        obtain ⟨p_38, p_39, p_40, p_41, p_42, p_43⟩ := hw
        obtain ⟨hP1, hK1, hD1⟩ := hB
        rw [het] at hP1
        have hP : va_P (dC, dI) cls (ME h g ss sa_20 so_33 sa_2 si_21 fa_34 li co st rq bl te op_35 wo wz sr le_22 tx_23 ro) H := hP1
        have hD : va_D A (ME h g ss sa_20 so_33 sa_2 si_21 fa_34 li co st rq bl te op_35 wo wz sr le_22 tx_23 ro) := hD1.weaken (fun _ _ _ h9 => hFc _ h9)
        exact fin  (sa_20, so_33, sa_2, fa_34, op_35, si_21, le_22, tx_23) _ _ _ ls d_M_next_49 ⟨(by (try dsimp only); omega), (by (try dsimp only); omega), (by (try dsimp only); omega), (by (try dsimp only); omega), (by (try dsimp only); omega), (by (try dsimp only); omega), (by (try dsimp only); omega), (by (try dsimp only); omega), (by (try dsimp only); omega), (pr_next (by (try dsimp only); omega) (by (try dsimp only); omega)), (ps_next (by (try dsimp only); omega) (by (try dsimp only); omega))⟩ hP hD hS
  · have dc_1 := i_nlt c_1 rfl (show Int32.toInt 0 = 0 by decide)
    exact fin  (sa, so, pl, fa, op, si, le, tx) _ _ _ ls d_M_next_7 ⟨(by (try dsimp only); omega), (by (try dsimp only); omega), (by (try dsimp only); omega), (by (try dsimp only); omega), (by (try dsimp only); omega), (by (try dsimp only); omega), (by (try dsimp only); omega), (by (try dsimp only); omega), (by (try dsimp only); omega), (pr_next (by (try dsimp only); omega) (by (try dsimp only); omega)), (ps_next (by (try dsimp only); omega) (by (try dsimp only); omega))⟩ hP hD hS
set_option maxHeartbeats 4000000 in
set_option maxRecDepth 100000 in
theorem c_M_next (l : Launch) (dC : Nat → ClassId) (dI : Nat → Nat → Nat) (k : Nat → Nat) (h : Nat → Nat) (g : Nat → ClassId) (ss : Int32) (sa : Int32) (so : Int32) (pl : Int32) (si : Int32) (fa : Int32) (li : Int32) (co : Int32) (st : Int32) (rq : Int32) (bl : Int32) (te : Int32) (op : Int32) (wo : Nat → Int64) (le : Nat → Int64) (wz : Nat → Int32) (sr : Nat → Int32) (tx : Nat → Int32) (ro : Nat → Int32)  (sz : Nat) (h_0 : 0 ≤ Int32.toInt ss) (h_1 : Int32.toInt ss ≤ 400) (v_0 : 0 ≤ Int32.toInt sa) (v_1 : Int32.toInt sa ≤ Int32.toInt ss) (v_2 : 0 ≤ Int32.toInt pl) (v_3 : Int32.toInt pl ≤ 400) (v_4 : -1 ≤ Int32.toInt fa) (v_5 : Int32.toInt fa ≤ 400) (v_6 : Int32.toInt fa < 0 ∨ (Int32.toInt so = 0 ∧ Int32.toInt op = 0)) (v_7 : 0 ≤ Int32.toInt si) (v_8 : Int32.toInt si ≤ 400) : Met l y_M_next (.code y_M_next b_M_next 2 none :: TT) ({ frames := 4, cells := 0, slots := 0, locals := 85 }) (va_Pc [.ref (h 0)] (PX dC dI k (TM g) (ME h g ss sa so pl si fa li co st rq bl te op wo wz sr le tx ro) sz)) (va_Qv (fun u : Int32 × Int32 × Int32 × Int32 × Int32 × Int32 × (Nat → Int64) × (Nat → Int32) => 0 ≤ Int32.toInt u.1 ∧ Int32.toInt u.1 ≤ Int32.toInt ss ∧ 0 ≤ Int32.toInt u.2.2.1 ∧ Int32.toInt u.2.2.1 ≤ 400 ∧ -1 ≤ Int32.toInt u.2.2.2.1 ∧ Int32.toInt u.2.2.2.1 ≤ 400 ∧ (Int32.toInt u.2.2.2.1 < 0 ∨ (Int32.toInt u.2.1 = 0 ∧ Int32.toInt u.2.2.2.2.1 = 0)) ∧ 0 ≤ Int32.toInt u.2.2.2.2.2.1 ∧ Int32.toInt u.2.2.2.2.2.1 ≤ 400 ∧ PR ss sa so fa op u.1 u.2.1 u.2.2.2.1 u.2.2.2.2.1 ∧ (PS ss sa so fa op u.1 u.2.1 u.2.2.2.1 u.2.2.2.2.1 ∨ (Int32.toInt so = 0 ∧ Int32.toInt fa < 0))) (fun u t => BX dC dI (TM g) (va_A (ME h g ss sa so pl si fa li co st rq bl te op wo wz sr le tx ro) sz) (ME h g ss u.1 u.2.1 u.2.2.1 u.2.2.2.2.2.1 u.2.2.2.1 li co st rq bl te u.2.2.2.2.1 wo wz sr u.2.2.2.2.2.2.1 u.2.2.2.2.2.2.2 ro) t) (va_A (ME h g ss sa so pl si fa li co st rq bl te op wo wz sr le tx ro) sz)) 0 0 (va_A (ME h g ss sa so pl si fa li co st rq bl te op wo wz sr le tx ro) sz) := by
  refine Met.ofW (cc := b_M_next) (maxL := 2) (ret := none) (by decide) rfl ?_
  intro p e s m args below meth c s₁ B hml hv
  obtain ⟨rfl, hsz, hE, hP, hK, hD0⟩ := hv
  have hx := B.exec
  have hb := B.bytes
  have hr := B.returns
  have ht : ∀ w ∈ TT, w.before _ s = true := fun w hw => atoms_spec (ws := .code y_M_next b_M_next 2 none :: TT) B.pre w (List.mem_cons_of_mem _ hw)
  have hown : s.vm.findClass "SieveDeskModel" = some m.cls := findClass_of_methodNamed B.named
  have hlocks := B.notSynchronized
  subst hsz
  have hD := hD0.self (sz := s.heap.size)
  generalize hAe : va_A (ME h g ss sa so pl si fa li co st rq bl te op wo wz sr le tx ro) s.heap.size = A at hE hD ⊢
  have hA : ∀ q : Nat, s.heap.size ≤ q → A q := fun q h9 => by rw [← hAe]; exact Or.inr h9
  have hS : va_S A s.heap s.heap [] := va_S.rf
  have hl := lv_entry ([.ref (h 0)]) (n := 2) (Nat.le_of_ble_eq_true rfl)
  rw [lg_entry_eq]
  generalize (lg_sl ([.ref (h 0)]) ++ List.replicate (2 - (lg_sl ([.ref (h 0)])).length) Slot.unset).toArray = ls at hl ⊢
  have hl : lv_has ls 2 [(0, .ref (h 0))] := hl
  exact bd_M_next_0  hx hb hml hown ht hE hA hK h_0 h_1 (fun u H locs pc ls hd hp hP hD hS => W.vret hx hb hr (fun t het hW => ⟨⟨u, rfl, hp, by rw [het]; exact hP, va_K.moved hW.alike hK, hD⟩, hS.F het⟩) hS.2.2 hd) sa so pl fa op si le tx rfl rfl rfl rfl v_0 v_1 v_2 v_3 v_4 v_5 v_6 v_7 v_8 _ _ ls hP hD hS hl
set_option maxHeartbeats 4000000 in
set_option maxRecDepth 100000 in
theorem bd_M_is_0 {p : Program} {l : Launch} {e : Env} {s : State} {m : MethodId} {args : Array Value} {below : List Frame} {meth : Method} {c : Code} {Q : State → Prop} {A : Nat → Prop} {dC : Nat → ClassId} {dI : Nat → Nat → Nat} {k h : Nat → Nat} {g : Nat → ClassId} {ss : Int32} {sa : Int32} {so : Int32} {pl : Int32} {si : Int32} {fa : Int32} {li : Int32} {co : Int32} {st : Int32} {rq : Int32} {bl : Int32} {te : Int32} {op : Int32} {wo : Nat → Int64} {le : Nat → Int64} {wz : Nat → Int32} {sr : Nat → Int32} {tx : Nat → Int32} {ro : Nat → Int32} (hx : p.tables.exec = Jvm.exec) (hb : c.code = b_M_is) (hml : c.maxLocals = 2) (hown : s.vm.findClass "SieveDeskModel" = some m.cls) (ht : ∀ w ∈ TT, w.before args s = true) (hE : KE k A s s.heap) (hA : ∀ q : Nat, s.heap.size ≤ q → A q) (hK : va_K (dC, dI) cls (TM g) s) {q : Int32} (h_0 : -1 ≤ Int32.toInt fa) (h_1 : Int32.toInt fa ≤ 400) (fin : ∀ (r : Int32) (u : Unit) (H : Heap) (locs : List Loc) (pc : Nat) (ls : Array Slot), decode b_M_is pc = .ok (.ireturn, 1) → narrow .boolean (.int r) = .int r → (((Int32.toInt r = 1 ∧ Int32.toInt fa < 0 ∧ Int32.toInt so = Int32.toInt q) ∨ (Int32.toInt r = 0 ∧ (0 ≤ Int32.toInt fa ∨ Int32.toInt so ≠ Int32.toInt q))) ∧ narrow .boolean (.int r) = .int r) → va_P (dC, dI) cls (ME h g ss sa so pl si fa li co st rq bl te op wo wz sr le tx ro) H → va_D A (ME h g ss sa so pl si fa li co st rq bl te op wo wz sr le tx ro) → va_S A s.heap H locs → W p l e ({ frames := 0, cells := 0, slots := 0, locals := 0 } : Room) s m args below meth c H locs 0 0 Q (F0 m pc ls [.int r])) : ∀ (H : Heap) (locs : List Loc) (ls : Array Slot), va_P (dC, dI) cls (ME h g ss sa so pl si fa li co st rq bl te op wo wz sr le tx ro) H → va_D A (ME h g ss sa so pl si fa li co st rq bl te op wo wz sr le tx ro) → va_S A s.heap H locs → lv_has ls 2 [(0, .ref (h 0)), (1, .int q)] → W p l e ({ frames := 0, cells := 0, slots := 0, locals := 0 } : Room) s m args below meth c H locs 0 0 Q (F0 m 0 ls []) := by
  intro H locs ls hP hD hS hl
  refine lv_aload_n hx hb d_M_is_0 rfl (lv_at hl 0 rfl) ?_
  refine va_get (D := (dC, dI)) (ci := 4) (v := .int fa) (C := "SieveDeskModel") (T := F_M) (N := 19) hx hb ht i_M hown hK hP 0 rfl rfl 10 (by decide) (ht _ k_637) (fun _ h9 => h9) rfl d_M_is_1 ?_
  refine lv_if_ge (tgt := 19) hx hb d_M_is_4 (by decide) (fun c_1 => ?_) (fun c_1 => ?_)
  · have dc_1 := i_le c_1 (show Int32.toInt 0 = 0 by decide) rfl
    refine lv_iconst (v := 0) hx hb d_M_is_19 (by decide) ?_
    have hc_0 : Int32.toInt 0 = 0 := by decide
    exact fin 0 () _ _ _ ls d_M_is_20 rfl ⟨(by (try dsimp only); omega), rfl⟩ hP hD hS
  · have dc_1 := i_nle c_1 (show Int32.toInt 0 = 0 by decide) rfl
    refine lv_aload_n hx hb d_M_is_7 rfl (lv_at hl 0 rfl) ?_
    refine va_get (D := (dC, dI)) (ci := 4) (v := .int so) (C := "SieveDeskModel") (T := F_M) (N := 19) hx hb ht i_M hown hK hP 0 rfl rfl 5 (by decide) (ht _ k_632) (fun _ h9 => h9) rfl d_M_is_8 ?_
    refine lv_iload_n hx hb d_M_is_11 rfl (lv_at hl 1 rfl) ?_
    refine lv_icmp_ne (tgt := 19) hx hb d_M_is_12 (by decide) (fun c_2 => ?_) (fun c_2 => ?_)
    · have dc_2 := i_ne c_2 rfl rfl
      refine lv_iconst (v := 0) hx hb d_M_is_19 (by decide) ?_
      have hc_0 : Int32.toInt 0 = 0 := by decide
      exact fin 0 () _ _ _ ls d_M_is_20 rfl ⟨(by (try dsimp only); omega), rfl⟩ hP hD hS
    · have dc_2 := i_eq c_2 rfl rfl
      refine lv_iconst (v := 1) hx hb d_M_is_15 (by decide) ?_
      refine lv_goto (tgt := 20) hx hb d_M_is_16 (by decide) ?_
      have hc_1 : Int32.toInt 1 = 1 := by decide
      exact fin 1 () _ _ _ ls d_M_is_20 rfl ⟨(by (try dsimp only); omega), rfl⟩ hP hD hS
set_option maxHeartbeats 4000000 in
set_option maxRecDepth 100000 in
theorem c_M_is (l : Launch) (dC : Nat → ClassId) (dI : Nat → Nat → Nat) (k : Nat → Nat) (h : Nat → Nat) (g : Nat → ClassId) (ss : Int32) (sa : Int32) (so : Int32) (pl : Int32) (si : Int32) (fa : Int32) (li : Int32) (co : Int32) (st : Int32) (rq : Int32) (bl : Int32) (te : Int32) (op : Int32) (wo : Nat → Int64) (le : Nat → Int64) (wz : Nat → Int32) (sr : Nat → Int32) (tx : Nat → Int32) (ro : Nat → Int32) (q : Int32) (sz : Nat) (h_0 : -1 ≤ Int32.toInt fa) (h_1 : Int32.toInt fa ≤ 400)  : Met l y_M_is (.code y_M_is b_M_is 2 (some .boolean) :: TT) ({ frames := 0, cells := 0, slots := 0, locals := 0 }) (va_Pc [.ref (h 0), .int q] (PX dC dI k (TM g) (ME h g ss sa so pl si fa li co st rq bl te op wo wz sr le tx ro) sz)) (va_Qi (fun (r : Int32) (u : Unit) => ((Int32.toInt r = 1 ∧ Int32.toInt fa < 0 ∧ Int32.toInt so = Int32.toInt q) ∨ (Int32.toInt r = 0 ∧ (0 ≤ Int32.toInt fa ∨ Int32.toInt so ≠ Int32.toInt q))) ∧ narrow .boolean (.int r) = .int r) (fun u t => BX dC dI (TM g) (va_A (ME h g ss sa so pl si fa li co st rq bl te op wo wz sr le tx ro) sz) (ME h g ss sa so pl si fa li co st rq bl te op wo wz sr le tx ro) t) (va_A (ME h g ss sa so pl si fa li co st rq bl te op wo wz sr le tx ro) sz)) 0 0 (va_A (ME h g ss sa so pl si fa li co st rq bl te op wo wz sr le tx ro) sz) := by
  refine Met.ofW (cc := b_M_is) (maxL := 2) (ret := (some .boolean)) (by decide) rfl ?_
  intro p e s m args below meth c s₁ B hml hv
  obtain ⟨rfl, hsz, hE, hP, hK, hD0⟩ := hv
  have hx := B.exec
  have hb := B.bytes
  have hr := B.returns
  have ht : ∀ w ∈ TT, w.before _ s = true := fun w hw => atoms_spec (ws := .code y_M_is b_M_is 2 (some .boolean) :: TT) B.pre w (List.mem_cons_of_mem _ hw)
  have hown : s.vm.findClass "SieveDeskModel" = some m.cls := findClass_of_methodNamed B.named
  have hlocks := B.notSynchronized
  subst hsz
  have hD := hD0.self (sz := s.heap.size)
  generalize hAe : va_A (ME h g ss sa so pl si fa li co st rq bl te op wo wz sr le tx ro) s.heap.size = A at hE hD ⊢
  have hA : ∀ q : Nat, s.heap.size ≤ q → A q := fun q h9 => by rw [← hAe]; exact Or.inr h9
  have hS : va_S A s.heap s.heap [] := va_S.rf
  have hl := lv_entry ([.ref (h 0), .int q]) (n := 2) (Nat.le_of_ble_eq_true rfl)
  rw [lg_entry_eq]
  generalize (lg_sl ([.ref (h 0), .int q]) ++ List.replicate (2 - (lg_sl ([.ref (h 0), .int q])).length) Slot.unset).toArray = ls at hl ⊢
  have hl : lv_has ls 2 [(0, .ref (h 0)), (1, .int q)] := hl
  exact bd_M_is_0 (q := q) hx hb hml hown ht hE hA hK h_0 h_1 (fun r u H locs pc ls hd hn hp hP hD hS => W.zret hx hb hr hn (fun t het hW => ⟨⟨r, u, rfl, hp, by rw [het]; exact hP, va_K.moved hW.alike hK, hD⟩, hS.F het⟩) hS.2.2 hd)   _ _ ls hP hD hS hl
set_option maxHeartbeats 4000000 in
set_option maxRecDepth 100000 in
theorem bd_M_isSign_0 {p : Program} {l : Launch} {e : Env} {s : State} {m : MethodId} {args : Array Value} {below : List Frame} {meth : Method} {c : Code} {Q : State → Prop} {A : Nat → Prop} {dC : Nat → ClassId} {dI : Nat → Nat → Nat} {k h : Nat → Nat} {g : Nat → ClassId} {ss : Int32} {sa : Int32} {so : Int32} {pl : Int32} {si : Int32} {fa : Int32} {li : Int32} {co : Int32} {st : Int32} {rq : Int32} {bl : Int32} {te : Int32} {op : Int32} {wo : Nat → Int64} {le : Nat → Int64} {wz : Nat → Int32} {sr : Nat → Int32} {tx : Nat → Int32} {ro : Nat → Int32} (hx : p.tables.exec = Jvm.exec) (hb : c.code = b_M_isSign) (hml : c.maxLocals = 2) (hown : s.vm.findClass "SieveDeskModel" = some m.cls) (ht : ∀ w ∈ TT, w.before args s = true) (hE : KE k A s s.heap) (hA : ∀ q : Nat, s.heap.size ≤ q → A q) (hK : va_K (dC, dI) cls (TM g) s) {c1 : Int32} (h_0 : -1 ≤ Int32.toInt fa) (h_1 : Int32.toInt fa ≤ 400) (h_2 : 0 ≤ Int32.toInt c1) (h_3 : Int32.toInt c1 ≤ 1000) (fin : ∀ (r : Int32) (u : Unit) (H : Heap) (locs : List Loc) (pc : Nat) (ls : Array Slot), decode b_M_isSign pc = .ok (.ireturn, 1) → narrow .boolean (.int r) = .int r → (((Int32.toInt r = 1 ∧ Int32.toInt fa < 0 ∧ Int32.toInt so = 100 + Int32.toInt c1) ∨ (Int32.toInt r = 0 ∧ (0 ≤ Int32.toInt fa ∨ Int32.toInt so ≠ 100 + Int32.toInt c1))) ∧ narrow .boolean (.int r) = .int r) → va_P (dC, dI) cls (ME h g ss sa so pl si fa li co st rq bl te op wo wz sr le tx ro) H → va_D A (ME h g ss sa so pl si fa li co st rq bl te op wo wz sr le tx ro) → va_S A s.heap H locs → W p l e ({ frames := 1, cells := 0, slots := 0, locals := 21 } : Room) s m args below meth c H locs 0 0 Q (F0 m pc ls [.int r])) : ∀ (H : Heap) (locs : List Loc) (ls : Array Slot), va_P (dC, dI) cls (ME h g ss sa so pl si fa li co st rq bl te op wo wz sr le tx ro) H → va_D A (ME h g ss sa so pl si fa li co st rq bl te op wo wz sr le tx ro) → va_S A s.heap H locs → lv_has ls 2 [(0, .ref (h 0)), (1, .int c1)] → W p l e ({ frames := 1, cells := 0, slots := 0, locals := 21 } : Room) s m args below meth c H locs 0 0 Q (F0 m 0 ls []) := by
  intro H locs ls hP hD hS hl
  refine lv_aload_n hx hb d_M_isSign_0 rfl (lv_at hl 0 rfl) ?_
  refine lv_bipush (v := 100) hx hb d_M_isSign_1 (by decide) ?_
  refine lv_iload_n hx hb d_M_isSign_3 rfl (lv_at hl 1 rfl) ?_
  refine lv_iadd hx hb d_M_isSign_4 ?_
  have e_1 : Int32.toInt (100 + c1) = 100 + (Int32.toInt c1) := i_add (show Int32.toInt 100 = 100 by decide) rfl (by omega) (by omega)
  have hFc := va_free (wc := (ME h g ss sa so pl si fa li co st rq bl te op wo wz sr le tx ro)) hD hS hA [0, 1, 2, 3, 4, 5, 6] rfl
  refine va_calli (va_runV (As := [.int (100 + c1)]) (rest := []) ⟨hx, hb, hml, hown, ht⟩ (c_M_is l dC dI k h g ss sa so pl si fa li co st rq bl te op wo le wz sr tx ro (100 + c1) _ (by omega) (by omega) ) (cwV 1 ht (g_V k_771 k_773 k_52 k_80 k_774) rfl rfl rfl (by decide +kernel) ⟨(Nat.le_of_ble_eq_true rfl), (Nat.le_of_ble_eq_true rfl)⟩) ⟨fb_X, va_recv hK hP (ci := 4) (q0 := 0) rfl rfl, pre_X hE hS hFc hP hK hD⟩ rfl rfl hl.1 rfl (lv_room (Nat.le_of_ble_eq_true rfl)) d_M_isSign_5 ⟨(Nat.le_of_ble_eq_true rfl), (Nat.le_of_ble_eq_true rfl)⟩) hS (fun q _ h9 => hFc q h9) hFc (fun r_3 u_2 t H locs het hvm hw hB hz1 hk1 hS => ?_)
  obtain ⟨p_4, p_5⟩ := hw
  obtain ⟨hP1, hK1, hD1⟩ := hB
  rw [het] at hP1
  have hP : va_P (dC, dI) cls (ME h g ss sa so pl si fa li co st rq bl te op wo wz sr le tx ro) H := hP1
  have hD : va_D A (ME h g ss sa so pl si fa li co st rq bl te op wo wz sr le tx ro) := hD1.weaken (fun _ _ _ h9 => hFc _ h9)
  exact fin r_3 () _ _ _ ls d_M_isSign_8 p_5 ⟨(by (try dsimp only); omega), p_5⟩ hP hD hS
set_option maxHeartbeats 4000000 in
set_option maxRecDepth 100000 in
theorem c_M_isSign (l : Launch) (dC : Nat → ClassId) (dI : Nat → Nat → Nat) (k : Nat → Nat) (h : Nat → Nat) (g : Nat → ClassId) (ss : Int32) (sa : Int32) (so : Int32) (pl : Int32) (si : Int32) (fa : Int32) (li : Int32) (co : Int32) (st : Int32) (rq : Int32) (bl : Int32) (te : Int32) (op : Int32) (wo : Nat → Int64) (le : Nat → Int64) (wz : Nat → Int32) (sr : Nat → Int32) (tx : Nat → Int32) (ro : Nat → Int32) (c1 : Int32) (sz : Nat) (h_0 : -1 ≤ Int32.toInt fa) (h_1 : Int32.toInt fa ≤ 400) (h_2 : 0 ≤ Int32.toInt c1) (h_3 : Int32.toInt c1 ≤ 1000)  : Met l y_M_isSign (.code y_M_isSign b_M_isSign 2 (some .boolean) :: TT) ({ frames := 1, cells := 0, slots := 0, locals := 21 }) (va_Pc [.ref (h 0), .int c1] (PX dC dI k (TM g) (ME h g ss sa so pl si fa li co st rq bl te op wo wz sr le tx ro) sz)) (va_Qi (fun (r : Int32) (u : Unit) => ((Int32.toInt r = 1 ∧ Int32.toInt fa < 0 ∧ Int32.toInt so = 100 + Int32.toInt c1) ∨ (Int32.toInt r = 0 ∧ (0 ≤ Int32.toInt fa ∨ Int32.toInt so ≠ 100 + Int32.toInt c1))) ∧ narrow .boolean (.int r) = .int r) (fun u t => BX dC dI (TM g) (va_A (ME h g ss sa so pl si fa li co st rq bl te op wo wz sr le tx ro) sz) (ME h g ss sa so pl si fa li co st rq bl te op wo wz sr le tx ro) t) (va_A (ME h g ss sa so pl si fa li co st rq bl te op wo wz sr le tx ro) sz)) 0 0 (va_A (ME h g ss sa so pl si fa li co st rq bl te op wo wz sr le tx ro) sz) := by
  refine Met.ofW (cc := b_M_isSign) (maxL := 2) (ret := (some .boolean)) (by decide) rfl ?_
  intro p e s m args below meth c s₁ B hml hv
  obtain ⟨rfl, hsz, hE, hP, hK, hD0⟩ := hv
  have hx := B.exec
  have hb := B.bytes
  have hr := B.returns
  have ht : ∀ w ∈ TT, w.before _ s = true := fun w hw => atoms_spec (ws := .code y_M_isSign b_M_isSign 2 (some .boolean) :: TT) B.pre w (List.mem_cons_of_mem _ hw)
  have hown : s.vm.findClass "SieveDeskModel" = some m.cls := findClass_of_methodNamed B.named
  have hlocks := B.notSynchronized
  subst hsz
  have hD := hD0.self (sz := s.heap.size)
  generalize hAe : va_A (ME h g ss sa so pl si fa li co st rq bl te op wo wz sr le tx ro) s.heap.size = A at hE hD ⊢
  have hA : ∀ q : Nat, s.heap.size ≤ q → A q := fun q h9 => by rw [← hAe]; exact Or.inr h9
  have hS : va_S A s.heap s.heap [] := va_S.rf
  have hl := lv_entry ([.ref (h 0), .int c1]) (n := 2) (Nat.le_of_ble_eq_true rfl)
  rw [lg_entry_eq]
  generalize (lg_sl ([.ref (h 0), .int c1]) ++ List.replicate (2 - (lg_sl ([.ref (h 0), .int c1])).length) Slot.unset).toArray = ls at hl ⊢
  have hl : lv_has ls 2 [(0, .ref (h 0)), (1, .int c1)] := hl
  exact bd_M_isSign_0 (c1 := c1) hx hb hml hown ht hE hA hK h_0 h_1 h_2 h_3 (fun r u H locs pc ls hd hn hp hP hD hS => W.zret hx hb hr hn (fun t het hW => ⟨⟨r, u, rfl, hp, by rw [het]; exact hP, va_K.moved hW.alike hK, hD⟩, hS.F het⟩) hS.2.2 hd)   _ _ ls hP hD hS hl
set_option maxHeartbeats 4000000 in
set_option maxRecDepth 100000 in
theorem bd_M_isWord_0 {p : Program} {l : Launch} {e : Env} {s : State} {m : MethodId} {args : Array Value} {below : List Frame} {meth : Method} {c : Code} {Q : State → Prop} {A : Nat → Prop} {dC : Nat → ClassId} {dI : Nat → Nat → Nat} {k h : Nat → Nat} {g : Nat → ClassId} {ss : Int32} {sa : Int32} {so : Int32} {pl : Int32} {si : Int32} {fa : Int32} {li : Int32} {co : Int32} {st : Int32} {rq : Int32} {bl : Int32} {te : Int32} {op : Int32} {wo : Nat → Int64} {le : Nat → Int64} {wz : Nat → Int32} {sr : Nat → Int32} {tx : Nat → Int32} {ro : Nat → Int32} (hx : p.tables.exec = Jvm.exec) (hb : c.code = b_M_isWord) (hml : c.maxLocals = 2) (hown : s.vm.findClass "SieveDeskModel" = some m.cls) (ht : ∀ w ∈ TT, w.before args s = true) (hE : KE k A s s.heap) (hA : ∀ q : Nat, s.heap.size ≤ q → A q) (hK : va_K (dC, dI) cls (TM g) s) {w : Int32} (h_0 : -1 ≤ Int32.toInt fa) (h_1 : Int32.toInt fa ≤ 400) (h_2 : 0 ≤ Int32.toInt w) (h_3 : Int32.toInt w ≤ 54) (fin : ∀ (r : Int32) (u : Unit) (H : Heap) (locs : List Loc) (pc : Nat) (ls : Array Slot), decode b_M_isWord pc = .ok (.ireturn, 1) → narrow .boolean (.int r) = .int r → ((Int32.toInt r = 0 ∨ (Int32.toInt fa < 0 ∧ Int32.toInt so = 1)) ∧ narrow .boolean (.int r) = .int r) → va_P (dC, dI) cls (ME h g ss sa so pl si fa li co st rq bl te op wo wz sr le tx ro) H → va_D A (ME h g ss sa so pl si fa li co st rq bl te op wo wz sr le tx ro) → va_S A s.heap H locs → W p l e ({ frames := 2, cells := 0, slots := 0, locals := 46 } : Room) s m args below meth c H locs 0 0 Q (F0 m pc ls [.int r])) : ∀ (H : Heap) (locs : List Loc) (ls : Array Slot), va_P (dC, dI) cls (ME h g ss sa so pl si fa li co st rq bl te op wo wz sr le tx ro) H → va_D A (ME h g ss sa so pl si fa li co st rq bl te op wo wz sr le tx ro) → va_S A s.heap H locs → lv_has ls 2 [(0, .ref (h 0)), (1, .int w)] → W p l e ({ frames := 2, cells := 0, slots := 0, locals := 46 } : Room) s m args below meth c H locs 0 0 Q (F0 m 0 ls []) := by
  intro H locs ls hP hD hS hl
  refine lv_aload_n hx hb d_M_isWord_0 rfl (lv_at hl 0 rfl) ?_
  refine lv_iconst (v := 1) hx hb d_M_isWord_1 (by decide) ?_
  have hc_1 : Int32.toInt 1 = 1 := by decide
  have hFc := va_free (wc := (ME h g ss sa so pl si fa li co st rq bl te op wo wz sr le tx ro)) hD hS hA [0, 1, 2, 3, 4, 5, 6] rfl
  refine va_calli (va_runV (As := [.int 1]) (rest := []) ⟨hx, hb, hml, hown, ht⟩ (c_M_is l dC dI k h g ss sa so pl si fa li co st rq bl te op wo le wz sr tx ro 1 _ (by omega) (by omega) ) (cwV 1 ht (g_V k_771 k_773 k_52 k_80 k_774) rfl rfl rfl (by decide +kernel) ⟨(Nat.le_of_ble_eq_true rfl), (Nat.le_of_ble_eq_true rfl)⟩) ⟨fb_X, va_recv hK hP (ci := 4) (q0 := 0) rfl rfl, pre_X hE hS hFc hP hK hD⟩ rfl rfl hl.1 rfl (lv_room (Nat.le_of_ble_eq_true rfl)) d_M_isWord_2 ⟨(Nat.le_of_ble_eq_true rfl), (Nat.le_of_ble_eq_true rfl)⟩) hS (fun q _ h9 => hFc q h9) hFc (fun r_2 u_1 t H locs het hvm hw hB hz1 hk1 hS => ?_)
  obtain ⟨p_3, p_4⟩ := hw
  obtain ⟨hP1, hK1, hD1⟩ := hB
  rw [het] at hP1
  have hP : va_P (dC, dI) cls (ME h g ss sa so pl si fa li co st rq bl te op wo wz sr le tx ro) H := hP1
  have hD : va_D A (ME h g ss sa so pl si fa li co st rq bl te op wo wz sr le tx ro) := hD1.weaken (fun _ _ _ h9 => hFc _ h9)
  refine lv_if_eq (tgt := 20) hx hb d_M_isWord_5 (by decide) (fun c_5 => ?_) (fun c_5 => ?_)
  · have dc_5 := i_eq c_5 rfl (show Int32.toInt 0 = 0 by decide)
    refine lv_iconst (v := 0) hx hb d_M_isWord_20 (by decide) ?_
    have hc_0 : Int32.toInt 0 = 0 := by decide
    exact fin 0 () _ _ _ ls d_M_isWord_21 rfl ⟨(by (try dsimp only); omega), rfl⟩ hP hD hS
  · have dc_5 := i_ne c_5 rfl (show Int32.toInt 0 = 0 by decide)
    refine lv_aload_n hx hb d_M_isWord_8 rfl (lv_at hl 0 rfl) ?_
    refine lv_iload_n hx hb d_M_isWord_9 rfl (lv_at hl 1 rfl) ?_
    have hFc := va_free (wc := (ME h g ss sa so pl si fa li co st rq bl te op wo wz sr le tx ro)) hD hS hA [0, 1, 2, 3, 4, 5, 6] rfl
    refine va_calli (va_runV (As := [.int w]) (rest := []) ⟨hx, hb, hml, hown, ht⟩ (c_M_like l dC dI k h g ss sa so pl si fa li co st rq bl te op wo le wz sr tx ro w _ (by omega) (by omega) ) (cwV 1 ht (g_V k_734 k_736 k_44 k_80 k_737) rfl rfl rfl (by decide +kernel) ⟨(Nat.le_of_ble_eq_true rfl), (Nat.le_of_ble_eq_true rfl)⟩) ⟨fb_X, va_recv hK hP (ci := 4) (q0 := 0) rfl rfl, pre_X hE hS hFc hP hK hD⟩ rfl rfl hl.1 rfl (lv_room (Nat.le_of_ble_eq_true rfl)) d_M_isWord_10 ⟨(Nat.le_of_ble_eq_true rfl), (Nat.le_of_ble_eq_true rfl)⟩) hS (fun q _ h9 => hFc q h9) hFc (fun r_7 u_6 t H locs het hvm hw hB hz1 hk1 hS => ?_)
    have p_8 := hw
    obtain ⟨hP1, hK1, hD1⟩ := hB
    rw [het] at hP1
    have hP : va_P (dC, dI) cls (ME h g ss sa so pl si fa li co st rq bl te op wo wz sr le tx ro) H := hP1
    have hD : va_D A (ME h g ss sa so pl si fa li co st rq bl te op wo wz sr le tx ro) := hD1.weaken (fun _ _ _ h9 => hFc _ h9)
    refine lv_if_eq (tgt := 20) hx hb d_M_isWord_13 (by decide) (fun c_9 => ?_) (fun c_9 => ?_)
    · have dc_9 := i_eq c_9 rfl (show Int32.toInt 0 = 0 by decide)
      refine lv_iconst (v := 0) hx hb d_M_isWord_20 (by decide) ?_
      have hc_0 : Int32.toInt 0 = 0 := by decide
      exact fin 0 () _ _ _ ls d_M_isWord_21 rfl ⟨(by (try dsimp only); omega), rfl⟩ hP hD hS
    · have dc_9 := i_ne c_9 rfl (show Int32.toInt 0 = 0 by decide)
      refine lv_iconst (v := 1) hx hb d_M_isWord_16 (by decide) ?_
      refine lv_goto (tgt := 21) hx hb d_M_isWord_17 (by decide) ?_
      exact fin 1 () _ _ _ ls d_M_isWord_21 rfl ⟨(by (try dsimp only); omega), rfl⟩ hP hD hS
set_option maxHeartbeats 4000000 in
set_option maxRecDepth 100000 in
theorem c_M_isWord (l : Launch) (dC : Nat → ClassId) (dI : Nat → Nat → Nat) (k : Nat → Nat) (h : Nat → Nat) (g : Nat → ClassId) (ss : Int32) (sa : Int32) (so : Int32) (pl : Int32) (si : Int32) (fa : Int32) (li : Int32) (co : Int32) (st : Int32) (rq : Int32) (bl : Int32) (te : Int32) (op : Int32) (wo : Nat → Int64) (le : Nat → Int64) (wz : Nat → Int32) (sr : Nat → Int32) (tx : Nat → Int32) (ro : Nat → Int32) (w : Int32) (sz : Nat) (h_0 : -1 ≤ Int32.toInt fa) (h_1 : Int32.toInt fa ≤ 400) (h_2 : 0 ≤ Int32.toInt w) (h_3 : Int32.toInt w ≤ 54)  : Met l y_M_isWord (.code y_M_isWord b_M_isWord 2 (some .boolean) :: TT) ({ frames := 2, cells := 0, slots := 0, locals := 46 }) (va_Pc [.ref (h 0), .int w] (PX dC dI k (TM g) (ME h g ss sa so pl si fa li co st rq bl te op wo wz sr le tx ro) sz)) (va_Qi (fun (r : Int32) (u : Unit) => (Int32.toInt r = 0 ∨ (Int32.toInt fa < 0 ∧ Int32.toInt so = 1)) ∧ narrow .boolean (.int r) = .int r) (fun u t => BX dC dI (TM g) (va_A (ME h g ss sa so pl si fa li co st rq bl te op wo wz sr le tx ro) sz) (ME h g ss sa so pl si fa li co st rq bl te op wo wz sr le tx ro) t) (va_A (ME h g ss sa so pl si fa li co st rq bl te op wo wz sr le tx ro) sz)) 0 0 (va_A (ME h g ss sa so pl si fa li co st rq bl te op wo wz sr le tx ro) sz) := by
  refine Met.ofW (cc := b_M_isWord) (maxL := 2) (ret := (some .boolean)) (by decide) rfl ?_
  intro p e s m args below meth c s₁ B hml hv
  obtain ⟨rfl, hsz, hE, hP, hK, hD0⟩ := hv
  have hx := B.exec
  have hb := B.bytes
  have hr := B.returns
  have ht : ∀ w ∈ TT, w.before _ s = true := fun w hw => atoms_spec (ws := .code y_M_isWord b_M_isWord 2 (some .boolean) :: TT) B.pre w (List.mem_cons_of_mem _ hw)
  have hown : s.vm.findClass "SieveDeskModel" = some m.cls := findClass_of_methodNamed B.named
  have hlocks := B.notSynchronized
  subst hsz
  have hD := hD0.self (sz := s.heap.size)
  generalize hAe : va_A (ME h g ss sa so pl si fa li co st rq bl te op wo wz sr le tx ro) s.heap.size = A at hE hD ⊢
  have hA : ∀ q : Nat, s.heap.size ≤ q → A q := fun q h9 => by rw [← hAe]; exact Or.inr h9
  have hS : va_S A s.heap s.heap [] := va_S.rf
  have hl := lv_entry ([.ref (h 0), .int w]) (n := 2) (Nat.le_of_ble_eq_true rfl)
  rw [lg_entry_eq]
  generalize (lg_sl ([.ref (h 0), .int w]) ++ List.replicate (2 - (lg_sl ([.ref (h 0), .int w])).length) Slot.unset).toArray = ls at hl ⊢
  have hl : lv_has ls 2 [(0, .ref (h 0)), (1, .int w)] := hl
  exact bd_M_isWord_0 (w := w) hx hb hml hown ht hE hA hK h_0 h_1 h_2 h_3 (fun r u H locs pc ls hd hn hp hP hD hS => W.zret hx hb hr hn (fun t het hW => ⟨⟨r, u, rfl, hp, by rw [het]; exact hP, va_K.moved hW.alike hK, hD⟩, hS.F het⟩) hS.2.2 hd)   _ _ ls hP hD hS hl
set_option maxHeartbeats 4000000 in
set_option maxRecDepth 100000 in
theorem bd_M_take_0 {p : Program} {l : Launch} {e : Env} {s : State} {m : MethodId} {args : Array Value} {below : List Frame} {meth : Method} {c : Code} {Q : State → Prop} {A : Nat → Prop} {dC : Nat → ClassId} {dI : Nat → Nat → Nat} {k h : Nat → Nat} {g : Nat → ClassId} {ss : Int32} {li : Int32} {co : Int32} {st : Int32} {rq : Int32} {bl : Int32} {te : Int32} {wo : Nat → Int64} {wz : Nat → Int32} {sr : Nat → Int32} {ro : Nat → Int32} {sa0 : Int32} {so0 : Int32} {fa0 : Int32} {op0 : Int32} (hx : p.tables.exec = Jvm.exec) (hb : c.code = b_M_take) (hml : c.maxLocals = 2) (hown : s.vm.findClass "SieveDeskModel" = some m.cls) (ht : ∀ w ∈ TT, w.before args s = true) (hE : KE k A s s.heap) (hA : ∀ q : Nat, s.heap.size ≤ q → A q) (hK : va_K (dC, dI) cls (TM g) s) {c1 : Int32} (h_0 : 0 ≤ Int32.toInt ss) (h_1 : Int32.toInt ss ≤ 400) (h_2 : 0 ≤ Int32.toInt c1) (h_3 : Int32.toInt c1 ≤ 1000) (fin : ∀ (u : Int32 × Int32 × Int32 × Int32 × Int32 × Int32 × (Nat → Int64) × (Nat → Int32)) (H : Heap) (locs : List Loc) (pc : Nat) (ls : Array Slot), decode b_M_take pc = .ok (.return_, 1) → (0 ≤ Int32.toInt u.1 ∧ Int32.toInt u.1 ≤ Int32.toInt ss ∧ 0 ≤ Int32.toInt u.2.2.1 ∧ Int32.toInt u.2.2.1 ≤ 400 ∧ -1 ≤ Int32.toInt u.2.2.2.1 ∧ Int32.toInt u.2.2.2.1 ≤ 400 ∧ (Int32.toInt u.2.2.2.1 < 0 ∨ (Int32.toInt u.2.1 = 0 ∧ Int32.toInt u.2.2.2.2.1 = 0)) ∧ 0 ≤ Int32.toInt u.2.2.2.2.2.1 ∧ Int32.toInt u.2.2.2.2.2.1 ≤ 400 ∧ PS ss sa0 so0 fa0 op0 u.1 u.2.1 u.2.2.2.1 u.2.2.2.2.1 ∧ (0 ≤ Int32.toInt u.2.2.2.1 ∨ Int32.toInt so0 = 100 + Int32.toInt c1)) → va_P (dC, dI) cls (ME h g ss u.1 u.2.1 u.2.2.1 u.2.2.2.2.2.1 u.2.2.2.1 li co st rq bl te u.2.2.2.2.1 wo wz sr u.2.2.2.2.2.2.1 u.2.2.2.2.2.2.2 ro) H → va_D A (ME h g ss u.1 u.2.1 u.2.2.1 u.2.2.2.2.2.1 u.2.2.2.1 li co st rq bl te u.2.2.2.2.1 wo wz sr u.2.2.2.2.2.2.1 u.2.2.2.2.2.2.2 ro) → va_S A s.heap H locs → W p l e ({ frames := 5, cells := 0, slots := 0, locals := 106 } : Room) s m args below meth c H locs 0 0 Q (F0 m pc ls [])) : ∀ (sa : Int32) (so : Int32) (pl : Int32) (fa : Int32) (op : Int32) (si : Int32) (le : Nat → Int64) (tx : Nat → Int32), sa = sa0 → so = so0 → fa = fa0 → op = op0 → 0 ≤ Int32.toInt sa → Int32.toInt sa ≤ Int32.toInt ss → 0 ≤ Int32.toInt pl → Int32.toInt pl ≤ 400 → -1 ≤ Int32.toInt fa → Int32.toInt fa ≤ 400 → (Int32.toInt fa < 0 ∨ (Int32.toInt so = 0 ∧ Int32.toInt op = 0)) → 0 ≤ Int32.toInt si → Int32.toInt si ≤ 400 → ∀ (H : Heap) (locs : List Loc) (ls : Array Slot), va_P (dC, dI) cls (ME h g ss sa so pl si fa li co st rq bl te op wo wz sr le tx ro) H → va_D A (ME h g ss sa so pl si fa li co st rq bl te op wo wz sr le tx ro) → va_S A s.heap H locs → lv_has ls 2 [(0, .ref (h 0)), (1, .int c1)] → W p l e ({ frames := 5, cells := 0, slots := 0, locals := 106 } : Room) s m args below meth c H locs 0 0 Q (F0 m 0 ls []) := by
  intro sa so pl fa op si le tx v_0 v_1 v_2 v_3 v_4 v_5 v_6 v_7 v_8 v_9 v_10 v_11 v_12 H locs ls hP hD hS hl
  subst v_0
  subst v_1
  subst v_2
  subst v_3
  refine lv_aload_n hx hb d_M_take_0 rfl (lv_at hl 0 rfl) ?_
  refine lv_iload_n hx hb d_M_take_1 rfl (lv_at hl 1 rfl) ?_
  have hFc := va_free (wc := (ME h g ss sa so pl si fa li co st rq bl te op wo wz sr le tx ro)) hD hS hA [0, 1, 2, 3, 4, 5, 6] rfl
  refine va_calli (va_runV (As := [.int c1]) (rest := []) ⟨hx, hb, hml, hown, ht⟩ (c_M_isSign l dC dI k h g ss sa so pl si fa li co st rq bl te op wo le wz sr tx ro c1 _ (by omega) (by omega) (by omega) (by omega) ) (cwV 1 ht (g_V k_779 k_781 k_54 k_80 k_782) rfl rfl rfl (by decide +kernel) ⟨(Nat.le_of_ble_eq_true rfl), (Nat.le_of_ble_eq_true rfl)⟩) ⟨fb_X, va_recv hK hP (ci := 4) (q0 := 0) rfl rfl, pre_X hE hS hFc hP hK hD⟩ rfl rfl hl.1 rfl (lv_room (Nat.le_of_ble_eq_true rfl)) d_M_take_2 ⟨(Nat.le_of_ble_eq_true rfl), (Nat.le_of_ble_eq_true rfl)⟩) hS (fun q _ h9 => hFc q h9) hFc (fun r_2 u_1 t H locs het hvm hw hB hz1 hk1 hS => ?_)
  obtain ⟨p_3, p_4⟩ := hw
  obtain ⟨hP1, hK1, hD1⟩ := hB
  rw [het] at hP1
  have hP : va_P (dC, dI) cls (ME h g ss sa so pl si fa li co st rq bl te op wo wz sr le tx ro) H := hP1
  have hD : va_D A (ME h g ss sa so pl si fa li co st rq bl te op wo wz sr le tx ro) := hD1.weaken (fun _ _ _ h9 => hFc _ h9)
  refine lv_if_eq (tgt := 15) hx hb d_M_take_5 (by decide) (fun c_5 => ?_) (fun c_5 => ?_)
  · have dc_5 := i_eq c_5 rfl (show Int32.toInt 0 = 0 by decide)
    refine lv_aload_n hx hb d_M_take_15 rfl (lv_at hl 0 rfl) ?_
    have hFc := va_free (wc := (ME h g ss sa so pl si fa li co st rq bl te op wo wz sr le tx ro)) hD hS hA [0, 1, 2, 3, 4, 5, 6] rfl
    refine va_callv (va_runV (As := []) (rest := []) ⟨hx, hb, hml, hown, ht⟩ (c_M_fail l dC dI k h g ss sa so pl si fa li co st rq bl te op wo le wz sr tx ro  _ (by omega) (by omega) (by omega) (by omega)) (cwV 0 ht (g_V k_763 k_765 k_50 k_80 k_766) rfl rfl rfl (by decide +kernel) ⟨(Nat.le_of_ble_eq_true rfl), (Nat.le_of_ble_eq_true rfl)⟩) ⟨fb_X, va_recv hK hP (ci := 4) (q0 := 0) rfl rfl, pre_X hE hS hFc hP hK hD⟩ rfl rfl hl.1 rfl (lv_room (Nat.le_of_ble_eq_true rfl)) d_M_take_16 ⟨(Nat.le_of_ble_eq_true rfl), (Nat.le_of_ble_eq_true rfl)⟩) hS (fun q _ h9 => hFc q h9) hFc (fun u_9 t H locs het hvm hw hB hz1 hk1 hS => ?_)
    obtain ⟨so_6, fa_7, op_8⟩ := u_9
    try dsimp only at hw
    obtain ⟨p_11, p_12, p_13, p_14, p_15, p_16⟩ := hw
    obtain ⟨hP1, hK1, hD1⟩ := hB
    rw [het] at hP1
    have hP : va_P (dC, dI) cls (ME h g ss sa so_6 pl si fa_7 li co st rq bl te op_8 wo wz sr le tx ro) H := hP1
    have hD : va_D A (ME h g ss sa so_6 pl si fa_7 li co st rq bl te op_8 wo wz sr le tx ro) := hD1.weaken (fun _ _ _ h9 => hFc _ h9)
    have rl_17 : PS ss sa so fa op sa so_6 fa_7 op_8 := pr_out (by omega) (by omega) (by omega) _ _ _ _ (by omega)
    exact fin  (sa, so_6, pl, fa_7, op_8, si, le, tx) _ _ _ ls d_M_take_19 ⟨(by (try dsimp only); omega), (by (try dsimp only); omega), (by (try dsimp only); omega), (by (try dsimp only); omega), (by (try dsimp only); omega), (by (try dsimp only); omega), (by (try dsimp only); omega), (by (try dsimp only); omega), (by (try dsimp only); omega), rl_17, (by (try dsimp only); omega)⟩ hP hD hS
  · have dc_5 := i_ne c_5 rfl (show Int32.toInt 0 = 0 by decide)
    refine lv_aload_n hx hb d_M_take_8 rfl (lv_at hl 0 rfl) ?_
    have hFc := va_free (wc := (ME h g ss sa so pl si fa li co st rq bl te op wo wz sr le tx ro)) hD hS hA [0, 1, 2, 3, 4, 5, 6] rfl
    refine va_callv (va_runV (As := []) (rest := []) ⟨hx, hb, hml, hown, ht⟩ (c_M_next l dC dI k h g ss sa so pl si fa li co st rq bl te op wo le wz sr tx ro  _ (by omega) (by omega) (by omega) (by omega) (by omega) (by omega) (by omega) (by omega) (by omega) (by omega) (by omega)) (cwV 0 ht (g_V k_694 k_696 k_37 k_80 k_697) rfl rfl rfl (by decide +kernel) ⟨(Nat.le_of_ble_eq_true rfl), (Nat.le_of_ble_eq_true rfl)⟩) ⟨fb_X, va_recv hK hP (ci := 4) (q0 := 0) rfl rfl, pre_X hE hS hFc hP hK hD⟩ rfl rfl hl.1 rfl (lv_room (Nat.le_of_ble_eq_true rfl)) d_M_take_9 ⟨(Nat.le_of_ble_eq_true rfl), (Nat.le_of_ble_eq_true rfl)⟩) hS (fun q _ h9 => hFc q h9) hFc (fun u_26 t H locs het hvm hw hB hz1 hk1 hS => ?_)
    obtain ⟨sa_18, so_19, pl_20, fa_21, op_22, si_23, le_24, tx_25⟩ := u_26
    try dsimp only at hw
    obtain ⟨p_28, p_29, p_30, p_31, p_32, p_33, p_34, p_35, p_36, p_37, p_38⟩ := hw
    obtain ⟨hP1, hK1, hD1⟩ := hB
    rw [het] at hP1
    have hP : va_P (dC, dI) cls (ME h g ss sa_18 so_19 pl_20 si_23 fa_21 li co st rq bl te op_22 wo wz sr le_24 tx_25 ro) H := hP1
    have hD : va_D A (ME h g ss sa_18 so_19 pl_20 si_23 fa_21 li co st rq bl te op_22 wo wz sr le_24 tx_25 ro) := hD1.weaken (fun _ _ _ h9 => hFc _ h9)
    have rl_39 := p_38.resolve_right (by omega)
    refine lv_goto (tgt := 19) hx hb d_M_take_12 (by decide) ?_
    exact fin  (sa_18, so_19, pl_20, fa_21, op_22, si_23, le_24, tx_25) _ _ _ ls d_M_take_19 ⟨(by (try dsimp only); omega), (by (try dsimp only); omega), (by (try dsimp only); omega), (by (try dsimp only); omega), (by (try dsimp only); omega), (by (try dsimp only); omega), (by (try dsimp only); omega), (by (try dsimp only); omega), (by (try dsimp only); omega), rl_39, (by (try dsimp only); omega)⟩ hP hD hS
set_option maxHeartbeats 4000000 in
set_option maxRecDepth 100000 in
theorem c_M_take (l : Launch) (dC : Nat → ClassId) (dI : Nat → Nat → Nat) (k : Nat → Nat) (h : Nat → Nat) (g : Nat → ClassId) (ss : Int32) (sa : Int32) (so : Int32) (pl : Int32) (si : Int32) (fa : Int32) (li : Int32) (co : Int32) (st : Int32) (rq : Int32) (bl : Int32) (te : Int32) (op : Int32) (wo : Nat → Int64) (le : Nat → Int64) (wz : Nat → Int32) (sr : Nat → Int32) (tx : Nat → Int32) (ro : Nat → Int32) (c1 : Int32) (sz : Nat) (h_0 : 0 ≤ Int32.toInt ss) (h_1 : Int32.toInt ss ≤ 400) (h_2 : 0 ≤ Int32.toInt c1) (h_3 : Int32.toInt c1 ≤ 1000) (v_0 : 0 ≤ Int32.toInt sa) (v_1 : Int32.toInt sa ≤ Int32.toInt ss) (v_2 : 0 ≤ Int32.toInt pl) (v_3 : Int32.toInt pl ≤ 400) (v_4 : -1 ≤ Int32.toInt fa) (v_5 : Int32.toInt fa ≤ 400) (v_6 : Int32.toInt fa < 0 ∨ (Int32.toInt so = 0 ∧ Int32.toInt op = 0)) (v_7 : 0 ≤ Int32.toInt si) (v_8 : Int32.toInt si ≤ 400) : Met l y_M_take (.code y_M_take b_M_take 2 none :: TT) ({ frames := 5, cells := 0, slots := 0, locals := 106 }) (va_Pc [.ref (h 0), .int c1] (PX dC dI k (TM g) (ME h g ss sa so pl si fa li co st rq bl te op wo wz sr le tx ro) sz)) (va_Qv (fun u : Int32 × Int32 × Int32 × Int32 × Int32 × Int32 × (Nat → Int64) × (Nat → Int32) => 0 ≤ Int32.toInt u.1 ∧ Int32.toInt u.1 ≤ Int32.toInt ss ∧ 0 ≤ Int32.toInt u.2.2.1 ∧ Int32.toInt u.2.2.1 ≤ 400 ∧ -1 ≤ Int32.toInt u.2.2.2.1 ∧ Int32.toInt u.2.2.2.1 ≤ 400 ∧ (Int32.toInt u.2.2.2.1 < 0 ∨ (Int32.toInt u.2.1 = 0 ∧ Int32.toInt u.2.2.2.2.1 = 0)) ∧ 0 ≤ Int32.toInt u.2.2.2.2.2.1 ∧ Int32.toInt u.2.2.2.2.2.1 ≤ 400 ∧ PS ss sa so fa op u.1 u.2.1 u.2.2.2.1 u.2.2.2.2.1 ∧ (0 ≤ Int32.toInt u.2.2.2.1 ∨ Int32.toInt so = 100 + Int32.toInt c1)) (fun u t => BX dC dI (TM g) (va_A (ME h g ss sa so pl si fa li co st rq bl te op wo wz sr le tx ro) sz) (ME h g ss u.1 u.2.1 u.2.2.1 u.2.2.2.2.2.1 u.2.2.2.1 li co st rq bl te u.2.2.2.2.1 wo wz sr u.2.2.2.2.2.2.1 u.2.2.2.2.2.2.2 ro) t) (va_A (ME h g ss sa so pl si fa li co st rq bl te op wo wz sr le tx ro) sz)) 0 0 (va_A (ME h g ss sa so pl si fa li co st rq bl te op wo wz sr le tx ro) sz) := by
  refine Met.ofW (cc := b_M_take) (maxL := 2) (ret := none) (by decide) rfl ?_
  intro p e s m args below meth c s₁ B hml hv
  obtain ⟨rfl, hsz, hE, hP, hK, hD0⟩ := hv
  have hx := B.exec
  have hb := B.bytes
  have hr := B.returns
  have ht : ∀ w ∈ TT, w.before _ s = true := fun w hw => atoms_spec (ws := .code y_M_take b_M_take 2 none :: TT) B.pre w (List.mem_cons_of_mem _ hw)
  have hown : s.vm.findClass "SieveDeskModel" = some m.cls := findClass_of_methodNamed B.named
  have hlocks := B.notSynchronized
  subst hsz
  have hD := hD0.self (sz := s.heap.size)
  generalize hAe : va_A (ME h g ss sa so pl si fa li co st rq bl te op wo wz sr le tx ro) s.heap.size = A at hE hD ⊢
  have hA : ∀ q : Nat, s.heap.size ≤ q → A q := fun q h9 => by rw [← hAe]; exact Or.inr h9
  have hS : va_S A s.heap s.heap [] := va_S.rf
  have hl := lv_entry ([.ref (h 0), .int c1]) (n := 2) (Nat.le_of_ble_eq_true rfl)
  rw [lg_entry_eq]
  generalize (lg_sl ([.ref (h 0), .int c1]) ++ List.replicate (2 - (lg_sl ([.ref (h 0), .int c1])).length) Slot.unset).toArray = ls at hl ⊢
  have hl : lv_has ls 2 [(0, .ref (h 0)), (1, .int c1)] := hl
  exact bd_M_take_0 (c1 := c1) hx hb hml hown ht hE hA hK h_0 h_1 h_2 h_3 (fun u H locs pc ls hd hp hP hD hS => W.vret hx hb hr (fun t het hW => ⟨⟨u, rfl, hp, by rw [het]; exact hP, va_K.moved hW.alike hK, hD⟩, hS.F het⟩) hS.2.2 hd) sa so pl fa op si le tx rfl rfl rfl rfl v_0 v_1 v_2 v_3 v_4 v_5 v_6 v_7 v_8 _ _ ls hP hD hS hl
set_option maxHeartbeats 4000000 in
set_option maxRecDepth 100000 in
theorem bd_M_needs_0 {p : Program} {l : Launch} {e : Env} {s : State} {m : MethodId} {args : Array Value} {below : List Frame} {meth : Method} {c : Code} {Q : State → Prop} {A : Nat → Prop} {dC : Nat → ClassId} {dI : Nat → Nat → Nat} {k h : Nat → Nat} {g : Nat → ClassId} {ss : Int32} {sa : Int32} {pl : Int32} {si : Int32} {li : Int32} {co : Int32} {st : Int32} {rq : Int32} {bl : Int32} {te : Int32} {wo : Nat → Int64} {le : Nat → Int64} {wz : Nat → Int32} {sr : Nat → Int32} {tx : Nat → Int32} {ro : Nat → Int32} {so0 : Int32} {fa0 : Int32} {op0 : Int32} (hx : p.tables.exec = Jvm.exec) (hb : c.code = b_M_needs) (hml : c.maxLocals = 2) (hown : s.vm.findClass "SieveDeskModel" = some m.cls) (ht : ∀ w ∈ TT, w.before args s = true) (hE : KE k A s s.heap) (hA : ∀ q : Nat, s.heap.size ≤ q → A q) (hK : va_K (dC, dI) cls (TM g) s) {bt : Int32} (h_0 : 0 ≤ Int32.toInt pl) (h_1 : Int32.toInt pl ≤ 400) (fin : ∀ (u : Int32 × Int32 × Int32) (H : Heap) (locs : List Loc) (pc : Nat) (ls : Array Slot), decode b_M_needs pc = .ok (.return_, 1) → (-1 ≤ Int32.toInt u.2.1 ∧ Int32.toInt u.2.1 ≤ 400 ∧ (Int32.toInt u.2.1 < 0 ∨ (Int32.toInt u.1 = 0 ∧ Int32.toInt u.2.2 = 0)) ∧ PR ss sa so0 fa0 op0 sa u.1 u.2.1 u.2.2 ∧ (0 ≤ Int32.toInt u.2.1 ∨ (Int32.toInt fa0 < 0 ∧ Int32.toInt u.2.1 < 0 ∧ Int32.toInt u.1 = Int32.toInt so0))) → va_P (dC, dI) cls (ME h g ss sa u.1 pl si u.2.1 li co st rq bl te u.2.2 wo wz sr le tx ro) H → va_D A (ME h g ss sa u.1 pl si u.2.1 li co st rq bl te u.2.2 wo wz sr le tx ro) → va_S A s.heap H locs → W p l e ({ frames := 1, cells := 0, slots := 0, locals := 20 } : Room) s m args below meth c H locs 0 0 Q (F0 m pc ls [])) : ∀ (so : Int32) (fa : Int32) (op : Int32), so = so0 → fa = fa0 → op = op0 → -1 ≤ Int32.toInt fa → Int32.toInt fa ≤ 400 → (Int32.toInt fa < 0 ∨ (Int32.toInt so = 0 ∧ Int32.toInt op = 0)) → ∀ (H : Heap) (locs : List Loc) (ls : Array Slot), va_P (dC, dI) cls (ME h g ss sa so pl si fa li co st rq bl te op wo wz sr le tx ro) H → va_D A (ME h g ss sa so pl si fa li co st rq bl te op wo wz sr le tx ro) → va_S A s.heap H locs → lv_has ls 2 [(0, .ref (h 0)), (1, .int bt)] → W p l e ({ frames := 1, cells := 0, slots := 0, locals := 20 } : Room) s m args below meth c H locs 0 0 Q (F0 m 0 ls []) := by
  intro so fa op v_0 v_1 v_2 v_3 v_4 v_5 H locs ls hP hD hS hl
  subst v_0
  subst v_1
  subst v_2
  refine lv_aload_n hx hb d_M_needs_0 rfl (lv_at hl 0 rfl) ?_
  refine va_get (D := (dC, dI)) (ci := 4) (v := .int rq) (C := "SieveDeskModel") (T := F_M) (N := 19) hx hb ht i_M hown hK hP 0 rfl rfl 14 (by decide) (ht _ k_641) (fun _ h9 => h9) rfl d_M_needs_1 ?_
  refine lv_iload_n hx hb d_M_needs_4 rfl (lv_at hl 1 rfl) ?_
  refine lv_iand hx hb d_M_needs_5 ?_
  refine lv_if_ne (tgt := 13) hx hb d_M_needs_6 (by decide) (fun c_1 => ?_) (fun c_1 => ?_)
  · exact fin  (so, fa, op) _ _ _ ls d_M_needs_13 ⟨(by (try dsimp only); omega), (by (try dsimp only); omega), (by (try dsimp only); omega), (pr_same (by (try dsimp only); omega)), (by (try dsimp only); omega)⟩ hP hD hS
  · refine lv_aload_n hx hb d_M_needs_9 rfl (lv_at hl 0 rfl) ?_
    have hFc := va_free (wc := (ME h g ss sa so pl si fa li co st rq bl te op wo wz sr le tx ro)) hD hS hA [0, 1, 2, 3, 4, 5, 6] rfl
    refine va_callv (va_runV (As := []) (rest := []) ⟨hx, hb, hml, hown, ht⟩ (c_M_fail l dC dI k h g ss sa so pl si fa li co st rq bl te op wo le wz sr tx ro  _ (by omega) (by omega) (by omega) (by omega)) (cwV 0 ht (g_V k_763 k_765 k_50 k_80 k_766) rfl rfl rfl (by decide +kernel) ⟨(Nat.le_of_ble_eq_true rfl), (Nat.le_of_ble_eq_true rfl)⟩) ⟨fb_X, va_recv hK hP (ci := 4) (q0 := 0) rfl rfl, pre_X hE hS hFc hP hK hD⟩ rfl rfl hl.1 rfl (lv_room (Nat.le_of_ble_eq_true rfl)) d_M_needs_10 ⟨(Nat.le_of_ble_eq_true rfl), (Nat.le_of_ble_eq_true rfl)⟩) hS (fun q _ h9 => hFc q h9) hFc (fun u_5 t H locs het hvm hw hB hz1 hk1 hS => ?_)
    obtain ⟨so_2, fa_3, op_4⟩ := u_5
    try dsimp only at hw
    obtain ⟨p_7, p_8, p_9, p_10, p_11, p_12⟩ := hw
    obtain ⟨hP1, hK1, hD1⟩ := hB
    rw [het] at hP1
    have hP : va_P (dC, dI) cls (ME h g ss sa so_2 pl si fa_3 li co st rq bl te op_4 wo wz sr le tx ro) H := hP1
    have hD : va_D A (ME h g ss sa so_2 pl si fa_3 li co st rq bl te op_4 wo wz sr le tx ro) := hD1.weaken (fun _ _ _ h9 => hFc _ h9)
    have rl_13 : PS ss sa so fa op sa so_2 fa_3 op_4 := pr_out (by omega) (by omega) (by omega) _ _ _ _ (by omega)
    exact fin  (so_2, fa_3, op_4) _ _ _ ls d_M_needs_13 ⟨(by (try dsimp only); omega), (by (try dsimp only); omega), (by (try dsimp only); omega), (pr_same (by (try dsimp only); omega)), (by (try dsimp only); omega)⟩ hP hD hS
set_option maxHeartbeats 4000000 in
set_option maxRecDepth 100000 in
theorem c_M_needs (l : Launch) (dC : Nat → ClassId) (dI : Nat → Nat → Nat) (k : Nat → Nat) (h : Nat → Nat) (g : Nat → ClassId) (ss : Int32) (sa : Int32) (so : Int32) (pl : Int32) (si : Int32) (fa : Int32) (li : Int32) (co : Int32) (st : Int32) (rq : Int32) (bl : Int32) (te : Int32) (op : Int32) (wo : Nat → Int64) (le : Nat → Int64) (wz : Nat → Int32) (sr : Nat → Int32) (tx : Nat → Int32) (ro : Nat → Int32) (bt : Int32) (sz : Nat) (h_0 : 0 ≤ Int32.toInt pl) (h_1 : Int32.toInt pl ≤ 400) (v_0 : -1 ≤ Int32.toInt fa) (v_1 : Int32.toInt fa ≤ 400) (v_2 : Int32.toInt fa < 0 ∨ (Int32.toInt so = 0 ∧ Int32.toInt op = 0)) : Met l y_M_needs (.code y_M_needs b_M_needs 2 none :: TT) ({ frames := 1, cells := 0, slots := 0, locals := 20 }) (va_Pc [.ref (h 0), .int bt] (PX dC dI k (TM g) (ME h g ss sa so pl si fa li co st rq bl te op wo wz sr le tx ro) sz)) (va_Qv (fun u : Int32 × Int32 × Int32 => -1 ≤ Int32.toInt u.2.1 ∧ Int32.toInt u.2.1 ≤ 400 ∧ (Int32.toInt u.2.1 < 0 ∨ (Int32.toInt u.1 = 0 ∧ Int32.toInt u.2.2 = 0)) ∧ PR ss sa so fa op sa u.1 u.2.1 u.2.2 ∧ (0 ≤ Int32.toInt u.2.1 ∨ (Int32.toInt fa < 0 ∧ Int32.toInt u.2.1 < 0 ∧ Int32.toInt u.1 = Int32.toInt so))) (fun u t => BX dC dI (TM g) (va_A (ME h g ss sa so pl si fa li co st rq bl te op wo wz sr le tx ro) sz) (ME h g ss sa u.1 pl si u.2.1 li co st rq bl te u.2.2 wo wz sr le tx ro) t) (va_A (ME h g ss sa so pl si fa li co st rq bl te op wo wz sr le tx ro) sz)) 0 0 (va_A (ME h g ss sa so pl si fa li co st rq bl te op wo wz sr le tx ro) sz) := by
  refine Met.ofW (cc := b_M_needs) (maxL := 2) (ret := none) (by decide) rfl ?_
  intro p e s m args below meth c s₁ B hml hv
  obtain ⟨rfl, hsz, hE, hP, hK, hD0⟩ := hv
  have hx := B.exec
  have hb := B.bytes
  have hr := B.returns
  have ht : ∀ w ∈ TT, w.before _ s = true := fun w hw => atoms_spec (ws := .code y_M_needs b_M_needs 2 none :: TT) B.pre w (List.mem_cons_of_mem _ hw)
  have hown : s.vm.findClass "SieveDeskModel" = some m.cls := findClass_of_methodNamed B.named
  have hlocks := B.notSynchronized
  subst hsz
  have hD := hD0.self (sz := s.heap.size)
  generalize hAe : va_A (ME h g ss sa so pl si fa li co st rq bl te op wo wz sr le tx ro) s.heap.size = A at hE hD ⊢
  have hA : ∀ q : Nat, s.heap.size ≤ q → A q := fun q h9 => by rw [← hAe]; exact Or.inr h9
  have hS : va_S A s.heap s.heap [] := va_S.rf
  have hl := lv_entry ([.ref (h 0), .int bt]) (n := 2) (Nat.le_of_ble_eq_true rfl)
  rw [lg_entry_eq]
  generalize (lg_sl ([.ref (h 0), .int bt]) ++ List.replicate (2 - (lg_sl ([.ref (h 0), .int bt])).length) Slot.unset).toArray = ls at hl ⊢
  have hl : lv_has ls 2 [(0, .ref (h 0)), (1, .int bt)] := hl
  exact bd_M_needs_0 (bt := bt) hx hb hml hown ht hE hA hK h_0 h_1 (fun u H locs pc ls hd hp hP hD hS => W.vret hx hb hr (fun t het hW => ⟨⟨u, rfl, hp, by rw [het]; exact hP, va_K.moved hW.alike hK, hD⟩, hS.F het⟩) hS.2.2 hd) so fa op rfl rfl rfl v_0 v_1 v_2 _ _ ls hP hD hS hl
set_option maxHeartbeats 4000000 in
set_option maxRecDepth 100000 in
theorem bd_M_counting_0 {p : Program} {l : Launch} {e : Env} {s : State} {m : MethodId} {args : Array Value} {below : List Frame} {meth : Method} {c : Code} {Q : State → Prop} {A : Nat → Prop} {dC : Nat → ClassId} {dI : Nat → Nat → Nat} {k h : Nat → Nat} {g : Nat → ClassId} {ss : Int32} {sa : Int32} {pl : Int32} {si : Int32} {li : Int32} {st : Int32} {rq : Int32} {bl : Int32} {te : Int32} {wo : Nat → Int64} {le : Nat → Int64} {wz : Nat → Int32} {sr : Nat → Int32} {tx : Nat → Int32} {ro : Nat → Int32} {so0 : Int32} {fa0 : Int32} {op0 : Int32} (hx : p.tables.exec = Jvm.exec) (hb : c.code = b_M_counting) (hml : c.maxLocals = 2) (hown : s.vm.findClass "SieveDeskModel" = some m.cls) (ht : ∀ w ∈ TT, w.before args s = true) (hE : KE k A s s.heap) (hA : ∀ q : Nat, s.heap.size ≤ q → A q) (hK : va_K (dC, dI) cls (TM g) s) {bt : Int32} (h_0 : 0 ≤ Int32.toInt pl) (h_1 : Int32.toInt pl ≤ 400) (fin : ∀ (u : Int32 × Int32 × Int32 × Int32) (H : Heap) (locs : List Loc) (pc : Nat) (ls : Array Slot), decode b_M_counting pc = .ok (.return_, 1) → (-1 ≤ Int32.toInt u.2.1 ∧ Int32.toInt u.2.1 ≤ 400 ∧ (Int32.toInt u.2.1 < 0 ∨ (Int32.toInt u.1 = 0 ∧ Int32.toInt u.2.2.1 = 0)) ∧ PR ss sa so0 fa0 op0 sa u.1 u.2.1 u.2.2.1 ∧ (0 ≤ Int32.toInt u.2.1 ∨ (Int32.toInt fa0 < 0 ∧ Int32.toInt u.2.1 < 0 ∧ Int32.toInt u.1 = Int32.toInt so0))) → va_P (dC, dI) cls (ME h g ss sa u.1 pl si u.2.1 li u.2.2.2 st rq bl te u.2.2.1 wo wz sr le tx ro) H → va_D A (ME h g ss sa u.1 pl si u.2.1 li u.2.2.2 st rq bl te u.2.2.1 wo wz sr le tx ro) → va_S A s.heap H locs → W p l e ({ frames := 2, cells := 0, slots := 0, locals := 41 } : Room) s m args below meth c H locs 0 0 Q (F0 m pc ls [])) : ∀ (so : Int32) (fa : Int32) (op : Int32) (co : Int32), so = so0 → fa = fa0 → op = op0 → -1 ≤ Int32.toInt fa → Int32.toInt fa ≤ 400 → (Int32.toInt fa < 0 ∨ (Int32.toInt so = 0 ∧ Int32.toInt op = 0)) → ∀ (H : Heap) (locs : List Loc) (ls : Array Slot), va_P (dC, dI) cls (ME h g ss sa so pl si fa li co st rq bl te op wo wz sr le tx ro) H → va_D A (ME h g ss sa so pl si fa li co st rq bl te op wo wz sr le tx ro) → va_S A s.heap H locs → lv_has ls 2 [(0, .ref (h 0)), (1, .int bt)] → W p l e ({ frames := 2, cells := 0, slots := 0, locals := 41 } : Room) s m args below meth c H locs 0 0 Q (F0 m 0 ls []) := by
  intro so fa op co v_0 v_1 v_2 v_3 v_4 v_5 H locs ls hP hD hS hl
  subst v_0
  subst v_1
  subst v_2
  refine lv_iload_n hx hb d_M_counting_0 rfl (lv_at hl 1 rfl) ?_
  refine lv_if_le (tgt := 9) hx hb d_M_counting_1 (by decide) (fun c_1 => ?_) (fun c_1 => ?_)
  · refine lv_aload_n hx hb d_M_counting_9 rfl (lv_at hl 0 rfl) ?_
    refine va_get (D := (dC, dI)) (ci := 4) (v := .int co) (C := "SieveDeskModel") (T := F_M) (N := 19) hx hb ht i_M hown hK hP 0 rfl rfl 12 (by decide) (ht _ k_639) (fun _ h9 => h9) rfl d_M_counting_10 ?_
    refine lv_bipush (v := 40) hx hb d_M_counting_13 (by decide) ?_
    refine lv_icmp_ne (tgt := 22) hx hb d_M_counting_15 (by decide) (fun c_2 => ?_) (fun c_2 => ?_)
    · refine lv_aload_n hx hb d_M_counting_22 rfl (lv_at hl 0 rfl) ?_
      refine va_get (D := (dC, dI)) (ci := 4) (v := .int fa) (C := "SieveDeskModel") (T := F_M) (N := 19) hx hb ht i_M hown hK hP 0 rfl rfl 10 (by decide) (ht _ k_637) (fun _ h9 => h9) rfl d_M_counting_23 ?_
      refine lv_if_ge (tgt := 39) hx hb d_M_counting_26 (by decide) (fun c_3 => ?_) (fun c_3 => ?_)
      · have dc_3 := i_le c_3 (show Int32.toInt 0 = 0 by decide) rfl
        exact fin  (so, fa, op, co) _ _ _ ls d_M_counting_39 ⟨(by (try dsimp only); omega), (by (try dsimp only); omega), (by (try dsimp only); omega), (PR.refl (by omega)), (by (try dsimp only); omega)⟩ hP hD hS
      · have dc_3 := i_nle c_3 (show Int32.toInt 0 = 0 by decide) rfl
        refine lv_aload_n hx hb d_M_counting_29 rfl (lv_at hl 0 rfl) ?_
        refine lv_aload_n hx hb d_M_counting_30 rfl (lv_at hl 0 rfl) ?_
        refine va_get (D := (dC, dI)) (ci := 4) (v := .int co) (C := "SieveDeskModel") (T := F_M) (N := 19) hx hb ht i_M hown hK hP 0 rfl rfl 12 (by decide) (ht _ k_639) (fun _ h9 => h9) rfl d_M_counting_31 ?_
        refine lv_iconst (v := 1) hx hb d_M_counting_34 (by decide) ?_
        refine lv_iadd hx hb d_M_counting_35 ?_
        refine va_put (D := (dC, dI)) (ci := 4) (v := .int (co + 1)) (ty := .int) (C := "SieveDeskModel") (T := F_M) (N := 19) hx hb ht i_M ty_M ty_M_ok n_M hown hK hP hD hS 0 rfl rfl 12 (by decide) (ht _ k_639) (fun _ h9 => h9) rfl (ty_M_ok 12 (by decide)) rfl rfl (Nat.le_of_ble_eq_true rfl) d_M_counting_36 (fun H locs hP hD hS => ?_)
        have hP : va_P (dC, dI) cls (ME h g ss sa so pl si fa li (co + 1) st rq bl te op wo wz sr le tx ro) H := hP
        have hD : va_D A (ME h g ss sa so pl si fa li (co + 1) st rq bl te op wo wz sr le tx ro) := hD
        exact fin  (so, fa, op, (co + 1)) _ _ _ ls d_M_counting_39 ⟨(by (try dsimp only); omega), (by (try dsimp only); omega), (by (try dsimp only); omega), (PR.refl (by omega)), (by (try dsimp only); omega)⟩ hP hD hS
    · refine lv_aload_n hx hb d_M_counting_18 rfl (lv_at hl 0 rfl) ?_
      have hFc := va_free (wc := (ME h g ss sa so pl si fa li co st rq bl te op wo wz sr le tx ro)) hD hS hA [0, 1, 2, 3, 4, 5, 6] rfl
      refine va_callv (va_runV (As := []) (rest := []) ⟨hx, hb, hml, hown, ht⟩ (c_M_fail l dC dI k h g ss sa so pl si fa li co st rq bl te op wo le wz sr tx ro  _ (by omega) (by omega) (by omega) (by omega)) (cwV 0 ht (g_V k_763 k_765 k_50 k_80 k_766) rfl rfl rfl (by decide +kernel) ⟨(Nat.le_of_ble_eq_true rfl), (Nat.le_of_ble_eq_true rfl)⟩) ⟨fb_X, va_recv hK hP (ci := 4) (q0 := 0) rfl rfl, pre_X hE hS hFc hP hK hD⟩ rfl rfl hl.1 rfl (lv_room (Nat.le_of_ble_eq_true rfl)) d_M_counting_19 ⟨(Nat.le_of_ble_eq_true rfl), (Nat.le_of_ble_eq_true rfl)⟩) hS (fun q _ h9 => hFc q h9) hFc (fun u_7 t H locs het hvm hw hB hz1 hk1 hS => ?_)
      obtain ⟨so_4, fa_5, op_6⟩ := u_7
      try dsimp only at hw
      obtain ⟨p_9, p_10, p_11, p_12, p_13, p_14⟩ := hw
      obtain ⟨hP1, hK1, hD1⟩ := hB
      rw [het] at hP1
      have hP : va_P (dC, dI) cls (ME h g ss sa so_4 pl si fa_5 li co st rq bl te op_6 wo wz sr le tx ro) H := hP1
      have hD : va_D A (ME h g ss sa so_4 pl si fa_5 li co st rq bl te op_6 wo wz sr le tx ro) := hD1.weaken (fun _ _ _ h9 => hFc _ h9)
      have rl_15 : PS ss sa so fa op sa so_4 fa_5 op_6 := pr_out (by omega) (by omega) (by omega) _ _ _ _ (by omega)
      refine lv_aload_n hx hb d_M_counting_22 rfl (lv_at hl 0 rfl) ?_
      refine va_get (D := (dC, dI)) (ci := 4) (v := .int fa_5) (C := "SieveDeskModel") (T := F_M) (N := 19) hx hb ht i_M hown hK hP 0 rfl rfl 10 (by decide) (ht _ k_637) (fun _ h9 => h9) rfl d_M_counting_23 ?_
      refine lv_if_ge (tgt := 39) hx hb d_M_counting_26 (by decide) (fun c_16 => ?_) (fun c_16 => ?_)
      · have dc_16 := i_le c_16 (show Int32.toInt 0 = 0 by decide) rfl
        exact fin  (so_4, fa_5, op_6, co) _ _ _ ls d_M_counting_39 ⟨(by (try dsimp only); omega), (by (try dsimp only); omega), (by (try dsimp only); omega), rl_15.pr, (by (try dsimp only); omega)⟩ hP hD hS
      · have dc_16 := i_nle c_16 (show Int32.toInt 0 = 0 by decide) rfl
        refine lv_aload_n hx hb d_M_counting_29 rfl (lv_at hl 0 rfl) ?_
        refine lv_aload_n hx hb d_M_counting_30 rfl (lv_at hl 0 rfl) ?_
        refine va_get (D := (dC, dI)) (ci := 4) (v := .int co) (C := "SieveDeskModel") (T := F_M) (N := 19) hx hb ht i_M hown hK hP 0 rfl rfl 12 (by decide) (ht _ k_639) (fun _ h9 => h9) rfl d_M_counting_31 ?_
        refine lv_iconst (v := 1) hx hb d_M_counting_34 (by decide) ?_
        refine lv_iadd hx hb d_M_counting_35 ?_
        refine va_put (D := (dC, dI)) (ci := 4) (v := .int (co + 1)) (ty := .int) (C := "SieveDeskModel") (T := F_M) (N := 19) hx hb ht i_M ty_M ty_M_ok n_M hown hK hP hD hS 0 rfl rfl 12 (by decide) (ht _ k_639) (fun _ h9 => h9) rfl (ty_M_ok 12 (by decide)) rfl rfl (Nat.le_of_ble_eq_true rfl) d_M_counting_36 (fun H locs hP hD hS => ?_)
        have hP : va_P (dC, dI) cls (ME h g ss sa so_4 pl si fa_5 li (co + 1) st rq bl te op_6 wo wz sr le tx ro) H := hP
        have hD : va_D A (ME h g ss sa so_4 pl si fa_5 li (co + 1) st rq bl te op_6 wo wz sr le tx ro) := hD
        exact fin  (so_4, fa_5, op_6, (co + 1)) _ _ _ ls d_M_counting_39 ⟨(by (try dsimp only); omega), (by (try dsimp only); omega), (by (try dsimp only); omega), rl_15.pr, (by (try dsimp only); omega)⟩ hP hD hS
  · refine lv_aload_n hx hb d_M_counting_4 rfl (lv_at hl 0 rfl) ?_
    refine lv_iload_n hx hb d_M_counting_5 rfl (lv_at hl 1 rfl) ?_
    have hFc := va_free (wc := (ME h g ss sa so pl si fa li co st rq bl te op wo wz sr le tx ro)) hD hS hA [0, 1, 2, 3, 4, 5, 6] rfl
    refine va_callv (va_runV (As := [.int bt]) (rest := []) ⟨hx, hb, hml, hown, ht⟩ (c_M_needs l dC dI k h g ss sa so pl si fa li co st rq bl te op wo le wz sr tx ro bt _ (by omega) (by omega) (by omega) (by omega) (by omega)) (cwV 1 ht (g_V k_811 k_813 k_62 k_80 k_814) rfl rfl rfl (by decide +kernel) ⟨(Nat.le_of_ble_eq_true rfl), (Nat.le_of_ble_eq_true rfl)⟩) ⟨fb_X, va_recv hK hP (ci := 4) (q0 := 0) rfl rfl, pre_X hE hS hFc hP hK hD⟩ rfl rfl hl.1 rfl (lv_room (Nat.le_of_ble_eq_true rfl)) d_M_counting_6 ⟨(Nat.le_of_ble_eq_true rfl), (Nat.le_of_ble_eq_true rfl)⟩) hS (fun q _ h9 => hFc q h9) hFc (fun u_20 t H locs het hvm hw hB hz1 hk1 hS => ?_)
    obtain ⟨so_17, fa_18, op_19⟩ := u_20
    try dsimp only at hw
    obtain ⟨p_22, p_23, p_24, p_25, p_26⟩ := hw
    obtain ⟨hP1, hK1, hD1⟩ := hB
    rw [het] at hP1
    have hP : va_P (dC, dI) cls (ME h g ss sa so_17 pl si fa_18 li co st rq bl te op_19 wo wz sr le tx ro) H := hP1
    have hD : va_D A (ME h g ss sa so_17 pl si fa_18 li co st rq bl te op_19 wo wz sr le tx ro) := hD1.weaken (fun _ _ _ h9 => hFc _ h9)
    refine lv_aload_n hx hb d_M_counting_9 rfl (lv_at hl 0 rfl) ?_
    refine va_get (D := (dC, dI)) (ci := 4) (v := .int co) (C := "SieveDeskModel") (T := F_M) (N := 19) hx hb ht i_M hown hK hP 0 rfl rfl 12 (by decide) (ht _ k_639) (fun _ h9 => h9) rfl d_M_counting_10 ?_
    refine lv_bipush (v := 40) hx hb d_M_counting_13 (by decide) ?_
    refine lv_icmp_ne (tgt := 22) hx hb d_M_counting_15 (by decide) (fun c_27 => ?_) (fun c_27 => ?_)
    · refine lv_aload_n hx hb d_M_counting_22 rfl (lv_at hl 0 rfl) ?_
      refine va_get (D := (dC, dI)) (ci := 4) (v := .int fa_18) (C := "SieveDeskModel") (T := F_M) (N := 19) hx hb ht i_M hown hK hP 0 rfl rfl 10 (by decide) (ht _ k_637) (fun _ h9 => h9) rfl d_M_counting_23 ?_
      refine lv_if_ge (tgt := 39) hx hb d_M_counting_26 (by decide) (fun c_28 => ?_) (fun c_28 => ?_)
      · have dc_28 := i_le c_28 (show Int32.toInt 0 = 0 by decide) rfl
        exact fin  (so_17, fa_18, op_19, co) _ _ _ ls d_M_counting_39 ⟨(by (try dsimp only); omega), (by (try dsimp only); omega), (by (try dsimp only); omega), p_25, (by (try dsimp only); omega)⟩ hP hD hS
      · have dc_28 := i_nle c_28 (show Int32.toInt 0 = 0 by decide) rfl
        refine lv_aload_n hx hb d_M_counting_29 rfl (lv_at hl 0 rfl) ?_
        refine lv_aload_n hx hb d_M_counting_30 rfl (lv_at hl 0 rfl) ?_
        refine va_get (D := (dC, dI)) (ci := 4) (v := .int co) (C := "SieveDeskModel") (T := F_M) (N := 19) hx hb ht i_M hown hK hP 0 rfl rfl 12 (by decide) (ht _ k_639) (fun _ h9 => h9) rfl d_M_counting_31 ?_
        refine lv_iconst (v := 1) hx hb d_M_counting_34 (by decide) ?_
        refine lv_iadd hx hb d_M_counting_35 ?_
        refine va_put (D := (dC, dI)) (ci := 4) (v := .int (co + 1)) (ty := .int) (C := "SieveDeskModel") (T := F_M) (N := 19) hx hb ht i_M ty_M ty_M_ok n_M hown hK hP hD hS 0 rfl rfl 12 (by decide) (ht _ k_639) (fun _ h9 => h9) rfl (ty_M_ok 12 (by decide)) rfl rfl (Nat.le_of_ble_eq_true rfl) d_M_counting_36 (fun H locs hP hD hS => ?_)
        have hP : va_P (dC, dI) cls (ME h g ss sa so_17 pl si fa_18 li (co + 1) st rq bl te op_19 wo wz sr le tx ro) H := hP
        have hD : va_D A (ME h g ss sa so_17 pl si fa_18 li (co + 1) st rq bl te op_19 wo wz sr le tx ro) := hD
        exact fin  (so_17, fa_18, op_19, (co + 1)) _ _ _ ls d_M_counting_39 ⟨(by (try dsimp only); omega), (by (try dsimp only); omega), (by (try dsimp only); omega), p_25, (by (try dsimp only); omega)⟩ hP hD hS
    · refine lv_aload_n hx hb d_M_counting_18 rfl (lv_at hl 0 rfl) ?_
      have hFc := va_free (wc := (ME h g ss sa so_17 pl si fa_18 li co st rq bl te op_19 wo wz sr le tx ro)) hD hS hA [0, 1, 2, 3, 4, 5, 6] rfl
      refine va_callv (va_runV (As := []) (rest := []) ⟨hx, hb, hml, hown, ht⟩ (c_M_fail l dC dI k h g ss sa so_17 pl si fa_18 li co st rq bl te op_19 wo le wz sr tx ro  _ (by omega) (by omega) (by omega) (by omega)) (cwV 0 ht (g_V k_763 k_765 k_50 k_80 k_766) rfl rfl rfl (by decide +kernel) ⟨(Nat.le_of_ble_eq_true rfl), (Nat.le_of_ble_eq_true rfl)⟩) ⟨fb_X, va_recv hK hP (ci := 4) (q0 := 0) rfl rfl, pre_X hE hS hFc hP hK hD⟩ rfl rfl hl.1 rfl (lv_room (Nat.le_of_ble_eq_true rfl)) d_M_counting_19 ⟨(Nat.le_of_ble_eq_true rfl), (Nat.le_of_ble_eq_true rfl)⟩) hS (fun q _ h9 => hFc q h9) hFc (fun u_32 t H locs het hvm hw hB hz1 hk1 hS => ?_)
      obtain ⟨so_29, fa_30, op_31⟩ := u_32
      try dsimp only at hw
      obtain ⟨p_34, p_35, p_36, p_37, p_38, p_39⟩ := hw
      obtain ⟨hP1, hK1, hD1⟩ := hB
      rw [het] at hP1
      have hP : va_P (dC, dI) cls (ME h g ss sa so_29 pl si fa_30 li co st rq bl te op_31 wo wz sr le tx ro) H := hP1
      have hD : va_D A (ME h g ss sa so_29 pl si fa_30 li co st rq bl te op_31 wo wz sr le tx ro) := hD1.weaken (fun _ _ _ h9 => hFc _ h9)
      have rl_40 : PS ss sa so_17 fa_18 op_19 sa so_29 fa_30 op_31 := pr_out (by omega) (by omega) (by omega) _ _ _ _ (by omega)
      have rl_41 := rRS p_25 rl_40
      refine lv_aload_n hx hb d_M_counting_22 rfl (lv_at hl 0 rfl) ?_
      refine va_get (D := (dC, dI)) (ci := 4) (v := .int fa_30) (C := "SieveDeskModel") (T := F_M) (N := 19) hx hb ht i_M hown hK hP 0 rfl rfl 10 (by decide) (ht _ k_637) (fun _ h9 => h9) rfl d_M_counting_23 ?_
      refine lv_if_ge (tgt := 39) hx hb d_M_counting_26 (by decide) (fun c_42 => ?_) (fun c_42 => ?_)
      · have dc_42 := i_le c_42 (show Int32.toInt 0 = 0 by decide) rfl
        exact fin  (so_29, fa_30, op_31, co) _ _ _ ls d_M_counting_39 ⟨(by (try dsimp only); omega), (by (try dsimp only); omega), (by (try dsimp only); omega), rl_41.pr, (by (try dsimp only); omega)⟩ hP hD hS
      · have dc_42 := i_nle c_42 (show Int32.toInt 0 = 0 by decide) rfl
        refine lv_aload_n hx hb d_M_counting_29 rfl (lv_at hl 0 rfl) ?_
        refine lv_aload_n hx hb d_M_counting_30 rfl (lv_at hl 0 rfl) ?_
        refine va_get (D := (dC, dI)) (ci := 4) (v := .int co) (C := "SieveDeskModel") (T := F_M) (N := 19) hx hb ht i_M hown hK hP 0 rfl rfl 12 (by decide) (ht _ k_639) (fun _ h9 => h9) rfl d_M_counting_31 ?_
        refine lv_iconst (v := 1) hx hb d_M_counting_34 (by decide) ?_
        refine lv_iadd hx hb d_M_counting_35 ?_
        refine va_put (D := (dC, dI)) (ci := 4) (v := .int (co + 1)) (ty := .int) (C := "SieveDeskModel") (T := F_M) (N := 19) hx hb ht i_M ty_M ty_M_ok n_M hown hK hP hD hS 0 rfl rfl 12 (by decide) (ht _ k_639) (fun _ h9 => h9) rfl (ty_M_ok 12 (by decide)) rfl rfl (Nat.le_of_ble_eq_true rfl) d_M_counting_36 (fun H locs hP hD hS => ?_)
        have hP : va_P (dC, dI) cls (ME h g ss sa so_29 pl si fa_30 li (co + 1) st rq bl te op_31 wo wz sr le tx ro) H := hP
        have hD : va_D A (ME h g ss sa so_29 pl si fa_30 li (co + 1) st rq bl te op_31 wo wz sr le tx ro) := hD
        exact fin  (so_29, fa_30, op_31, (co + 1)) _ _ _ ls d_M_counting_39 ⟨(by (try dsimp only); omega), (by (try dsimp only); omega), (by (try dsimp only); omega), rl_41.pr, (by (try dsimp only); omega)⟩ hP hD hS
set_option maxHeartbeats 4000000 in
set_option maxRecDepth 100000 in
theorem c_M_counting (l : Launch) (dC : Nat → ClassId) (dI : Nat → Nat → Nat) (k : Nat → Nat) (h : Nat → Nat) (g : Nat → ClassId) (ss : Int32) (sa : Int32) (so : Int32) (pl : Int32) (si : Int32) (fa : Int32) (li : Int32) (co : Int32) (st : Int32) (rq : Int32) (bl : Int32) (te : Int32) (op : Int32) (wo : Nat → Int64) (le : Nat → Int64) (wz : Nat → Int32) (sr : Nat → Int32) (tx : Nat → Int32) (ro : Nat → Int32) (bt : Int32) (sz : Nat) (h_0 : 0 ≤ Int32.toInt pl) (h_1 : Int32.toInt pl ≤ 400) (v_0 : -1 ≤ Int32.toInt fa) (v_1 : Int32.toInt fa ≤ 400) (v_2 : Int32.toInt fa < 0 ∨ (Int32.toInt so = 0 ∧ Int32.toInt op = 0)) : Met l y_M_counting (.code y_M_counting b_M_counting 2 none :: TT) ({ frames := 2, cells := 0, slots := 0, locals := 41 }) (va_Pc [.ref (h 0), .int bt] (PX dC dI k (TM g) (ME h g ss sa so pl si fa li co st rq bl te op wo wz sr le tx ro) sz)) (va_Qv (fun u : Int32 × Int32 × Int32 × Int32 => -1 ≤ Int32.toInt u.2.1 ∧ Int32.toInt u.2.1 ≤ 400 ∧ (Int32.toInt u.2.1 < 0 ∨ (Int32.toInt u.1 = 0 ∧ Int32.toInt u.2.2.1 = 0)) ∧ PR ss sa so fa op sa u.1 u.2.1 u.2.2.1 ∧ (0 ≤ Int32.toInt u.2.1 ∨ (Int32.toInt fa < 0 ∧ Int32.toInt u.2.1 < 0 ∧ Int32.toInt u.1 = Int32.toInt so))) (fun u t => BX dC dI (TM g) (va_A (ME h g ss sa so pl si fa li co st rq bl te op wo wz sr le tx ro) sz) (ME h g ss sa u.1 pl si u.2.1 li u.2.2.2 st rq bl te u.2.2.1 wo wz sr le tx ro) t) (va_A (ME h g ss sa so pl si fa li co st rq bl te op wo wz sr le tx ro) sz)) 0 0 (va_A (ME h g ss sa so pl si fa li co st rq bl te op wo wz sr le tx ro) sz) := by
  refine Met.ofW (cc := b_M_counting) (maxL := 2) (ret := none) (by decide) rfl ?_
  intro p e s m args below meth c s₁ B hml hv
  obtain ⟨rfl, hsz, hE, hP, hK, hD0⟩ := hv
  have hx := B.exec
  have hb := B.bytes
  have hr := B.returns
  have ht : ∀ w ∈ TT, w.before _ s = true := fun w hw => atoms_spec (ws := .code y_M_counting b_M_counting 2 none :: TT) B.pre w (List.mem_cons_of_mem _ hw)
  have hown : s.vm.findClass "SieveDeskModel" = some m.cls := findClass_of_methodNamed B.named
  have hlocks := B.notSynchronized
  subst hsz
  have hD := hD0.self (sz := s.heap.size)
  generalize hAe : va_A (ME h g ss sa so pl si fa li co st rq bl te op wo wz sr le tx ro) s.heap.size = A at hE hD ⊢
  have hA : ∀ q : Nat, s.heap.size ≤ q → A q := fun q h9 => by rw [← hAe]; exact Or.inr h9
  have hS : va_S A s.heap s.heap [] := va_S.rf
  have hl := lv_entry ([.ref (h 0), .int bt]) (n := 2) (Nat.le_of_ble_eq_true rfl)
  rw [lg_entry_eq]
  generalize (lg_sl ([.ref (h 0), .int bt]) ++ List.replicate (2 - (lg_sl ([.ref (h 0), .int bt])).length) Slot.unset).toArray = ls at hl ⊢
  have hl : lv_has ls 2 [(0, .ref (h 0)), (1, .int bt)] := hl
  exact bd_M_counting_0 (bt := bt) hx hb hml hown ht hE hA hK h_0 h_1 (fun u H locs pc ls hd hp hP hD hS => W.vret hx hb hr (fun t het hW => ⟨⟨u, rfl, hp, by rw [het]; exact hP, va_K.moved hW.alike hK, hD⟩, hS.F het⟩) hS.2.2 hd) so fa op co rfl rfl rfl v_0 v_1 v_2 _ _ ls hP hD hS hl
set_option maxHeartbeats 4000000 in
set_option maxRecDepth 100000 in
theorem bd_M_string_0 {p : Program} {l : Launch} {e : Env} {s : State} {m : MethodId} {args : Array Value} {below : List Frame} {meth : Method} {c : Code} {Q : State → Prop} {A : Nat → Prop} {dC : Nat → ClassId} {dI : Nat → Nat → Nat} {k h : Nat → Nat} {g : Nat → ClassId} {ss : Int32} {sa : Int32} {pl : Int32} {si : Int32} {li : Int32} {co : Int32} {rq : Int32} {bl : Int32} {te : Int32} {wo : Nat → Int64} {le : Nat → Int64} {wz : Nat → Int32} {sr : Nat → Int32} {tx : Nat → Int32} {ro : Nat → Int32} {so0 : Int32} {fa0 : Int32} {op0 : Int32} (hx : p.tables.exec = Jvm.exec) (hb : c.code = b_M_string) (hml : c.maxLocals = 1) (hown : s.vm.findClass "SieveDeskModel" = some m.cls) (ht : ∀ w ∈ TT, w.before args s = true) (hE : KE k A s s.heap) (hA : ∀ q : Nat, s.heap.size ≤ q → A q) (hK : va_K (dC, dI) cls (TM g) s)  (h_0 : 0 ≤ Int32.toInt pl) (h_1 : Int32.toInt pl ≤ 400) (fin : ∀ (u : Int32 × Int32 × Int32 × Int32) (H : Heap) (locs : List Loc) (pc : Nat) (ls : Array Slot), decode b_M_string pc = .ok (.return_, 1) → (-1 ≤ Int32.toInt u.2.1 ∧ Int32.toInt u.2.1 ≤ 400 ∧ (Int32.toInt u.2.1 < 0 ∨ (Int32.toInt u.1 = 0 ∧ Int32.toInt u.2.2.1 = 0)) ∧ PR ss sa so0 fa0 op0 sa u.1 u.2.1 u.2.2.1 ∧ (0 ≤ Int32.toInt u.2.1 ∨ (Int32.toInt fa0 < 0 ∧ Int32.toInt u.2.1 < 0 ∧ Int32.toInt u.1 = Int32.toInt so0)) ∧ (0 ≤ Int32.toInt u.2.1 ∨ Int32.toInt so0 = 4)) → va_P (dC, dI) cls (ME h g ss sa u.1 pl si u.2.1 li co u.2.2.2 rq bl te u.2.2.1 wo wz sr le tx ro) H → va_D A (ME h g ss sa u.1 pl si u.2.1 li co u.2.2.2 rq bl te u.2.2.1 wo wz sr le tx ro) → va_S A s.heap H locs → W p l e ({ frames := 1, cells := 0, slots := 0, locals := 21 } : Room) s m args below meth c H locs 0 0 Q (F0 m pc ls [])) : ∀ (so : Int32) (fa : Int32) (op : Int32) (st : Int32), so = so0 → fa = fa0 → op = op0 → -1 ≤ Int32.toInt fa → Int32.toInt fa ≤ 400 → (Int32.toInt fa < 0 ∨ (Int32.toInt so = 0 ∧ Int32.toInt op = 0)) → ∀ (H : Heap) (locs : List Loc) (ls : Array Slot), va_P (dC, dI) cls (ME h g ss sa so pl si fa li co st rq bl te op wo wz sr le tx ro) H → va_D A (ME h g ss sa so pl si fa li co st rq bl te op wo wz sr le tx ro) → va_S A s.heap H locs → lv_has ls 1 [(0, .ref (h 0))] → W p l e ({ frames := 1, cells := 0, slots := 0, locals := 21 } : Room) s m args below meth c H locs 0 0 Q (F0 m 0 ls []) := by
  intro so fa op st v_0 v_1 v_2 v_3 v_4 v_5 H locs ls hP hD hS hl
  subst v_0
  subst v_1
  subst v_2
  refine lv_aload_n hx hb d_M_string_0 rfl (lv_at hl 0 rfl) ?_
  refine lv_iconst (v := 4) hx hb d_M_string_1 (by decide) ?_
  have hc_4 : Int32.toInt 4 = 4 := by decide
  have hFc := va_free (wc := (ME h g ss sa so pl si fa li co st rq bl te op wo wz sr le tx ro)) hD hS hA [0, 1, 2, 3, 4, 5, 6] rfl
  refine va_calli (va_runV (As := [.int 4]) (rest := []) ⟨hx, hb, hml, hown, ht⟩ (c_M_is l dC dI k h g ss sa so pl si fa li co st rq bl te op wo le wz sr tx ro 4 _ (by omega) (by omega) ) (cwV 1 ht (g_V k_771 k_773 k_52 k_80 k_774) rfl rfl rfl (by decide +kernel) ⟨(Nat.le_of_ble_eq_true rfl), (Nat.le_of_ble_eq_true rfl)⟩) ⟨fb_X, va_recv hK hP (ci := 4) (q0 := 0) rfl rfl, pre_X hE hS hFc hP hK hD⟩ rfl rfl hl.1 rfl (lv_room (Nat.le_of_ble_eq_true rfl)) d_M_string_2 ⟨(Nat.le_of_ble_eq_true rfl), (Nat.le_of_ble_eq_true rfl)⟩) hS (fun q _ h9 => hFc q h9) hFc (fun r_2 u_1 t H locs het hvm hw hB hz1 hk1 hS => ?_)
  obtain ⟨p_3, p_4⟩ := hw
  obtain ⟨hP1, hK1, hD1⟩ := hB
  rw [het] at hP1
  have hP : va_P (dC, dI) cls (ME h g ss sa so pl si fa li co st rq bl te op wo wz sr le tx ro) H := hP1
  have hD : va_D A (ME h g ss sa so pl si fa li co st rq bl te op wo wz sr le tx ro) := hD1.weaken (fun _ _ _ h9 => hFc _ h9)
  refine lv_if_eq (tgt := 17) hx hb d_M_string_5 (by decide) (fun c_5 => ?_) (fun c_5 => ?_)
  · have dc_5 := i_eq c_5 rfl (show Int32.toInt 0 = 0 by decide)
    refine lv_aload_n hx hb d_M_string_17 rfl (lv_at hl 0 rfl) ?_
    have hFc := va_free (wc := (ME h g ss sa so pl si fa li co st rq bl te op wo wz sr le tx ro)) hD hS hA [0, 1, 2, 3, 4, 5, 6] rfl
    refine va_callv (va_runV (As := []) (rest := []) ⟨hx, hb, hml, hown, ht⟩ (c_M_fail l dC dI k h g ss sa so pl si fa li co st rq bl te op wo le wz sr tx ro  _ (by omega) (by omega) (by omega) (by omega)) (cwV 0 ht (g_V k_763 k_765 k_50 k_80 k_766) rfl rfl rfl (by decide +kernel) ⟨(Nat.le_of_ble_eq_true rfl), (Nat.le_of_ble_eq_true rfl)⟩) ⟨fb_X, va_recv hK hP (ci := 4) (q0 := 0) rfl rfl, pre_X hE hS hFc hP hK hD⟩ rfl rfl hl.1 rfl (lv_room (Nat.le_of_ble_eq_true rfl)) d_M_string_18 ⟨(Nat.le_of_ble_eq_true rfl), (Nat.le_of_ble_eq_true rfl)⟩) hS (fun q _ h9 => hFc q h9) hFc (fun u_9 t H locs het hvm hw hB hz1 hk1 hS => ?_)
    obtain ⟨so_6, fa_7, op_8⟩ := u_9
    try dsimp only at hw
    obtain ⟨p_11, p_12, p_13, p_14, p_15, p_16⟩ := hw
    obtain ⟨hP1, hK1, hD1⟩ := hB
    rw [het] at hP1
    have hP : va_P (dC, dI) cls (ME h g ss sa so_6 pl si fa_7 li co st rq bl te op_8 wo wz sr le tx ro) H := hP1
    have hD : va_D A (ME h g ss sa so_6 pl si fa_7 li co st rq bl te op_8 wo wz sr le tx ro) := hD1.weaken (fun _ _ _ h9 => hFc _ h9)
    have rl_17 : PS ss sa so fa op sa so_6 fa_7 op_8 := pr_out (by omega) (by omega) (by omega) _ _ _ _ (by omega)
    refine lv_aload_n hx hb d_M_string_21 rfl (lv_at hl 0 rfl) ?_
    refine va_get (D := (dC, dI)) (ci := 4) (v := .int fa_7) (C := "SieveDeskModel") (T := F_M) (N := 19) hx hb ht i_M hown hK hP 0 rfl rfl 10 (by decide) (ht _ k_637) (fun _ h9 => h9) rfl d_M_string_22 ?_
    refine lv_if_ge (tgt := 38) hx hb d_M_string_25 (by decide) (fun c_18 => ?_) (fun c_18 => ?_)
    · have dc_18 := i_le c_18 (show Int32.toInt 0 = 0 by decide) rfl
      exact fin  (so_6, fa_7, op_8, st) _ _ _ ls d_M_string_38 ⟨(by (try dsimp only); omega), (by (try dsimp only); omega), (by (try dsimp only); omega), (pr_same (by (try dsimp only); omega)), (by (try dsimp only); omega), (by (try dsimp only); omega)⟩ hP hD hS
    · have dc_18 := i_nle c_18 (show Int32.toInt 0 = 0 by decide) rfl
      refine lv_aload_n hx hb d_M_string_28 rfl (lv_at hl 0 rfl) ?_
      refine lv_aload_n hx hb d_M_string_29 rfl (lv_at hl 0 rfl) ?_
      refine va_get (D := (dC, dI)) (ci := 4) (v := .int st) (C := "SieveDeskModel") (T := F_M) (N := 19) hx hb ht i_M hown hK hP 0 rfl rfl 13 (by decide) (ht _ k_640) (fun _ h9 => h9) rfl d_M_string_30 ?_
      refine lv_iconst (v := 1) hx hb d_M_string_33 (by decide) ?_
      refine lv_iadd hx hb d_M_string_34 ?_
      refine va_put (D := (dC, dI)) (ci := 4) (v := .int (st + 1)) (ty := .int) (C := "SieveDeskModel") (T := F_M) (N := 19) hx hb ht i_M ty_M ty_M_ok n_M hown hK hP hD hS 0 rfl rfl 13 (by decide) (ht _ k_640) (fun _ h9 => h9) rfl (ty_M_ok 13 (by decide)) rfl rfl (Nat.le_of_ble_eq_true rfl) d_M_string_35 (fun H locs hP hD hS => ?_)
      have hP : va_P (dC, dI) cls (ME h g ss sa so_6 pl si fa_7 li co (st + 1) rq bl te op_8 wo wz sr le tx ro) H := hP
      have hD : va_D A (ME h g ss sa so_6 pl si fa_7 li co (st + 1) rq bl te op_8 wo wz sr le tx ro) := hD
      exact fin  (so_6, fa_7, op_8, (st + 1)) _ _ _ ls d_M_string_38 ⟨(by (try dsimp only); omega), (by (try dsimp only); omega), (by (try dsimp only); omega), (pr_same (by (try dsimp only); omega)), (by (try dsimp only); omega), (by (try dsimp only); omega)⟩ hP hD hS
  · have dc_5 := i_ne c_5 rfl (show Int32.toInt 0 = 0 by decide)
    refine lv_aload_n hx hb d_M_string_8 rfl (lv_at hl 0 rfl) ?_
    refine va_get (D := (dC, dI)) (ci := 4) (v := .int st) (C := "SieveDeskModel") (T := F_M) (N := 19) hx hb ht i_M hown hK hP 0 rfl rfl 13 (by decide) (ht _ k_640) (fun _ h9 => h9) rfl d_M_string_9 ?_
    refine lv_bipush (v := 60) hx hb d_M_string_12 (by decide) ?_
    refine lv_icmp_ne (tgt := 21) hx hb d_M_string_14 (by decide) (fun c_19 => ?_) (fun c_19 => ?_)
    · refine lv_aload_n hx hb d_M_string_21 rfl (lv_at hl 0 rfl) ?_
      refine va_get (D := (dC, dI)) (ci := 4) (v := .int fa) (C := "SieveDeskModel") (T := F_M) (N := 19) hx hb ht i_M hown hK hP 0 rfl rfl 10 (by decide) (ht _ k_637) (fun _ h9 => h9) rfl d_M_string_22 ?_
      refine lv_if_ge (tgt := 38) hx hb d_M_string_25 (by decide) (fun c_20 => ?_) (fun c_20 => ?_)
      · have dc_20 := i_le c_20 (show Int32.toInt 0 = 0 by decide) rfl
        exact fin  (so, fa, op, st) _ _ _ ls d_M_string_38 ⟨(by (try dsimp only); omega), (by (try dsimp only); omega), (by (try dsimp only); omega), (pr_same (by (try dsimp only); omega)), (by (try dsimp only); omega), (by (try dsimp only); omega)⟩ hP hD hS
      · have dc_20 := i_nle c_20 (show Int32.toInt 0 = 0 by decide) rfl
        refine lv_aload_n hx hb d_M_string_28 rfl (lv_at hl 0 rfl) ?_
        refine lv_aload_n hx hb d_M_string_29 rfl (lv_at hl 0 rfl) ?_
        refine va_get (D := (dC, dI)) (ci := 4) (v := .int st) (C := "SieveDeskModel") (T := F_M) (N := 19) hx hb ht i_M hown hK hP 0 rfl rfl 13 (by decide) (ht _ k_640) (fun _ h9 => h9) rfl d_M_string_30 ?_
        refine lv_iconst (v := 1) hx hb d_M_string_33 (by decide) ?_
        refine lv_iadd hx hb d_M_string_34 ?_
        refine va_put (D := (dC, dI)) (ci := 4) (v := .int (st + 1)) (ty := .int) (C := "SieveDeskModel") (T := F_M) (N := 19) hx hb ht i_M ty_M ty_M_ok n_M hown hK hP hD hS 0 rfl rfl 13 (by decide) (ht _ k_640) (fun _ h9 => h9) rfl (ty_M_ok 13 (by decide)) rfl rfl (Nat.le_of_ble_eq_true rfl) d_M_string_35 (fun H locs hP hD hS => ?_)
        have hP : va_P (dC, dI) cls (ME h g ss sa so pl si fa li co (st + 1) rq bl te op wo wz sr le tx ro) H := hP
        have hD : va_D A (ME h g ss sa so pl si fa li co (st + 1) rq bl te op wo wz sr le tx ro) := hD
        exact fin  (so, fa, op, (st + 1)) _ _ _ ls d_M_string_38 ⟨(by (try dsimp only); omega), (by (try dsimp only); omega), (by (try dsimp only); omega), (pr_same (by (try dsimp only); omega)), (by (try dsimp only); omega), (by (try dsimp only); omega)⟩ hP hD hS
    · refine lv_aload_n hx hb d_M_string_17 rfl (lv_at hl 0 rfl) ?_
      have hFc := va_free (wc := (ME h g ss sa so pl si fa li co st rq bl te op wo wz sr le tx ro)) hD hS hA [0, 1, 2, 3, 4, 5, 6] rfl
      refine va_callv (va_runV (As := []) (rest := []) ⟨hx, hb, hml, hown, ht⟩ (c_M_fail l dC dI k h g ss sa so pl si fa li co st rq bl te op wo le wz sr tx ro  _ (by omega) (by omega) (by omega) (by omega)) (cwV 0 ht (g_V k_763 k_765 k_50 k_80 k_766) rfl rfl rfl (by decide +kernel) ⟨(Nat.le_of_ble_eq_true rfl), (Nat.le_of_ble_eq_true rfl)⟩) ⟨fb_X, va_recv hK hP (ci := 4) (q0 := 0) rfl rfl, pre_X hE hS hFc hP hK hD⟩ rfl rfl hl.1 rfl (lv_room (Nat.le_of_ble_eq_true rfl)) d_M_string_18 ⟨(Nat.le_of_ble_eq_true rfl), (Nat.le_of_ble_eq_true rfl)⟩) hS (fun q _ h9 => hFc q h9) hFc (fun u_24 t H locs het hvm hw hB hz1 hk1 hS => ?_)
      obtain ⟨so_21, fa_22, op_23⟩ := u_24
      try dsimp only at hw
      obtain ⟨p_26, p_27, p_28, p_29, p_30, p_31⟩ := hw
      obtain ⟨hP1, hK1, hD1⟩ := hB
      rw [het] at hP1
      have hP : va_P (dC, dI) cls (ME h g ss sa so_21 pl si fa_22 li co st rq bl te op_23 wo wz sr le tx ro) H := hP1
      have hD : va_D A (ME h g ss sa so_21 pl si fa_22 li co st rq bl te op_23 wo wz sr le tx ro) := hD1.weaken (fun _ _ _ h9 => hFc _ h9)
      have rl_32 : PS ss sa so fa op sa so_21 fa_22 op_23 := pr_out (by omega) (by omega) (by omega) _ _ _ _ (by omega)
      refine lv_aload_n hx hb d_M_string_21 rfl (lv_at hl 0 rfl) ?_
      refine va_get (D := (dC, dI)) (ci := 4) (v := .int fa_22) (C := "SieveDeskModel") (T := F_M) (N := 19) hx hb ht i_M hown hK hP 0 rfl rfl 10 (by decide) (ht _ k_637) (fun _ h9 => h9) rfl d_M_string_22 ?_
      refine lv_if_ge (tgt := 38) hx hb d_M_string_25 (by decide) (fun c_33 => ?_) (fun c_33 => ?_)
      · have dc_33 := i_le c_33 (show Int32.toInt 0 = 0 by decide) rfl
        exact fin  (so_21, fa_22, op_23, st) _ _ _ ls d_M_string_38 ⟨(by (try dsimp only); omega), (by (try dsimp only); omega), (by (try dsimp only); omega), (pr_same (by (try dsimp only); omega)), (by (try dsimp only); omega), (by (try dsimp only); omega)⟩ hP hD hS
      · have dc_33 := i_nle c_33 (show Int32.toInt 0 = 0 by decide) rfl
        refine lv_aload_n hx hb d_M_string_28 rfl (lv_at hl 0 rfl) ?_
        refine lv_aload_n hx hb d_M_string_29 rfl (lv_at hl 0 rfl) ?_
        refine va_get (D := (dC, dI)) (ci := 4) (v := .int st) (C := "SieveDeskModel") (T := F_M) (N := 19) hx hb ht i_M hown hK hP 0 rfl rfl 13 (by decide) (ht _ k_640) (fun _ h9 => h9) rfl d_M_string_30 ?_
        refine lv_iconst (v := 1) hx hb d_M_string_33 (by decide) ?_
        refine lv_iadd hx hb d_M_string_34 ?_
        refine va_put (D := (dC, dI)) (ci := 4) (v := .int (st + 1)) (ty := .int) (C := "SieveDeskModel") (T := F_M) (N := 19) hx hb ht i_M ty_M ty_M_ok n_M hown hK hP hD hS 0 rfl rfl 13 (by decide) (ht _ k_640) (fun _ h9 => h9) rfl (ty_M_ok 13 (by decide)) rfl rfl (Nat.le_of_ble_eq_true rfl) d_M_string_35 (fun H locs hP hD hS => ?_)
        have hP : va_P (dC, dI) cls (ME h g ss sa so_21 pl si fa_22 li co (st + 1) rq bl te op_23 wo wz sr le tx ro) H := hP
        have hD : va_D A (ME h g ss sa so_21 pl si fa_22 li co (st + 1) rq bl te op_23 wo wz sr le tx ro) := hD
        exact fin  (so_21, fa_22, op_23, (st + 1)) _ _ _ ls d_M_string_38 ⟨(by (try dsimp only); omega), (by (try dsimp only); omega), (by (try dsimp only); omega), (pr_same (by (try dsimp only); omega)), (by (try dsimp only); omega), (by (try dsimp only); omega)⟩ hP hD hS
set_option maxHeartbeats 4000000 in
set_option maxRecDepth 100000 in
theorem c_M_string (l : Launch) (dC : Nat → ClassId) (dI : Nat → Nat → Nat) (k : Nat → Nat) (h : Nat → Nat) (g : Nat → ClassId) (ss : Int32) (sa : Int32) (so : Int32) (pl : Int32) (si : Int32) (fa : Int32) (li : Int32) (co : Int32) (st : Int32) (rq : Int32) (bl : Int32) (te : Int32) (op : Int32) (wo : Nat → Int64) (le : Nat → Int64) (wz : Nat → Int32) (sr : Nat → Int32) (tx : Nat → Int32) (ro : Nat → Int32)  (sz : Nat) (h_0 : 0 ≤ Int32.toInt pl) (h_1 : Int32.toInt pl ≤ 400) (v_0 : -1 ≤ Int32.toInt fa) (v_1 : Int32.toInt fa ≤ 400) (v_2 : Int32.toInt fa < 0 ∨ (Int32.toInt so = 0 ∧ Int32.toInt op = 0)) : Met l y_M_string (.code y_M_string b_M_string 1 none :: TT) ({ frames := 1, cells := 0, slots := 0, locals := 21 }) (va_Pc [.ref (h 0)] (PX dC dI k (TM g) (ME h g ss sa so pl si fa li co st rq bl te op wo wz sr le tx ro) sz)) (va_Qv (fun u : Int32 × Int32 × Int32 × Int32 => -1 ≤ Int32.toInt u.2.1 ∧ Int32.toInt u.2.1 ≤ 400 ∧ (Int32.toInt u.2.1 < 0 ∨ (Int32.toInt u.1 = 0 ∧ Int32.toInt u.2.2.1 = 0)) ∧ PR ss sa so fa op sa u.1 u.2.1 u.2.2.1 ∧ (0 ≤ Int32.toInt u.2.1 ∨ (Int32.toInt fa < 0 ∧ Int32.toInt u.2.1 < 0 ∧ Int32.toInt u.1 = Int32.toInt so)) ∧ (0 ≤ Int32.toInt u.2.1 ∨ Int32.toInt so = 4)) (fun u t => BX dC dI (TM g) (va_A (ME h g ss sa so pl si fa li co st rq bl te op wo wz sr le tx ro) sz) (ME h g ss sa u.1 pl si u.2.1 li co u.2.2.2 rq bl te u.2.2.1 wo wz sr le tx ro) t) (va_A (ME h g ss sa so pl si fa li co st rq bl te op wo wz sr le tx ro) sz)) 0 0 (va_A (ME h g ss sa so pl si fa li co st rq bl te op wo wz sr le tx ro) sz) := by
  refine Met.ofW (cc := b_M_string) (maxL := 1) (ret := none) (by decide) rfl ?_
  intro p e s m args below meth c s₁ B hml hv
  obtain ⟨rfl, hsz, hE, hP, hK, hD0⟩ := hv
  have hx := B.exec
  have hb := B.bytes
  have hr := B.returns
  have ht : ∀ w ∈ TT, w.before _ s = true := fun w hw => atoms_spec (ws := .code y_M_string b_M_string 1 none :: TT) B.pre w (List.mem_cons_of_mem _ hw)
  have hown : s.vm.findClass "SieveDeskModel" = some m.cls := findClass_of_methodNamed B.named
  have hlocks := B.notSynchronized
  subst hsz
  have hD := hD0.self (sz := s.heap.size)
  generalize hAe : va_A (ME h g ss sa so pl si fa li co st rq bl te op wo wz sr le tx ro) s.heap.size = A at hE hD ⊢
  have hA : ∀ q : Nat, s.heap.size ≤ q → A q := fun q h9 => by rw [← hAe]; exact Or.inr h9
  have hS : va_S A s.heap s.heap [] := va_S.rf
  have hl := lv_entry ([.ref (h 0)]) (n := 1) (Nat.le_of_ble_eq_true rfl)
  rw [lg_entry_eq]
  generalize (lg_sl ([.ref (h 0)]) ++ List.replicate (1 - (lg_sl ([.ref (h 0)])).length) Slot.unset).toArray = ls at hl ⊢
  have hl : lv_has ls 1 [(0, .ref (h 0))] := hl
  exact bd_M_string_0  hx hb hml hown ht hE hA hK h_0 h_1 (fun u H locs pc ls hd hp hP hD hS => W.vret hx hb hr (fun t het hW => ⟨⟨u, rfl, hp, by rw [het]; exact hP, va_K.moved hW.alike hK, hD⟩, hS.F het⟩) hS.2.2 hd) so fa op st rfl rfl rfl v_0 v_1 v_2 _ _ ls hP hD hS hl
set_option maxHeartbeats 4000000 in
set_option maxRecDepth 100000 in
theorem bd_M_taken_0 {p : Program} {l : Launch} {e : Env} {s : State} {m : MethodId} {args : Array Value} {below : List Frame} {meth : Method} {c : Code} {Q : State → Prop} {A : Nat → Prop} {dC : Nat → ClassId} {dI : Nat → Nat → Nat} {k h : Nat → Nat} {g : Nat → ClassId} {ss : Int32} {li : Int32} {co : Int32} {rq : Int32} {bl : Int32} {te : Int32} {wo : Nat → Int64} {wz : Nat → Int32} {sr : Nat → Int32} {ro : Nat → Int32} {sa0 : Int32} {so0 : Int32} {fa0 : Int32} {op0 : Int32} (hx : p.tables.exec = Jvm.exec) (hb : c.code = b_M_taken) (hml : c.maxLocals = 1) (hown : s.vm.findClass "SieveDeskModel" = some m.cls) (ht : ∀ w ∈ TT, w.before args s = true) (hE : KE k A s s.heap) (hA : ∀ q : Nat, s.heap.size ≤ q → A q) (hK : va_K (dC, dI) cls (TM g) s)  (h_0 : 0 ≤ Int32.toInt ss) (h_1 : Int32.toInt ss ≤ 400) (fin : ∀ (u : Int32 × Int32 × Int32 × Int32 × Int32 × Int32 × (Nat → Int64) × (Nat → Int32) × Int32) (H : Heap) (locs : List Loc) (pc : Nat) (ls : Array Slot), decode b_M_taken pc = .ok (.return_, 1) → (0 ≤ Int32.toInt u.1 ∧ Int32.toInt u.1 ≤ Int32.toInt ss ∧ 0 ≤ Int32.toInt u.2.2.1 ∧ Int32.toInt u.2.2.1 ≤ 400 ∧ -1 ≤ Int32.toInt u.2.2.2.1 ∧ Int32.toInt u.2.2.2.1 ≤ 400 ∧ (Int32.toInt u.2.2.2.1 < 0 ∨ (Int32.toInt u.2.1 = 0 ∧ Int32.toInt u.2.2.2.2.1 = 0)) ∧ 0 ≤ Int32.toInt u.2.2.2.2.2.1 ∧ Int32.toInt u.2.2.2.2.2.1 ≤ 400 ∧ PS ss sa0 so0 fa0 op0 u.1 u.2.1 u.2.2.2.1 u.2.2.2.2.1) → va_P (dC, dI) cls (ME h g ss u.1 u.2.1 u.2.2.1 u.2.2.2.2.2.1 u.2.2.2.1 li co u.2.2.2.2.2.2.2.2 rq bl te u.2.2.2.2.1 wo wz sr u.2.2.2.2.2.2.1 u.2.2.2.2.2.2.2.1 ro) H → va_D A (ME h g ss u.1 u.2.1 u.2.2.1 u.2.2.2.2.2.1 u.2.2.2.1 li co u.2.2.2.2.2.2.2.2 rq bl te u.2.2.2.2.1 wo wz sr u.2.2.2.2.2.2.1 u.2.2.2.2.2.2.2.1 ro) → va_S A s.heap H locs → W p l e ({ frames := 5, cells := 0, slots := 0, locals := 106 } : Room) s m args below meth c H locs 0 0 Q (F0 m pc ls [])) : ∀ (sa : Int32) (so : Int32) (pl : Int32) (fa : Int32) (op : Int32) (si : Int32) (le : Nat → Int64) (tx : Nat → Int32) (st : Int32), sa = sa0 → so = so0 → fa = fa0 → op = op0 → 0 ≤ Int32.toInt sa → Int32.toInt sa ≤ Int32.toInt ss → 0 ≤ Int32.toInt pl → Int32.toInt pl ≤ 400 → -1 ≤ Int32.toInt fa → Int32.toInt fa ≤ 400 → (Int32.toInt fa < 0 ∨ (Int32.toInt so = 0 ∧ Int32.toInt op = 0)) → 0 ≤ Int32.toInt si → Int32.toInt si ≤ 400 → ∀ (H : Heap) (locs : List Loc) (ls : Array Slot), va_P (dC, dI) cls (ME h g ss sa so pl si fa li co st rq bl te op wo wz sr le tx ro) H → va_D A (ME h g ss sa so pl si fa li co st rq bl te op wo wz sr le tx ro) → va_S A s.heap H locs → lv_has ls 1 [(0, .ref (h 0))] → W p l e ({ frames := 5, cells := 0, slots := 0, locals := 106 } : Room) s m args below meth c H locs 0 0 Q (F0 m 0 ls []) := by
  intro sa so pl fa op si le tx st v_0 v_1 v_2 v_3 v_4 v_5 v_6 v_7 v_8 v_9 v_10 v_11 v_12 H locs ls hP hD hS hl
  subst v_0
  subst v_1
  subst v_2
  subst v_3
  refine lv_aload_n hx hb d_M_taken_0 rfl (lv_at hl 0 rfl) ?_
  have hFc := va_free (wc := (ME h g ss sa so pl si fa li co st rq bl te op wo wz sr le tx ro)) hD hS hA [0, 1, 2, 3, 4, 5, 6] rfl
  refine va_callv (va_runV (As := []) (rest := []) ⟨hx, hb, hml, hown, ht⟩ (c_M_string l dC dI k h g ss sa so pl si fa li co st rq bl te op wo le wz sr tx ro  _ (by omega) (by omega) (by omega) (by omega) (by omega)) (cwV 0 ht (g_V k_783 k_785 k_55 k_80 k_786) rfl rfl rfl (by decide +kernel) ⟨(Nat.le_of_ble_eq_true rfl), (Nat.le_of_ble_eq_true rfl)⟩) ⟨fb_X, va_recv hK hP (ci := 4) (q0 := 0) rfl rfl, pre_X hE hS hFc hP hK hD⟩ rfl rfl hl.1 rfl (lv_room (Nat.le_of_ble_eq_true rfl)) d_M_taken_1 ⟨(Nat.le_of_ble_eq_true rfl), (Nat.le_of_ble_eq_true rfl)⟩) hS (fun q _ h9 => hFc q h9) hFc (fun u_5 t H locs het hvm hw hB hz1 hk1 hS => ?_)
  obtain ⟨so_1, fa_2, op_3, st_4⟩ := u_5
  try dsimp only at hw
  obtain ⟨p_7, p_8, p_9, p_10, p_11, p_12⟩ := hw
  obtain ⟨hP1, hK1, hD1⟩ := hB
  rw [het] at hP1
  have hP : va_P (dC, dI) cls (ME h g ss sa so_1 pl si fa_2 li co st_4 rq bl te op_3 wo wz sr le tx ro) H := hP1
  have hD : va_D A (ME h g ss sa so_1 pl si fa_2 li co st_4 rq bl te op_3 wo wz sr le tx ro) := hD1.weaken (fun _ _ _ h9 => hFc _ h9)
  refine lv_aload_n hx hb d_M_taken_4 rfl (lv_at hl 0 rfl) ?_
  have hFc := va_free (wc := (ME h g ss sa so_1 pl si fa_2 li co st_4 rq bl te op_3 wo wz sr le tx ro)) hD hS hA [0, 1, 2, 3, 4, 5, 6] rfl
  refine va_callv (va_runV (As := []) (rest := []) ⟨hx, hb, hml, hown, ht⟩ (c_M_next l dC dI k h g ss sa so_1 pl si fa_2 li co st_4 rq bl te op_3 wo le wz sr tx ro  _ (by omega) (by omega) (by omega) (by omega) (by omega) (by omega) (by omega) (by omega) (by omega) (by omega) (by omega)) (cwV 0 ht (g_V k_694 k_696 k_37 k_80 k_697) rfl rfl rfl (by decide +kernel) ⟨(Nat.le_of_ble_eq_true rfl), (Nat.le_of_ble_eq_true rfl)⟩) ⟨fb_X, va_recv hK hP (ci := 4) (q0 := 0) rfl rfl, pre_X hE hS hFc hP hK hD⟩ rfl rfl hl.1 rfl (lv_room (Nat.le_of_ble_eq_true rfl)) d_M_taken_5 ⟨(Nat.le_of_ble_eq_true rfl), (Nat.le_of_ble_eq_true rfl)⟩) hS (fun q _ h9 => hFc q h9) hFc (fun u_21 t H locs het hvm hw hB hz1 hk1 hS => ?_)
  obtain ⟨sa_13, so_14, pl_15, fa_16, op_17, si_18, le_19, tx_20⟩ := u_21
  try dsimp only at hw
  obtain ⟨p_23, p_24, p_25, p_26, p_27, p_28, p_29, p_30, p_31, p_32, p_33⟩ := hw
  obtain ⟨hP1, hK1, hD1⟩ := hB
  rw [het] at hP1
  have hP : va_P (dC, dI) cls (ME h g ss sa_13 so_14 pl_15 si_18 fa_16 li co st_4 rq bl te op_17 wo wz sr le_19 tx_20 ro) H := hP1
  have hD : va_D A (ME h g ss sa_13 so_14 pl_15 si_18 fa_16 li co st_4 rq bl te op_17 wo wz sr le_19 tx_20 ro) := hD1.weaken (fun _ _ _ h9 => hFc _ h9)
  have rl_34 := p_33.resolve_right (by omega)
  have rl_35 := rRS p_10 rl_34
  exact fin  (sa_13, so_14, pl_15, fa_16, op_17, si_18, le_19, tx_20, st_4) _ _ _ ls d_M_taken_8 ⟨(by (try dsimp only); omega), (by (try dsimp only); omega), (by (try dsimp only); omega), (by (try dsimp only); omega), (by (try dsimp only); omega), (by (try dsimp only); omega), (by (try dsimp only); omega), (by (try dsimp only); omega), (by (try dsimp only); omega), rl_35⟩ hP hD hS
set_option maxHeartbeats 4000000 in
set_option maxRecDepth 100000 in
theorem c_M_taken (l : Launch) (dC : Nat → ClassId) (dI : Nat → Nat → Nat) (k : Nat → Nat) (h : Nat → Nat) (g : Nat → ClassId) (ss : Int32) (sa : Int32) (so : Int32) (pl : Int32) (si : Int32) (fa : Int32) (li : Int32) (co : Int32) (st : Int32) (rq : Int32) (bl : Int32) (te : Int32) (op : Int32) (wo : Nat → Int64) (le : Nat → Int64) (wz : Nat → Int32) (sr : Nat → Int32) (tx : Nat → Int32) (ro : Nat → Int32)  (sz : Nat) (h_0 : 0 ≤ Int32.toInt ss) (h_1 : Int32.toInt ss ≤ 400) (v_0 : 0 ≤ Int32.toInt sa) (v_1 : Int32.toInt sa ≤ Int32.toInt ss) (v_2 : 0 ≤ Int32.toInt pl) (v_3 : Int32.toInt pl ≤ 400) (v_4 : -1 ≤ Int32.toInt fa) (v_5 : Int32.toInt fa ≤ 400) (v_6 : Int32.toInt fa < 0 ∨ (Int32.toInt so = 0 ∧ Int32.toInt op = 0)) (v_7 : 0 ≤ Int32.toInt si) (v_8 : Int32.toInt si ≤ 400) : Met l y_M_taken (.code y_M_taken b_M_taken 1 none :: TT) ({ frames := 5, cells := 0, slots := 0, locals := 106 }) (va_Pc [.ref (h 0)] (PX dC dI k (TM g) (ME h g ss sa so pl si fa li co st rq bl te op wo wz sr le tx ro) sz)) (va_Qv (fun u : Int32 × Int32 × Int32 × Int32 × Int32 × Int32 × (Nat → Int64) × (Nat → Int32) × Int32 => 0 ≤ Int32.toInt u.1 ∧ Int32.toInt u.1 ≤ Int32.toInt ss ∧ 0 ≤ Int32.toInt u.2.2.1 ∧ Int32.toInt u.2.2.1 ≤ 400 ∧ -1 ≤ Int32.toInt u.2.2.2.1 ∧ Int32.toInt u.2.2.2.1 ≤ 400 ∧ (Int32.toInt u.2.2.2.1 < 0 ∨ (Int32.toInt u.2.1 = 0 ∧ Int32.toInt u.2.2.2.2.1 = 0)) ∧ 0 ≤ Int32.toInt u.2.2.2.2.2.1 ∧ Int32.toInt u.2.2.2.2.2.1 ≤ 400 ∧ PS ss sa so fa op u.1 u.2.1 u.2.2.2.1 u.2.2.2.2.1) (fun u t => BX dC dI (TM g) (va_A (ME h g ss sa so pl si fa li co st rq bl te op wo wz sr le tx ro) sz) (ME h g ss u.1 u.2.1 u.2.2.1 u.2.2.2.2.2.1 u.2.2.2.1 li co u.2.2.2.2.2.2.2.2 rq bl te u.2.2.2.2.1 wo wz sr u.2.2.2.2.2.2.1 u.2.2.2.2.2.2.2.1 ro) t) (va_A (ME h g ss sa so pl si fa li co st rq bl te op wo wz sr le tx ro) sz)) 0 0 (va_A (ME h g ss sa so pl si fa li co st rq bl te op wo wz sr le tx ro) sz) := by
  refine Met.ofW (cc := b_M_taken) (maxL := 1) (ret := none) (by decide) rfl ?_
  intro p e s m args below meth c s₁ B hml hv
  obtain ⟨rfl, hsz, hE, hP, hK, hD0⟩ := hv
  have hx := B.exec
  have hb := B.bytes
  have hr := B.returns
  have ht : ∀ w ∈ TT, w.before _ s = true := fun w hw => atoms_spec (ws := .code y_M_taken b_M_taken 1 none :: TT) B.pre w (List.mem_cons_of_mem _ hw)
  have hown : s.vm.findClass "SieveDeskModel" = some m.cls := findClass_of_methodNamed B.named
  have hlocks := B.notSynchronized
  subst hsz
  have hD := hD0.self (sz := s.heap.size)
  generalize hAe : va_A (ME h g ss sa so pl si fa li co st rq bl te op wo wz sr le tx ro) s.heap.size = A at hE hD ⊢
  have hA : ∀ q : Nat, s.heap.size ≤ q → A q := fun q h9 => by rw [← hAe]; exact Or.inr h9
  have hS : va_S A s.heap s.heap [] := va_S.rf
  have hl := lv_entry ([.ref (h 0)]) (n := 1) (Nat.le_of_ble_eq_true rfl)
  rw [lg_entry_eq]
  generalize (lg_sl ([.ref (h 0)]) ++ List.replicate (1 - (lg_sl ([.ref (h 0)])).length) Slot.unset).toArray = ls at hl ⊢
  have hl : lv_has ls 1 [(0, .ref (h 0))] := hl
  exact bd_M_taken_0  hx hb hml hown ht hE hA hK h_0 h_1 (fun u H locs pc ls hd hp hP hD hS => W.vret hx hb hr (fun t het hW => ⟨⟨u, rfl, hp, by rw [het]; exact hP, va_K.moved hW.alike hK, hD⟩, hS.F het⟩) hS.2.2 hd) sa so pl fa op si le tx st rfl rfl rfl rfl v_0 v_1 v_2 v_3 v_4 v_5 v_6 v_7 v_8 _ _ ls hP hD hS hl
set_option maxHeartbeats 4000000 in
set_option maxRecDepth 100000 in
theorem bd_M_number_0 {p : Program} {l : Launch} {e : Env} {s : State} {m : MethodId} {args : Array Value} {below : List Frame} {meth : Method} {c : Code} {Q : State → Prop} {A : Nat → Prop} {dC : Nat → ClassId} {dI : Nat → Nat → Nat} {k h : Nat → Nat} {g : Nat → ClassId} {ss : Int32} {li : Int32} {co : Int32} {st : Int32} {rq : Int32} {bl : Int32} {te : Int32} {wo : Nat → Int64} {wz : Nat → Int32} {sr : Nat → Int32} {ro : Nat → Int32} {sa0 : Int32} {so0 : Int32} {fa0 : Int32} {op0 : Int32} (hx : p.tables.exec = Jvm.exec) (hb : c.code = b_M_number) (hml : c.maxLocals = 1) (hown : s.vm.findClass "SieveDeskModel" = some m.cls) (ht : ∀ w ∈ TT, w.before args s = true) (hE : KE k A s s.heap) (hA : ∀ q : Nat, s.heap.size ≤ q → A q) (hK : va_K (dC, dI) cls (TM g) s)  (h_0 : 0 ≤ Int32.toInt ss) (h_1 : Int32.toInt ss ≤ 400) (fin : ∀ (u : Int32 × Int32 × Int32 × Int32 × Int32 × Int32 × (Nat → Int64) × (Nat → Int32)) (H : Heap) (locs : List Loc) (pc : Nat) (ls : Array Slot), decode b_M_number pc = .ok (.return_, 1) → (0 ≤ Int32.toInt u.1 ∧ Int32.toInt u.1 ≤ Int32.toInt ss ∧ 0 ≤ Int32.toInt u.2.2.1 ∧ Int32.toInt u.2.2.1 ≤ 400 ∧ -1 ≤ Int32.toInt u.2.2.2.1 ∧ Int32.toInt u.2.2.2.1 ≤ 400 ∧ (Int32.toInt u.2.2.2.1 < 0 ∨ (Int32.toInt u.2.1 = 0 ∧ Int32.toInt u.2.2.2.2.1 = 0)) ∧ 0 ≤ Int32.toInt u.2.2.2.2.2.1 ∧ Int32.toInt u.2.2.2.2.2.1 ≤ 400 ∧ PS ss sa0 so0 fa0 op0 u.1 u.2.1 u.2.2.2.1 u.2.2.2.2.1) → va_P (dC, dI) cls (ME h g ss u.1 u.2.1 u.2.2.1 u.2.2.2.2.2.1 u.2.2.2.1 li co st rq bl te u.2.2.2.2.1 wo wz sr u.2.2.2.2.2.2.1 u.2.2.2.2.2.2.2 ro) H → va_D A (ME h g ss u.1 u.2.1 u.2.2.1 u.2.2.2.2.2.1 u.2.2.2.1 li co st rq bl te u.2.2.2.2.1 wo wz sr u.2.2.2.2.2.2.1 u.2.2.2.2.2.2.2 ro) → va_S A s.heap H locs → W p l e ({ frames := 5, cells := 0, slots := 0, locals := 106 } : Room) s m args below meth c H locs 0 0 Q (F0 m pc ls [])) : ∀ (sa : Int32) (so : Int32) (pl : Int32) (fa : Int32) (op : Int32) (si : Int32) (le : Nat → Int64) (tx : Nat → Int32), sa = sa0 → so = so0 → fa = fa0 → op = op0 → 0 ≤ Int32.toInt sa → Int32.toInt sa ≤ Int32.toInt ss → 0 ≤ Int32.toInt pl → Int32.toInt pl ≤ 400 → -1 ≤ Int32.toInt fa → Int32.toInt fa ≤ 400 → (Int32.toInt fa < 0 ∨ (Int32.toInt so = 0 ∧ Int32.toInt op = 0)) → 0 ≤ Int32.toInt si → Int32.toInt si ≤ 400 → ∀ (H : Heap) (locs : List Loc) (ls : Array Slot), va_P (dC, dI) cls (ME h g ss sa so pl si fa li co st rq bl te op wo wz sr le tx ro) H → va_D A (ME h g ss sa so pl si fa li co st rq bl te op wo wz sr le tx ro) → va_S A s.heap H locs → lv_has ls 1 [(0, .ref (h 0))] → W p l e ({ frames := 5, cells := 0, slots := 0, locals := 106 } : Room) s m args below meth c H locs 0 0 Q (F0 m 0 ls []) := by
  intro sa so pl fa op si le tx v_0 v_1 v_2 v_3 v_4 v_5 v_6 v_7 v_8 v_9 v_10 v_11 v_12 H locs ls hP hD hS hl
  subst v_0
  subst v_1
  subst v_2
  subst v_3
  refine lv_aload_n hx hb d_M_number_0 rfl (lv_at hl 0 rfl) ?_
  refine lv_iconst (v := 3) hx hb d_M_number_1 (by decide) ?_
  have hc_3 : Int32.toInt 3 = 3 := by decide
  have hFc := va_free (wc := (ME h g ss sa so pl si fa li co st rq bl te op wo wz sr le tx ro)) hD hS hA [0, 1, 2, 3, 4, 5, 6] rfl
  refine va_calli (va_runV (As := [.int 3]) (rest := []) ⟨hx, hb, hml, hown, ht⟩ (c_M_is l dC dI k h g ss sa so pl si fa li co st rq bl te op wo le wz sr tx ro 3 _ (by omega) (by omega) ) (cwV 1 ht (g_V k_771 k_773 k_52 k_80 k_774) rfl rfl rfl (by decide +kernel) ⟨(Nat.le_of_ble_eq_true rfl), (Nat.le_of_ble_eq_true rfl)⟩) ⟨fb_X, va_recv hK hP (ci := 4) (q0 := 0) rfl rfl, pre_X hE hS hFc hP hK hD⟩ rfl rfl hl.1 rfl (lv_room (Nat.le_of_ble_eq_true rfl)) d_M_number_2 ⟨(Nat.le_of_ble_eq_true rfl), (Nat.le_of_ble_eq_true rfl)⟩) hS (fun q _ h9 => hFc q h9) hFc (fun r_2 u_1 t H locs het hvm hw hB hz1 hk1 hS => ?_)
  obtain ⟨p_3, p_4⟩ := hw
  obtain ⟨hP1, hK1, hD1⟩ := hB
  rw [het] at hP1
  have hP : va_P (dC, dI) cls (ME h g ss sa so pl si fa li co st rq bl te op wo wz sr le tx ro) H := hP1
  have hD : va_D A (ME h g ss sa so pl si fa li co st rq bl te op wo wz sr le tx ro) := hD1.weaken (fun _ _ _ h9 => hFc _ h9)
  refine lv_if_ne (tgt := 12) hx hb d_M_number_5 (by decide) (fun c_5 => ?_) (fun c_5 => ?_)
  · have dc_5 := i_ne c_5 rfl (show Int32.toInt 0 = 0 by decide)
    refine lv_aload_n hx hb d_M_number_12 rfl (lv_at hl 0 rfl) ?_
    have hFc := va_free (wc := (ME h g ss sa so pl si fa li co st rq bl te op wo wz sr le tx ro)) hD hS hA [0, 1, 2, 3, 4, 5, 6] rfl
    refine va_callv (va_runV (As := []) (rest := []) ⟨hx, hb, hml, hown, ht⟩ (c_M_next l dC dI k h g ss sa so pl si fa li co st rq bl te op wo le wz sr tx ro  _ (by omega) (by omega) (by omega) (by omega) (by omega) (by omega) (by omega) (by omega) (by omega) (by omega) (by omega)) (cwV 0 ht (g_V k_694 k_696 k_37 k_80 k_697) rfl rfl rfl (by decide +kernel) ⟨(Nat.le_of_ble_eq_true rfl), (Nat.le_of_ble_eq_true rfl)⟩) ⟨fb_X, va_recv hK hP (ci := 4) (q0 := 0) rfl rfl, pre_X hE hS hFc hP hK hD⟩ rfl rfl hl.1 rfl (lv_room (Nat.le_of_ble_eq_true rfl)) d_M_number_13 ⟨(Nat.le_of_ble_eq_true rfl), (Nat.le_of_ble_eq_true rfl)⟩) hS (fun q _ h9 => hFc q h9) hFc (fun u_14 t H locs het hvm hw hB hz1 hk1 hS => ?_)
    obtain ⟨sa_6, so_7, pl_8, fa_9, op_10, si_11, le_12, tx_13⟩ := u_14
    try dsimp only at hw
    obtain ⟨p_16, p_17, p_18, p_19, p_20, p_21, p_22, p_23, p_24, p_25, p_26⟩ := hw
    obtain ⟨hP1, hK1, hD1⟩ := hB
    rw [het] at hP1
    have hP : va_P (dC, dI) cls (ME h g ss sa_6 so_7 pl_8 si_11 fa_9 li co st rq bl te op_10 wo wz sr le_12 tx_13 ro) H := hP1
    have hD : va_D A (ME h g ss sa_6 so_7 pl_8 si_11 fa_9 li co st rq bl te op_10 wo wz sr le_12 tx_13 ro) := hD1.weaken (fun _ _ _ h9 => hFc _ h9)
    have rl_27 := p_26.resolve_right (by omega)
    exact fin  (sa_6, so_7, pl_8, fa_9, op_10, si_11, le_12, tx_13) _ _ _ ls d_M_number_16 ⟨(by (try dsimp only); omega), (by (try dsimp only); omega), (by (try dsimp only); omega), (by (try dsimp only); omega), (by (try dsimp only); omega), (by (try dsimp only); omega), (by (try dsimp only); omega), (by (try dsimp only); omega), (by (try dsimp only); omega), rl_27⟩ hP hD hS
  · have dc_5 := i_eq c_5 rfl (show Int32.toInt 0 = 0 by decide)
    refine lv_aload_n hx hb d_M_number_8 rfl (lv_at hl 0 rfl) ?_
    have hFc := va_free (wc := (ME h g ss sa so pl si fa li co st rq bl te op wo wz sr le tx ro)) hD hS hA [0, 1, 2, 3, 4, 5, 6] rfl
    refine va_callv (va_runV (As := []) (rest := []) ⟨hx, hb, hml, hown, ht⟩ (c_M_fail l dC dI k h g ss sa so pl si fa li co st rq bl te op wo le wz sr tx ro  _ (by omega) (by omega) (by omega) (by omega)) (cwV 0 ht (g_V k_763 k_765 k_50 k_80 k_766) rfl rfl rfl (by decide +kernel) ⟨(Nat.le_of_ble_eq_true rfl), (Nat.le_of_ble_eq_true rfl)⟩) ⟨fb_X, va_recv hK hP (ci := 4) (q0 := 0) rfl rfl, pre_X hE hS hFc hP hK hD⟩ rfl rfl hl.1 rfl (lv_room (Nat.le_of_ble_eq_true rfl)) d_M_number_9 ⟨(Nat.le_of_ble_eq_true rfl), (Nat.le_of_ble_eq_true rfl)⟩) hS (fun q _ h9 => hFc q h9) hFc (fun u_31 t H locs het hvm hw hB hz1 hk1 hS => ?_)
    obtain ⟨so_28, fa_29, op_30⟩ := u_31
    try dsimp only at hw
    obtain ⟨p_33, p_34, p_35, p_36, p_37, p_38⟩ := hw
    obtain ⟨hP1, hK1, hD1⟩ := hB
    rw [het] at hP1
    have hP : va_P (dC, dI) cls (ME h g ss sa so_28 pl si fa_29 li co st rq bl te op_30 wo wz sr le tx ro) H := hP1
    have hD : va_D A (ME h g ss sa so_28 pl si fa_29 li co st rq bl te op_30 wo wz sr le tx ro) := hD1.weaken (fun _ _ _ h9 => hFc _ h9)
    have rl_39 : PS ss sa so fa op sa so_28 fa_29 op_30 := pr_out (by omega) (by omega) (by omega) _ _ _ _ (by omega)
    refine lv_aload_n hx hb d_M_number_12 rfl (lv_at hl 0 rfl) ?_
    have hFc := va_free (wc := (ME h g ss sa so_28 pl si fa_29 li co st rq bl te op_30 wo wz sr le tx ro)) hD hS hA [0, 1, 2, 3, 4, 5, 6] rfl
    refine va_callv (va_runV (As := []) (rest := []) ⟨hx, hb, hml, hown, ht⟩ (c_M_next l dC dI k h g ss sa so_28 pl si fa_29 li co st rq bl te op_30 wo le wz sr tx ro  _ (by omega) (by omega) (by omega) (by omega) (by omega) (by omega) (by omega) (by omega) (by omega) (by omega) (by omega)) (cwV 0 ht (g_V k_694 k_696 k_37 k_80 k_697) rfl rfl rfl (by decide +kernel) ⟨(Nat.le_of_ble_eq_true rfl), (Nat.le_of_ble_eq_true rfl)⟩) ⟨fb_X, va_recv hK hP (ci := 4) (q0 := 0) rfl rfl, pre_X hE hS hFc hP hK hD⟩ rfl rfl hl.1 rfl (lv_room (Nat.le_of_ble_eq_true rfl)) d_M_number_13 ⟨(Nat.le_of_ble_eq_true rfl), (Nat.le_of_ble_eq_true rfl)⟩) hS (fun q _ h9 => hFc q h9) hFc (fun u_48 t H locs het hvm hw hB hz1 hk1 hS => ?_)
    obtain ⟨sa_40, so_41, pl_42, fa_43, op_44, si_45, le_46, tx_47⟩ := u_48
    try dsimp only at hw
    obtain ⟨p_50, p_51, p_52, p_53, p_54, p_55, p_56, p_57, p_58, p_59, p_60⟩ := hw
    obtain ⟨hP1, hK1, hD1⟩ := hB
    rw [het] at hP1
    have hP : va_P (dC, dI) cls (ME h g ss sa_40 so_41 pl_42 si_45 fa_43 li co st rq bl te op_44 wo wz sr le_46 tx_47 ro) H := hP1
    have hD : va_D A (ME h g ss sa_40 so_41 pl_42 si_45 fa_43 li co st rq bl te op_44 wo wz sr le_46 tx_47 ro) := hD1.weaken (fun _ _ _ h9 => hFc _ h9)
    have rl_61 := p_60.resolve_right (by omega)
    have rl_62 := rSS rl_39 rl_61
    exact fin  (sa_40, so_41, pl_42, fa_43, op_44, si_45, le_46, tx_47) _ _ _ ls d_M_number_16 ⟨(by (try dsimp only); omega), (by (try dsimp only); omega), (by (try dsimp only); omega), (by (try dsimp only); omega), (by (try dsimp only); omega), (by (try dsimp only); omega), (by (try dsimp only); omega), (by (try dsimp only); omega), (by (try dsimp only); omega), rl_62⟩ hP hD hS
set_option maxHeartbeats 4000000 in
set_option maxRecDepth 100000 in
theorem c_M_number (l : Launch) (dC : Nat → ClassId) (dI : Nat → Nat → Nat) (k : Nat → Nat) (h : Nat → Nat) (g : Nat → ClassId) (ss : Int32) (sa : Int32) (so : Int32) (pl : Int32) (si : Int32) (fa : Int32) (li : Int32) (co : Int32) (st : Int32) (rq : Int32) (bl : Int32) (te : Int32) (op : Int32) (wo : Nat → Int64) (le : Nat → Int64) (wz : Nat → Int32) (sr : Nat → Int32) (tx : Nat → Int32) (ro : Nat → Int32)  (sz : Nat) (h_0 : 0 ≤ Int32.toInt ss) (h_1 : Int32.toInt ss ≤ 400) (v_0 : 0 ≤ Int32.toInt sa) (v_1 : Int32.toInt sa ≤ Int32.toInt ss) (v_2 : 0 ≤ Int32.toInt pl) (v_3 : Int32.toInt pl ≤ 400) (v_4 : -1 ≤ Int32.toInt fa) (v_5 : Int32.toInt fa ≤ 400) (v_6 : Int32.toInt fa < 0 ∨ (Int32.toInt so = 0 ∧ Int32.toInt op = 0)) (v_7 : 0 ≤ Int32.toInt si) (v_8 : Int32.toInt si ≤ 400) : Met l y_M_number (.code y_M_number b_M_number 1 none :: TT) ({ frames := 5, cells := 0, slots := 0, locals := 106 }) (va_Pc [.ref (h 0)] (PX dC dI k (TM g) (ME h g ss sa so pl si fa li co st rq bl te op wo wz sr le tx ro) sz)) (va_Qv (fun u : Int32 × Int32 × Int32 × Int32 × Int32 × Int32 × (Nat → Int64) × (Nat → Int32) => 0 ≤ Int32.toInt u.1 ∧ Int32.toInt u.1 ≤ Int32.toInt ss ∧ 0 ≤ Int32.toInt u.2.2.1 ∧ Int32.toInt u.2.2.1 ≤ 400 ∧ -1 ≤ Int32.toInt u.2.2.2.1 ∧ Int32.toInt u.2.2.2.1 ≤ 400 ∧ (Int32.toInt u.2.2.2.1 < 0 ∨ (Int32.toInt u.2.1 = 0 ∧ Int32.toInt u.2.2.2.2.1 = 0)) ∧ 0 ≤ Int32.toInt u.2.2.2.2.2.1 ∧ Int32.toInt u.2.2.2.2.2.1 ≤ 400 ∧ PS ss sa so fa op u.1 u.2.1 u.2.2.2.1 u.2.2.2.2.1) (fun u t => BX dC dI (TM g) (va_A (ME h g ss sa so pl si fa li co st rq bl te op wo wz sr le tx ro) sz) (ME h g ss u.1 u.2.1 u.2.2.1 u.2.2.2.2.2.1 u.2.2.2.1 li co st rq bl te u.2.2.2.2.1 wo wz sr u.2.2.2.2.2.2.1 u.2.2.2.2.2.2.2 ro) t) (va_A (ME h g ss sa so pl si fa li co st rq bl te op wo wz sr le tx ro) sz)) 0 0 (va_A (ME h g ss sa so pl si fa li co st rq bl te op wo wz sr le tx ro) sz) := by
  refine Met.ofW (cc := b_M_number) (maxL := 1) (ret := none) (by decide) rfl ?_
  intro p e s m args below meth c s₁ B hml hv
  obtain ⟨rfl, hsz, hE, hP, hK, hD0⟩ := hv
  have hx := B.exec
  have hb := B.bytes
  have hr := B.returns
  have ht : ∀ w ∈ TT, w.before _ s = true := fun w hw => atoms_spec (ws := .code y_M_number b_M_number 1 none :: TT) B.pre w (List.mem_cons_of_mem _ hw)
  have hown : s.vm.findClass "SieveDeskModel" = some m.cls := findClass_of_methodNamed B.named
  have hlocks := B.notSynchronized
  subst hsz
  have hD := hD0.self (sz := s.heap.size)
  generalize hAe : va_A (ME h g ss sa so pl si fa li co st rq bl te op wo wz sr le tx ro) s.heap.size = A at hE hD ⊢
  have hA : ∀ q : Nat, s.heap.size ≤ q → A q := fun q h9 => by rw [← hAe]; exact Or.inr h9
  have hS : va_S A s.heap s.heap [] := va_S.rf
  have hl := lv_entry ([.ref (h 0)]) (n := 1) (Nat.le_of_ble_eq_true rfl)
  rw [lg_entry_eq]
  generalize (lg_sl ([.ref (h 0)]) ++ List.replicate (1 - (lg_sl ([.ref (h 0)])).length) Slot.unset).toArray = ls at hl ⊢
  have hl : lv_has ls 1 [(0, .ref (h 0))] := hl
  exact bd_M_number_0  hx hb hml hown ht hE hA hK h_0 h_1 (fun u H locs pc ls hd hp hP hD hS => W.vret hx hb hr (fun t het hW => ⟨⟨u, rfl, hp, by rw [het]; exact hP, va_K.moved hW.alike hK, hD⟩, hS.F het⟩) hS.2.2 hd) sa so pl fa op si le tx rfl rfl rfl rfl v_0 v_1 v_2 v_3 v_4 v_5 v_6 v_7 v_8 _ _ ls hP hD hS hl
set_option maxHeartbeats 4000000 in
set_option maxRecDepth 100000 in
theorem lp_M_require_120 {p : Program} {l : Launch} {e : Env} {s : State} {m : MethodId} {args : Array Value} {below : List Frame} {meth : Method} {c : Code} {Q : State → Prop} {A : Nat → Prop} {dC : Nat → ClassId} {dI : Nat → Nat → Nat} {k h : Nat → Nat} {g : Nat → ClassId} {ss : Int32} {sa : Int32} {pl : Int32} {si : Int32} {li : Int32} {co : Int32} {st : Int32} {bl : Int32} {te : Int32} {wo : Nat → Int64} {le : Nat → Int64} {wz : Nat → Int32} {sr : Nat → Int32} {tx : Nat → Int32} {ro : Nat → Int32} {so0 : Int32} {fa0 : Int32} {op0 : Int32} (hx : p.tables.exec = Jvm.exec) (hb : c.code = b_M_require) (hml : c.maxLocals = 2) (hown : s.vm.findClass "SieveDeskModel" = some m.cls) (ht : ∀ w ∈ TT, w.before args s = true) (hE : KE k A s s.heap) (hA : ∀ q : Nat, s.heap.size ≤ q → A q) (hK : va_K (dC, dI) cls (TM g) s)  (h_0 : 0 ≤ Int32.toInt pl) (h_1 : Int32.toInt pl ≤ 400) (fin : ∀ (u : Int32 × Int32 × Int32 × Int32) (H : Heap) (locs : List Loc) (pc : Nat) (ls : Array Slot), decode b_M_require pc = .ok (.return_, 1) → (-1 ≤ Int32.toInt u.2.1 ∧ Int32.toInt u.2.1 ≤ 400 ∧ (Int32.toInt u.2.1 < 0 ∨ (Int32.toInt u.1 = 0 ∧ Int32.toInt u.2.2.1 = 0)) ∧ PR ss sa so0 fa0 op0 sa u.1 u.2.1 u.2.2.1 ∧ (0 ≤ Int32.toInt u.2.1 ∨ (Int32.toInt fa0 < 0 ∧ Int32.toInt u.2.1 < 0 ∧ Int32.toInt u.1 = Int32.toInt so0))) → va_P (dC, dI) cls (ME h g ss sa u.1 pl si u.2.1 li co st u.2.2.2 bl te u.2.2.1 wo wz sr le tx ro) H → va_D A (ME h g ss sa u.1 pl si u.2.1 li co st u.2.2.2 bl te u.2.2.1 wo wz sr le tx ro) → va_S A s.heap H locs → W p l e ({ frames := 2, cells := 0, slots := 0, locals := 46 } : Room) s m args below meth c H locs 0 0 Q (F0 m pc ls [])) : ∀ (bt : Int32) (so : Int32) (fa : Int32) (op : Int32) (rq : Int32), Int32.toInt fa < 0 → Int32.toInt fa0 < 0 → Int32.toInt so = Int32.toInt so0 → Int32.toInt op = Int32.toInt op0 → -1 ≤ Int32.toInt fa → Int32.toInt fa ≤ 400 → (Int32.toInt fa < 0 ∨ (Int32.toInt so = 0 ∧ Int32.toInt op = 0)) → ∀ (H : Heap) (locs : List Loc) (ls : Array Slot), va_P (dC, dI) cls (ME h g ss sa so pl si fa li co st rq bl te op wo wz sr le tx ro) H → va_D A (ME h g ss sa so pl si fa li co st rq bl te op wo wz sr le tx ro) → va_S A s.heap H locs → lv_has ls 2 [(1, .int bt), (0, .ref (h 0))] → W p l e ({ frames := 2, cells := 0, slots := 0, locals := 46 } : Room) s m args below meth c H locs 0 0 Q (F0 m 120 ls []) := by
  intro bt so fa op rq v_0 v_1 v_2 v_3 v_4 v_5 v_6 H locs ls hP hD hS hl
  refine lv_iload_n hx hb d_M_require_120 rfl (lv_at hl 0 rfl) ?_
  refine lv_if_ne (tgt := 128) hx hb d_M_require_121 (by decide) (fun c_1 => ?_) (fun c_1 => ?_)
  · refine lv_aload_n hx hb d_M_require_128 rfl (lv_at hl 1 rfl) ?_
    refine lv_aload_n hx hb d_M_require_129 rfl (lv_at hl 1 rfl) ?_
    refine va_get (D := (dC, dI)) (ci := 4) (v := .int rq) (C := "SieveDeskModel") (T := F_M) (N := 19) hx hb ht i_M hown hK hP 0 rfl rfl 14 (by decide) (ht _ k_641) (fun _ h9 => h9) rfl d_M_require_130 ?_
    refine lv_iload_n hx hb d_M_require_133 rfl (lv_at hl 0 rfl) ?_
    refine lv_ior hx hb d_M_require_134 ?_
    refine va_put (D := (dC, dI)) (ci := 4) (v := .int (rq ||| bt)) (ty := .int) (C := "SieveDeskModel") (T := F_M) (N := 19) hx hb ht i_M ty_M ty_M_ok n_M hown hK hP hD hS 0 rfl rfl 14 (by decide) (ht _ k_641) (fun _ h9 => h9) rfl (ty_M_ok 14 (by decide)) rfl rfl (Nat.le_of_ble_eq_true rfl) d_M_require_135 (fun H locs hP hD hS => ?_)
    have hP : va_P (dC, dI) cls (ME h g ss sa so pl si fa li co st (rq ||| bt) bl te op wo wz sr le tx ro) H := hP
    have hD : va_D A (ME h g ss sa so pl si fa li co st (rq ||| bt) bl te op wo wz sr le tx ro) := hD
    exact fin  (so, fa, op, (rq ||| bt)) _ _ _ ls d_M_require_138 ⟨(by (try dsimp only); omega), (by (try dsimp only); omega), (by (try dsimp only); omega), (pr_same (by (try dsimp only); omega)), (by (try dsimp only); omega)⟩ hP hD hS
  · refine lv_aload_n hx hb d_M_require_124 rfl (lv_at hl 1 rfl) ?_
    have hFc := va_free (wc := (ME h g ss sa so pl si fa li co st rq bl te op wo wz sr le tx ro)) hD hS hA [0, 1, 2, 3, 4, 5, 6] rfl
    refine va_callv (va_runV (As := []) (rest := []) ⟨hx, hb, hml, hown, ht⟩ (c_M_fail l dC dI k h g ss sa so pl si fa li co st rq bl te op wo le wz sr tx ro  _ (by omega) (by omega) (by omega) (by omega)) (cwV 0 ht (g_V k_763 k_765 k_50 k_80 k_766) rfl rfl rfl (by decide +kernel) ⟨(Nat.le_of_ble_eq_true rfl), (Nat.le_of_ble_eq_true rfl)⟩) ⟨fb_X, va_recv hK hP (ci := 4) (q0 := 0) rfl rfl, pre_X hE hS hFc hP hK hD⟩ rfl rfl hl.1 rfl (lv_room (Nat.le_of_ble_eq_true rfl)) d_M_require_125 ⟨(Nat.le_of_ble_eq_true rfl), (Nat.le_of_ble_eq_true rfl)⟩) hS (fun q _ h9 => hFc q h9) hFc (fun u_5 t H locs het hvm hw hB hz1 hk1 hS => ?_)
    obtain ⟨so_2, fa_3, op_4⟩ := u_5
    try dsimp only at hw
    obtain ⟨p_7, p_8, p_9, p_10, p_11, p_12⟩ := hw
    obtain ⟨hP1, hK1, hD1⟩ := hB
    rw [het] at hP1
    have hP : va_P (dC, dI) cls (ME h g ss sa so_2 pl si fa_3 li co st rq bl te op_4 wo wz sr le tx ro) H := hP1
    have hD : va_D A (ME h g ss sa so_2 pl si fa_3 li co st rq bl te op_4 wo wz sr le tx ro) := hD1.weaken (fun _ _ _ h9 => hFc _ h9)
    have rl_13 : PS ss sa so fa op sa so_2 fa_3 op_4 := pr_out (by omega) (by omega) (by omega) _ _ _ _ (by omega)
    refine lv_aload_n hx hb d_M_require_128 rfl (lv_at hl 1 rfl) ?_
    refine lv_aload_n hx hb d_M_require_129 rfl (lv_at hl 1 rfl) ?_
    refine va_get (D := (dC, dI)) (ci := 4) (v := .int rq) (C := "SieveDeskModel") (T := F_M) (N := 19) hx hb ht i_M hown hK hP 0 rfl rfl 14 (by decide) (ht _ k_641) (fun _ h9 => h9) rfl d_M_require_130 ?_
    refine lv_iload_n hx hb d_M_require_133 rfl (lv_at hl 0 rfl) ?_
    refine lv_ior hx hb d_M_require_134 ?_
    refine va_put (D := (dC, dI)) (ci := 4) (v := .int (rq ||| bt)) (ty := .int) (C := "SieveDeskModel") (T := F_M) (N := 19) hx hb ht i_M ty_M ty_M_ok n_M hown hK hP hD hS 0 rfl rfl 14 (by decide) (ht _ k_641) (fun _ h9 => h9) rfl (ty_M_ok 14 (by decide)) rfl rfl (Nat.le_of_ble_eq_true rfl) d_M_require_135 (fun H locs hP hD hS => ?_)
    have hP : va_P (dC, dI) cls (ME h g ss sa so_2 pl si fa_3 li co st (rq ||| bt) bl te op_4 wo wz sr le tx ro) H := hP
    have hD : va_D A (ME h g ss sa so_2 pl si fa_3 li co st (rq ||| bt) bl te op_4 wo wz sr le tx ro) := hD
    exact fin  (so_2, fa_3, op_4, (rq ||| bt)) _ _ _ ls d_M_require_138 ⟨(by (try dsimp only); omega), (by (try dsimp only); omega), (by (try dsimp only); omega), (pr_same (by (try dsimp only); omega)), (by (try dsimp only); omega)⟩ hP hD hS
set_option maxHeartbeats 4000000 in
set_option maxRecDepth 100000 in
theorem bd_M_require_0 {p : Program} {l : Launch} {e : Env} {s : State} {m : MethodId} {args : Array Value} {below : List Frame} {meth : Method} {c : Code} {Q : State → Prop} {A : Nat → Prop} {dC : Nat → ClassId} {dI : Nat → Nat → Nat} {k h : Nat → Nat} {g : Nat → ClassId} {ss : Int32} {sa : Int32} {pl : Int32} {si : Int32} {li : Int32} {co : Int32} {st : Int32} {bl : Int32} {te : Int32} {wo : Nat → Int64} {le : Nat → Int64} {wz : Nat → Int32} {sr : Nat → Int32} {tx : Nat → Int32} {ro : Nat → Int32} {so0 : Int32} {fa0 : Int32} {op0 : Int32} (hx : p.tables.exec = Jvm.exec) (hb : c.code = b_M_require) (hml : c.maxLocals = 2) (hown : s.vm.findClass "SieveDeskModel" = some m.cls) (ht : ∀ w ∈ TT, w.before args s = true) (hE : KE k A s s.heap) (hA : ∀ q : Nat, s.heap.size ≤ q → A q) (hK : va_K (dC, dI) cls (TM g) s)  (h_0 : 0 ≤ Int32.toInt pl) (h_1 : Int32.toInt pl ≤ 400) (fin : ∀ (u : Int32 × Int32 × Int32 × Int32) (H : Heap) (locs : List Loc) (pc : Nat) (ls : Array Slot), decode b_M_require pc = .ok (.return_, 1) → (-1 ≤ Int32.toInt u.2.1 ∧ Int32.toInt u.2.1 ≤ 400 ∧ (Int32.toInt u.2.1 < 0 ∨ (Int32.toInt u.1 = 0 ∧ Int32.toInt u.2.2.1 = 0)) ∧ PR ss sa so0 fa0 op0 sa u.1 u.2.1 u.2.2.1 ∧ (0 ≤ Int32.toInt u.2.1 ∨ (Int32.toInt fa0 < 0 ∧ Int32.toInt u.2.1 < 0 ∧ Int32.toInt u.1 = Int32.toInt so0))) → va_P (dC, dI) cls (ME h g ss sa u.1 pl si u.2.1 li co st u.2.2.2 bl te u.2.2.1 wo wz sr le tx ro) H → va_D A (ME h g ss sa u.1 pl si u.2.1 li co st u.2.2.2 bl te u.2.2.1 wo wz sr le tx ro) → va_S A s.heap H locs → W p l e ({ frames := 2, cells := 0, slots := 0, locals := 46 } : Room) s m args below meth c H locs 0 0 Q (F0 m pc ls [])) : ∀ (so : Int32) (fa : Int32) (op : Int32) (rq : Int32), so = so0 → fa = fa0 → op = op0 → -1 ≤ Int32.toInt fa → Int32.toInt fa ≤ 400 → (Int32.toInt fa < 0 ∨ (Int32.toInt so = 0 ∧ Int32.toInt op = 0)) → ∀ (H : Heap) (locs : List Loc) (ls : Array Slot), va_P (dC, dI) cls (ME h g ss sa so pl si fa li co st rq bl te op wo wz sr le tx ro) H → va_D A (ME h g ss sa so pl si fa li co st rq bl te op wo wz sr le tx ro) → va_S A s.heap H locs → lv_has ls 2 [(0, .ref (h 0))] → W p l e ({ frames := 2, cells := 0, slots := 0, locals := 46 } : Room) s m args below meth c H locs 0 0 Q (F0 m 0 ls []) := by
  intro so fa op rq v_0 v_1 v_2 v_3 v_4 v_5 H locs ls hP hD hS hl
  subst v_0
  subst v_1
  subst v_2
  refine lv_aload_n hx hb d_M_require_0 rfl (lv_at hl 0 rfl) ?_
  refine va_get (D := (dC, dI)) (ci := 4) (v := .int fa) (C := "SieveDeskModel") (T := F_M) (N := 19) hx hb ht i_M hown hK hP 0 rfl rfl 10 (by decide) (ht _ k_637) (fun _ h9 => h9) rfl d_M_require_1 ?_
  refine lv_if_lt (tgt := 8) hx hb d_M_require_4 (by decide) (fun c_14 => ?_) (fun c_14 => ?_)
  · have dc_14 := i_lt c_14 rfl (show Int32.toInt 0 = 0 by decide)
    refine lv_aload_n hx hb d_M_require_8 rfl (lv_at hl 0 rfl) ?_
    refine lv_bipush (v := 7) hx hb d_M_require_9 (by decide) ?_
    have hc_7 : Int32.toInt 7 = 7 := by decide
    have hFc := va_free (wc := (ME h g ss sa so pl si fa li co st rq bl te op wo wz sr le tx ro)) hD hS hA [0, 1, 2, 3, 4, 5, 6] rfl
    refine va_calli (va_runV (As := [.int 7]) (rest := []) ⟨hx, hb, hml, hown, ht⟩ (c_M_like l dC dI k h g ss sa so pl si fa li co st rq bl te op wo le wz sr tx ro 7 _ (by omega) (by omega) ) (cwV 1 ht (g_V k_734 k_736 k_44 k_80 k_737) rfl rfl rfl (by decide +kernel) ⟨(Nat.le_of_ble_eq_true rfl), (Nat.le_of_ble_eq_true rfl)⟩) ⟨fb_X, va_recv hK hP (ci := 4) (q0 := 0) rfl rfl, pre_X hE hS hFc hP hK hD⟩ rfl rfl hl.1 rfl (lv_room (Nat.le_of_ble_eq_true rfl)) d_M_require_11 ⟨(Nat.le_of_ble_eq_true rfl), (Nat.le_of_ble_eq_true rfl)⟩) hS (fun q _ h9 => hFc q h9) hFc (fun r_16 u_15 t H locs het hvm hw hB hz1 hk1 hS => ?_)
    have p_17 := hw
    obtain ⟨hP1, hK1, hD1⟩ := hB
    rw [het] at hP1
    have hP : va_P (dC, dI) cls (ME h g ss sa so pl si fa li co st rq bl te op wo wz sr le tx ro) H := hP1
    have hD : va_D A (ME h g ss sa so pl si fa li co st rq bl te op wo wz sr le tx ro) := hD1.weaken (fun _ _ _ h9 => hFc _ h9)
    refine lv_if_eq (tgt := 21) hx hb d_M_require_14 (by decide) (fun c_18 => ?_) (fun c_18 => ?_)
    · have dc_18 := i_eq c_18 rfl (show Int32.toInt 0 = 0 by decide)
      refine lv_aload_n hx hb d_M_require_21 rfl (lv_at hl 0 rfl) ?_
      refine lv_bipush (v := 9) hx hb d_M_require_22 (by decide) ?_
      have hc_9 : Int32.toInt 9 = 9 := by decide
      have hFc := va_free (wc := (ME h g ss sa so pl si fa li co st rq bl te op wo wz sr le tx ro)) hD hS hA [0, 1, 2, 3, 4, 5, 6] rfl
      refine va_calli (va_runV (As := [.int 9]) (rest := []) ⟨hx, hb, hml, hown, ht⟩ (c_M_like l dC dI k h g ss sa so pl si fa li co st rq bl te op wo le wz sr tx ro 9 _ (by omega) (by omega) ) (cwV 1 ht (g_V k_734 k_736 k_44 k_80 k_737) rfl rfl rfl (by decide +kernel) ⟨(Nat.le_of_ble_eq_true rfl), (Nat.le_of_ble_eq_true rfl)⟩) ⟨fb_X, va_recv hK hP (ci := 4) (q0 := 0) rfl rfl, pre_X hE hS hFc hP hK hD⟩ rfl rfl hl.1 rfl (lv_room (Nat.le_of_ble_eq_true rfl)) d_M_require_24 ⟨(Nat.le_of_ble_eq_true rfl), (Nat.le_of_ble_eq_true rfl)⟩) hS (fun q _ h9 => hFc q h9) hFc (fun r_20 u_19 t H locs het hvm hw hB hz1 hk1 hS => ?_)
      have p_21 := hw
      obtain ⟨hP1, hK1, hD1⟩ := hB
      rw [het] at hP1
      have hP : va_P (dC, dI) cls (ME h g ss sa so pl si fa li co st rq bl te op wo wz sr le tx ro) H := hP1
      have hD : va_D A (ME h g ss sa so pl si fa li co st rq bl te op wo wz sr le tx ro) := hD1.weaken (fun _ _ _ h9 => hFc _ h9)
      refine lv_if_eq (tgt := 34) hx hb d_M_require_27 (by decide) (fun c_22 => ?_) (fun c_22 => ?_)
      · have dc_22 := i_eq c_22 rfl (show Int32.toInt 0 = 0 by decide)
        refine lv_aload_n hx hb d_M_require_34 rfl (lv_at hl 0 rfl) ?_
        refine lv_bipush (v := 16) hx hb d_M_require_35 (by decide) ?_
        have hc_16 : Int32.toInt 16 = 16 := by decide
        have hFc := va_free (wc := (ME h g ss sa so pl si fa li co st rq bl te op wo wz sr le tx ro)) hD hS hA [0, 1, 2, 3, 4, 5, 6] rfl
        refine va_calli (va_runV (As := [.int 16]) (rest := []) ⟨hx, hb, hml, hown, ht⟩ (c_M_like l dC dI k h g ss sa so pl si fa li co st rq bl te op wo le wz sr tx ro 16 _ (by omega) (by omega) ) (cwV 1 ht (g_V k_734 k_736 k_44 k_80 k_737) rfl rfl rfl (by decide +kernel) ⟨(Nat.le_of_ble_eq_true rfl), (Nat.le_of_ble_eq_true rfl)⟩) ⟨fb_X, va_recv hK hP (ci := 4) (q0 := 0) rfl rfl, pre_X hE hS hFc hP hK hD⟩ rfl rfl hl.1 rfl (lv_room (Nat.le_of_ble_eq_true rfl)) d_M_require_37 ⟨(Nat.le_of_ble_eq_true rfl), (Nat.le_of_ble_eq_true rfl)⟩) hS (fun q _ h9 => hFc q h9) hFc (fun r_24 u_23 t H locs het hvm hw hB hz1 hk1 hS => ?_)
        have p_25 := hw
        obtain ⟨hP1, hK1, hD1⟩ := hB
        rw [het] at hP1
        have hP : va_P (dC, dI) cls (ME h g ss sa so pl si fa li co st rq bl te op wo wz sr le tx ro) H := hP1
        have hD : va_D A (ME h g ss sa so pl si fa li co st rq bl te op wo wz sr le tx ro) := hD1.weaken (fun _ _ _ h9 => hFc _ h9)
        refine lv_if_eq (tgt := 47) hx hb d_M_require_40 (by decide) (fun c_26 => ?_) (fun c_26 => ?_)
        · have dc_26 := i_eq c_26 rfl (show Int32.toInt 0 = 0 by decide)
          refine lv_aload_n hx hb d_M_require_47 rfl (lv_at hl 0 rfl) ?_
          refine lv_bipush (v := 26) hx hb d_M_require_48 (by decide) ?_
          have hc_26 : Int32.toInt 26 = 26 := by decide
          have hFc := va_free (wc := (ME h g ss sa so pl si fa li co st rq bl te op wo wz sr le tx ro)) hD hS hA [0, 1, 2, 3, 4, 5, 6] rfl
          refine va_calli (va_runV (As := [.int 26]) (rest := []) ⟨hx, hb, hml, hown, ht⟩ (c_M_like l dC dI k h g ss sa so pl si fa li co st rq bl te op wo le wz sr tx ro 26 _ (by omega) (by omega) ) (cwV 1 ht (g_V k_734 k_736 k_44 k_80 k_737) rfl rfl rfl (by decide +kernel) ⟨(Nat.le_of_ble_eq_true rfl), (Nat.le_of_ble_eq_true rfl)⟩) ⟨fb_X, va_recv hK hP (ci := 4) (q0 := 0) rfl rfl, pre_X hE hS hFc hP hK hD⟩ rfl rfl hl.1 rfl (lv_room (Nat.le_of_ble_eq_true rfl)) d_M_require_50 ⟨(Nat.le_of_ble_eq_true rfl), (Nat.le_of_ble_eq_true rfl)⟩) hS (fun q _ h9 => hFc q h9) hFc (fun r_28 u_27 t H locs het hvm hw hB hz1 hk1 hS => ?_)
          have p_29 := hw
          obtain ⟨hP1, hK1, hD1⟩ := hB
          rw [het] at hP1
          have hP : va_P (dC, dI) cls (ME h g ss sa so pl si fa li co st rq bl te op wo wz sr le tx ro) H := hP1
          have hD : va_D A (ME h g ss sa so pl si fa li co st rq bl te op wo wz sr le tx ro) := hD1.weaken (fun _ _ _ h9 => hFc _ h9)
          refine lv_if_eq (tgt := 61) hx hb d_M_require_53 (by decide) (fun c_30 => ?_) (fun c_30 => ?_)
          · have dc_30 := i_eq c_30 rfl (show Int32.toInt 0 = 0 by decide)
            refine lv_aload_n hx hb d_M_require_61 rfl (lv_at hl 0 rfl) ?_
            refine lv_bipush (v := 51) hx hb d_M_require_62 (by decide) ?_
            have hc_51 : Int32.toInt 51 = 51 := by decide
            have hFc := va_free (wc := (ME h g ss sa so pl si fa li co st rq bl te op wo wz sr le tx ro)) hD hS hA [0, 1, 2, 3, 4, 5, 6] rfl
            refine va_calli (va_runV (As := [.int 51]) (rest := []) ⟨hx, hb, hml, hown, ht⟩ (c_M_like l dC dI k h g ss sa so pl si fa li co st rq bl te op wo le wz sr tx ro 51 _ (by omega) (by omega) ) (cwV 1 ht (g_V k_734 k_736 k_44 k_80 k_737) rfl rfl rfl (by decide +kernel) ⟨(Nat.le_of_ble_eq_true rfl), (Nat.le_of_ble_eq_true rfl)⟩) ⟨fb_X, va_recv hK hP (ci := 4) (q0 := 0) rfl rfl, pre_X hE hS hFc hP hK hD⟩ rfl rfl hl.1 rfl (lv_room (Nat.le_of_ble_eq_true rfl)) d_M_require_64 ⟨(Nat.le_of_ble_eq_true rfl), (Nat.le_of_ble_eq_true rfl)⟩) hS (fun q _ h9 => hFc q h9) hFc (fun r_32 u_31 t H locs het hvm hw hB hz1 hk1 hS => ?_)
            have p_33 := hw
            obtain ⟨hP1, hK1, hD1⟩ := hB
            rw [het] at hP1
            have hP : va_P (dC, dI) cls (ME h g ss sa so pl si fa li co st rq bl te op wo wz sr le tx ro) H := hP1
            have hD : va_D A (ME h g ss sa so pl si fa li co st rq bl te op wo wz sr le tx ro) := hD1.weaken (fun _ _ _ h9 => hFc _ h9)
            refine lv_if_eq (tgt := 75) hx hb d_M_require_67 (by decide) (fun c_34 => ?_) (fun c_34 => ?_)
            · have dc_34 := i_eq c_34 rfl (show Int32.toInt 0 = 0 by decide)
              refine lv_aload_n hx hb d_M_require_75 rfl (lv_at hl 0 rfl) ?_
              refine lv_bipush (v := 52) hx hb d_M_require_76 (by decide) ?_
              have hc_52 : Int32.toInt 52 = 52 := by decide
              have hFc := va_free (wc := (ME h g ss sa so pl si fa li co st rq bl te op wo wz sr le tx ro)) hD hS hA [0, 1, 2, 3, 4, 5, 6] rfl
              refine va_calli (va_runV (As := [.int 52]) (rest := []) ⟨hx, hb, hml, hown, ht⟩ (c_M_like l dC dI k h g ss sa so pl si fa li co st rq bl te op wo le wz sr tx ro 52 _ (by omega) (by omega) ) (cwV 1 ht (g_V k_734 k_736 k_44 k_80 k_737) rfl rfl rfl (by decide +kernel) ⟨(Nat.le_of_ble_eq_true rfl), (Nat.le_of_ble_eq_true rfl)⟩) ⟨fb_X, va_recv hK hP (ci := 4) (q0 := 0) rfl rfl, pre_X hE hS hFc hP hK hD⟩ rfl rfl hl.1 rfl (lv_room (Nat.le_of_ble_eq_true rfl)) d_M_require_78 ⟨(Nat.le_of_ble_eq_true rfl), (Nat.le_of_ble_eq_true rfl)⟩) hS (fun q _ h9 => hFc q h9) hFc (fun r_36 u_35 t H locs het hvm hw hB hz1 hk1 hS => ?_)
              have p_37 := hw
              obtain ⟨hP1, hK1, hD1⟩ := hB
              rw [het] at hP1
              have hP : va_P (dC, dI) cls (ME h g ss sa so pl si fa li co st rq bl te op wo wz sr le tx ro) H := hP1
              have hD : va_D A (ME h g ss sa so pl si fa li co st rq bl te op wo wz sr le tx ro) := hD1.weaken (fun _ _ _ h9 => hFc _ h9)
              refine lv_if_eq (tgt := 89) hx hb d_M_require_81 (by decide) (fun c_38 => ?_) (fun c_38 => ?_)
              · have dc_38 := i_eq c_38 rfl (show Int32.toInt 0 = 0 by decide)
                refine lv_aload_n hx hb d_M_require_89 rfl (lv_at hl 0 rfl) ?_
                refine lv_bipush (v := 13) hx hb d_M_require_90 (by decide) ?_
                have hc_13 : Int32.toInt 13 = 13 := by decide
                have hFc := va_free (wc := (ME h g ss sa so pl si fa li co st rq bl te op wo wz sr le tx ro)) hD hS hA [0, 1, 2, 3, 4, 5, 6] rfl
                refine va_calli (va_runV (As := [.int 13]) (rest := []) ⟨hx, hb, hml, hown, ht⟩ (c_M_like l dC dI k h g ss sa so pl si fa li co st rq bl te op wo le wz sr tx ro 13 _ (by omega) (by omega) ) (cwV 1 ht (g_V k_734 k_736 k_44 k_80 k_737) rfl rfl rfl (by decide +kernel) ⟨(Nat.le_of_ble_eq_true rfl), (Nat.le_of_ble_eq_true rfl)⟩) ⟨fb_X, va_recv hK hP (ci := 4) (q0 := 0) rfl rfl, pre_X hE hS hFc hP hK hD⟩ rfl rfl hl.1 rfl (lv_room (Nat.le_of_ble_eq_true rfl)) d_M_require_92 ⟨(Nat.le_of_ble_eq_true rfl), (Nat.le_of_ble_eq_true rfl)⟩) hS (fun q _ h9 => hFc q h9) hFc (fun r_40 u_39 t H locs het hvm hw hB hz1 hk1 hS => ?_)
                have p_41 := hw
                obtain ⟨hP1, hK1, hD1⟩ := hB
                rw [het] at hP1
                have hP : va_P (dC, dI) cls (ME h g ss sa so pl si fa li co st rq bl te op wo wz sr le tx ro) H := hP1
                have hD : va_D A (ME h g ss sa so pl si fa li co st rq bl te op wo wz sr le tx ro) := hD1.weaken (fun _ _ _ h9 => hFc _ h9)
                refine lv_if_eq (tgt := 103) hx hb d_M_require_95 (by decide) (fun c_42 => ?_) (fun c_42 => ?_)
                · have dc_42 := i_eq c_42 rfl (show Int32.toInt 0 = 0 by decide)
                  refine lv_aload_n hx hb d_M_require_103 rfl (lv_at hl 0 rfl) ?_
                  refine lv_bipush (v := 53) hx hb d_M_require_104 (by decide) ?_
                  have hc_53 : Int32.toInt 53 = 53 := by decide
                  have hFc := va_free (wc := (ME h g ss sa so pl si fa li co st rq bl te op wo wz sr le tx ro)) hD hS hA [0, 1, 2, 3, 4, 5, 6] rfl
                  refine va_calli (va_runV (As := [.int 53]) (rest := []) ⟨hx, hb, hml, hown, ht⟩ (c_M_like l dC dI k h g ss sa so pl si fa li co st rq bl te op wo le wz sr tx ro 53 _ (by omega) (by omega) ) (cwV 1 ht (g_V k_734 k_736 k_44 k_80 k_737) rfl rfl rfl (by decide +kernel) ⟨(Nat.le_of_ble_eq_true rfl), (Nat.le_of_ble_eq_true rfl)⟩) ⟨fb_X, va_recv hK hP (ci := 4) (q0 := 0) rfl rfl, pre_X hE hS hFc hP hK hD⟩ rfl rfl hl.1 rfl (lv_room (Nat.le_of_ble_eq_true rfl)) d_M_require_106 ⟨(Nat.le_of_ble_eq_true rfl), (Nat.le_of_ble_eq_true rfl)⟩) hS (fun q _ h9 => hFc q h9) hFc (fun r_44 u_43 t H locs het hvm hw hB hz1 hk1 hS => ?_)
                  have p_45 := hw
                  obtain ⟨hP1, hK1, hD1⟩ := hB
                  rw [het] at hP1
                  have hP : va_P (dC, dI) cls (ME h g ss sa so pl si fa li co st rq bl te op wo wz sr le tx ro) H := hP1
                  have hD : va_D A (ME h g ss sa so pl si fa li co st rq bl te op wo wz sr le tx ro) := hD1.weaken (fun _ _ _ h9 => hFc _ h9)
                  refine lv_if_eq (tgt := 118) hx hb d_M_require_109 (by decide) (fun c_46 => ?_) (fun c_46 => ?_)
                  · have dc_46 := i_eq c_46 rfl (show Int32.toInt 0 = 0 by decide)
                    refine lv_iconst (v := 0) hx hb d_M_require_118 (by decide) ?_
                    refine lv_istore_n (lv' := [(1, .int 0), (0, .ref (h 0))]) hx hb d_M_require_119 rfl hl (by decide) rfl (fun ls hl => ?_)
                    have hc_0 : Int32.toInt 0 = 0 := by decide
                    exact lp_M_require_120  hx hb hml hown ht hE hA hK h_0 h_1 fin 0 so fa op rq (by omega) (by omega) (by omega) (by omega) (by omega) (by omega) (by omega) _ _ ls hP hD hS (lv_sub hl [0, 1] rfl)
                  · have dc_46 := i_ne c_46 rfl (show Int32.toInt 0 = 0 by decide)
                    refine lv_sipush (v := 128) hx hb d_M_require_112 (by decide) ?_
                    refine lv_goto (tgt := 119) hx hb d_M_require_115 (by decide) ?_
                    refine lv_istore_n (lv' := [(1, .int 128), (0, .ref (h 0))]) hx hb d_M_require_119 rfl hl (by decide) rfl (fun ls hl => ?_)
                    have hc_128 : Int32.toInt 128 = 128 := by decide
                    exact lp_M_require_120  hx hb hml hown ht hE hA hK h_0 h_1 fin 128 so fa op rq (by omega) (by omega) (by omega) (by omega) (by omega) (by omega) (by omega) _ _ ls hP hD hS (lv_sub hl [0, 1] rfl)
                · have dc_42 := i_ne c_42 rfl (show Int32.toInt 0 = 0 by decide)
                  refine lv_bipush (v := 64) hx hb d_M_require_98 (by decide) ?_
                  refine lv_goto (tgt := 119) hx hb d_M_require_100 (by decide) ?_
                  refine lv_istore_n (lv' := [(1, .int 64), (0, .ref (h 0))]) hx hb d_M_require_119 rfl hl (by decide) rfl (fun ls hl => ?_)
                  have hc_64 : Int32.toInt 64 = 64 := by decide
                  exact lp_M_require_120  hx hb hml hown ht hE hA hK h_0 h_1 fin 64 so fa op rq (by omega) (by omega) (by omega) (by omega) (by omega) (by omega) (by omega) _ _ ls hP hD hS (lv_sub hl [0, 1] rfl)
              · have dc_38 := i_ne c_38 rfl (show Int32.toInt 0 = 0 by decide)
                refine lv_bipush (v := 32) hx hb d_M_require_84 (by decide) ?_
                refine lv_goto (tgt := 119) hx hb d_M_require_86 (by decide) ?_
                refine lv_istore_n (lv' := [(1, .int 32), (0, .ref (h 0))]) hx hb d_M_require_119 rfl hl (by decide) rfl (fun ls hl => ?_)
                have hc_32 : Int32.toInt 32 = 32 := by decide
                exact lp_M_require_120  hx hb hml hown ht hE hA hK h_0 h_1 fin 32 so fa op rq (by omega) (by omega) (by omega) (by omega) (by omega) (by omega) (by omega) _ _ ls hP hD hS (lv_sub hl [0, 1] rfl)
            · have dc_34 := i_ne c_34 rfl (show Int32.toInt 0 = 0 by decide)
              refine lv_bipush (v := 16) hx hb d_M_require_70 (by decide) ?_
              refine lv_goto (tgt := 119) hx hb d_M_require_72 (by decide) ?_
              refine lv_istore_n (lv' := [(1, .int 16), (0, .ref (h 0))]) hx hb d_M_require_119 rfl hl (by decide) rfl (fun ls hl => ?_)
              exact lp_M_require_120  hx hb hml hown ht hE hA hK h_0 h_1 fin 16 so fa op rq (by omega) (by omega) (by omega) (by omega) (by omega) (by omega) (by omega) _ _ ls hP hD hS (lv_sub hl [0, 1] rfl)
          · have dc_30 := i_ne c_30 rfl (show Int32.toInt 0 = 0 by decide)
            refine lv_bipush (v := 8) hx hb d_M_require_56 (by decide) ?_
            refine lv_goto (tgt := 119) hx hb d_M_require_58 (by decide) ?_
            refine lv_istore_n (lv' := [(1, .int 8), (0, .ref (h 0))]) hx hb d_M_require_119 rfl hl (by decide) rfl (fun ls hl => ?_)
            have hc_8 : Int32.toInt 8 = 8 := by decide
            exact lp_M_require_120  hx hb hml hown ht hE hA hK h_0 h_1 fin 8 so fa op rq (by omega) (by omega) (by omega) (by omega) (by omega) (by omega) (by omega) _ _ ls hP hD hS (lv_sub hl [0, 1] rfl)
        · have dc_26 := i_ne c_26 rfl (show Int32.toInt 0 = 0 by decide)
          refine lv_iconst (v := 4) hx hb d_M_require_43 (by decide) ?_
          refine lv_goto (tgt := 119) hx hb d_M_require_44 (by decide) ?_
          refine lv_istore_n (lv' := [(1, .int 4), (0, .ref (h 0))]) hx hb d_M_require_119 rfl hl (by decide) rfl (fun ls hl => ?_)
          have hc_4 : Int32.toInt 4 = 4 := by decide
          exact lp_M_require_120  hx hb hml hown ht hE hA hK h_0 h_1 fin 4 so fa op rq (by omega) (by omega) (by omega) (by omega) (by omega) (by omega) (by omega) _ _ ls hP hD hS (lv_sub hl [0, 1] rfl)
      · have dc_22 := i_ne c_22 rfl (show Int32.toInt 0 = 0 by decide)
        refine lv_iconst (v := 2) hx hb d_M_require_30 (by decide) ?_
        refine lv_goto (tgt := 119) hx hb d_M_require_31 (by decide) ?_
        refine lv_istore_n (lv' := [(1, .int 2), (0, .ref (h 0))]) hx hb d_M_require_119 rfl hl (by decide) rfl (fun ls hl => ?_)
        have hc_2 : Int32.toInt 2 = 2 := by decide
        exact lp_M_require_120  hx hb hml hown ht hE hA hK h_0 h_1 fin 2 so fa op rq (by omega) (by omega) (by omega) (by omega) (by omega) (by omega) (by omega) _ _ ls hP hD hS (lv_sub hl [0, 1] rfl)
    · have dc_18 := i_ne c_18 rfl (show Int32.toInt 0 = 0 by decide)
      refine lv_iconst (v := 1) hx hb d_M_require_17 (by decide) ?_
      refine lv_goto (tgt := 119) hx hb d_M_require_18 (by decide) ?_
      refine lv_istore_n (lv' := [(1, .int 1), (0, .ref (h 0))]) hx hb d_M_require_119 rfl hl (by decide) rfl (fun ls hl => ?_)
      have hc_1 : Int32.toInt 1 = 1 := by decide
      exact lp_M_require_120  hx hb hml hown ht hE hA hK h_0 h_1 fin 1 so fa op rq (by omega) (by omega) (by omega) (by omega) (by omega) (by omega) (by omega) _ _ ls hP hD hS (lv_sub hl [0, 1] rfl)
  · have dc_14 := i_nlt c_14 rfl (show Int32.toInt 0 = 0 by decide)
    exact fin  (so, fa, op, rq) _ _ _ ls d_M_require_7 ⟨(by (try dsimp only); omega), (by (try dsimp only); omega), (by (try dsimp only); omega), (pr_same (by (try dsimp only); omega)), (by (try dsimp only); omega)⟩ hP hD hS
set_option maxHeartbeats 4000000 in
set_option maxRecDepth 100000 in
theorem c_M_require (l : Launch) (dC : Nat → ClassId) (dI : Nat → Nat → Nat) (k : Nat → Nat) (h : Nat → Nat) (g : Nat → ClassId) (ss : Int32) (sa : Int32) (so : Int32) (pl : Int32) (si : Int32) (fa : Int32) (li : Int32) (co : Int32) (st : Int32) (rq : Int32) (bl : Int32) (te : Int32) (op : Int32) (wo : Nat → Int64) (le : Nat → Int64) (wz : Nat → Int32) (sr : Nat → Int32) (tx : Nat → Int32) (ro : Nat → Int32)  (sz : Nat) (h_0 : 0 ≤ Int32.toInt pl) (h_1 : Int32.toInt pl ≤ 400) (v_0 : -1 ≤ Int32.toInt fa) (v_1 : Int32.toInt fa ≤ 400) (v_2 : Int32.toInt fa < 0 ∨ (Int32.toInt so = 0 ∧ Int32.toInt op = 0)) : Met l y_M_require (.code y_M_require b_M_require 2 none :: TT) ({ frames := 2, cells := 0, slots := 0, locals := 46 }) (va_Pc [.ref (h 0)] (PX dC dI k (TM g) (ME h g ss sa so pl si fa li co st rq bl te op wo wz sr le tx ro) sz)) (va_Qv (fun u : Int32 × Int32 × Int32 × Int32 => -1 ≤ Int32.toInt u.2.1 ∧ Int32.toInt u.2.1 ≤ 400 ∧ (Int32.toInt u.2.1 < 0 ∨ (Int32.toInt u.1 = 0 ∧ Int32.toInt u.2.2.1 = 0)) ∧ PR ss sa so fa op sa u.1 u.2.1 u.2.2.1 ∧ (0 ≤ Int32.toInt u.2.1 ∨ (Int32.toInt fa < 0 ∧ Int32.toInt u.2.1 < 0 ∧ Int32.toInt u.1 = Int32.toInt so))) (fun u t => BX dC dI (TM g) (va_A (ME h g ss sa so pl si fa li co st rq bl te op wo wz sr le tx ro) sz) (ME h g ss sa u.1 pl si u.2.1 li co st u.2.2.2 bl te u.2.2.1 wo wz sr le tx ro) t) (va_A (ME h g ss sa so pl si fa li co st rq bl te op wo wz sr le tx ro) sz)) 0 0 (va_A (ME h g ss sa so pl si fa li co st rq bl te op wo wz sr le tx ro) sz) := by
  refine Met.ofW (cc := b_M_require) (maxL := 2) (ret := none) (by decide) rfl ?_
  intro p e s m args below meth c s₁ B hml hv
  obtain ⟨rfl, hsz, hE, hP, hK, hD0⟩ := hv
  have hx := B.exec
  have hb := B.bytes
  have hr := B.returns
  have ht : ∀ w ∈ TT, w.before _ s = true := fun w hw => atoms_spec (ws := .code y_M_require b_M_require 2 none :: TT) B.pre w (List.mem_cons_of_mem _ hw)
  have hown : s.vm.findClass "SieveDeskModel" = some m.cls := findClass_of_methodNamed B.named
  have hlocks := B.notSynchronized
  subst hsz
  have hD := hD0.self (sz := s.heap.size)
  generalize hAe : va_A (ME h g ss sa so pl si fa li co st rq bl te op wo wz sr le tx ro) s.heap.size = A at hE hD ⊢
  have hA : ∀ q : Nat, s.heap.size ≤ q → A q := fun q h9 => by rw [← hAe]; exact Or.inr h9
  have hS : va_S A s.heap s.heap [] := va_S.rf
  have hl := lv_entry ([.ref (h 0)]) (n := 2) (Nat.le_of_ble_eq_true rfl)
  rw [lg_entry_eq]
  generalize (lg_sl ([.ref (h 0)]) ++ List.replicate (2 - (lg_sl ([.ref (h 0)])).length) Slot.unset).toArray = ls at hl ⊢
  have hl : lv_has ls 2 [(0, .ref (h 0))] := hl
  exact bd_M_require_0  hx hb hml hown ht hE hA hK h_0 h_1 (fun u H locs pc ls hd hp hP hD hS => W.vret hx hb hr (fun t het hW => ⟨⟨u, rfl, hp, by rw [het]; exact hP, va_K.moved hW.alike hK, hD⟩, hS.F het⟩) hS.2.2 hd) so fa op rq rfl rfl rfl v_0 v_1 v_2 _ _ ls hP hD hS hl

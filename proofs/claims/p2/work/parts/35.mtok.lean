set_option maxHeartbeats 4000000 in
set_option maxRecDepth 100000 in
theorem lp_M_wordOf_0 {p : Program} {l : Launch} {e : Env} {s : State} {m : MethodId} {args : Array Value} {below : List Frame} {meth : Method} {c : Code} {Q : State → Prop} {A : Nat → Prop} {dC : Nat → ClassId} {dI : Nat → Nat → Nat} {k h : Nat → Nat} {g : Nat → ClassId} {ss : Int32} {so : Int32} {pl : Int32} {fa : Int32} {li : Int32} {co : Int32} {st : Int32} {rq : Int32} {bl : Int32} {te : Int32} {op : Int32} {wo : Nat → Int64} {wz : Nat → Int32} {sr : Nat → Int32} {ro : Nat → Int32} {sa0 : Int32} (hx : p.tables.exec = Jvm.exec) (hb : c.code = b_M_wordOf) (hml : c.maxLocals = 1) (hown : s.vm.findClass "SieveDeskModel" = some m.cls) (ht : ∀ w ∈ TT, w.before args s = true) (hE : KE k A s s.heap) (hA : ∀ q : Nat, s.heap.size ≤ q → A q) (hK : va_K (dC, dI) cls (TM g) s)  (h_0 : 0 ≤ Int32.toInt ss) (h_1 : Int32.toInt ss ≤ 400) (fin : ∀ (u : Int32 × Int32 × (Nat → Int64) × (Nat → Int32)) (H : Heap) (locs : List Loc) (pc : Nat) (ls : Array Slot), decode b_M_wordOf pc = .ok (.return_, 1) → (0 ≤ Int32.toInt u.1 ∧ Int32.toInt u.1 ≤ Int32.toInt ss ∧ 0 ≤ Int32.toInt u.2.1 ∧ Int32.toInt u.2.1 ≤ 400 ∧ Int32.toInt sa0 ≤ Int32.toInt u.1 ∧ Int32.toInt u.2.1 ≤ Int32.toInt u.1 ∧ (Int32.toInt sa0 < Int32.toInt u.1 ∨ (((pkI sr ss sa0 0 < 97 ∨ 122 < pkI sr ss sa0 0) ∧ (pkI sr ss sa0 0 < 65 ∨ 90 < pkI sr ss sa0 0)) ∧ (pkI sr ss sa0 0 < 48 ∨ 57 < pkI sr ss sa0 0) ∧ pkI sr ss sa0 0 ≠ 95))) → va_P (dC, dI) cls (ME h g ss u.1 so pl u.2.1 fa li co st rq bl te op wo wz sr u.2.2.1 u.2.2.2 ro) H → va_D A (ME h g ss u.1 so pl u.2.1 fa li co st rq bl te op wo wz sr u.2.2.1 u.2.2.2 ro) → va_S A s.heap H locs → W p l e ({ frames := 2, cells := 0, slots := 0, locals := 41 } : Room) s m args below meth c H locs 0 0 Q (F0 m pc ls [])) : ∀ (nn : Nat), ∀ (sa : Int32) (si : Int32) (le : Nat → Int64) (tx : Nat → Int32), Int32.toInt sa0 ≤ Int32.toInt sa → (Int32.toInt sa0 < Int32.toInt sa ∨ pkI sr ss sa 0 = pkI sr ss sa0 0) → 0 ≤ Int32.toInt sa → Int32.toInt sa ≤ Int32.toInt ss → 0 ≤ Int32.toInt si → Int32.toInt si ≤ 400 → Int32.toInt si ≤ Int32.toInt sa → (Int32.toInt ss - Int32.toInt sa).toNat < nn → ∀ (H : Heap) (locs : List Loc) (ls : Array Slot), va_P (dC, dI) cls (ME h g ss sa so pl si fa li co st rq bl te op wo wz sr le tx ro) H → va_D A (ME h g ss sa so pl si fa li co st rq bl te op wo wz sr le tx ro) → va_S A s.heap H locs → lv_has ls 1 [(0, .ref (h 0))] → W p l e ({ frames := 2, cells := 0, slots := 0, locals := 41 } : Room) s m args below meth c H locs 0 0 Q (F0 m 0 ls []) := by
  intro nn
  induction nn with
  | zero =>
    intro _ _ _ _ _ _ _ _ _ _ _ hm
    exact absurd hm (Nat.not_lt_zero _)
  | succ nn ih =>
    intro sa si le tx v_0 v_1 v_2 v_3 v_4 v_5 v_6 hm H locs ls hP hD hS hl
    refine lv_aload_n hx hb d_M_wordOf_0 rfl (lv_at hl 0 rfl) ?_
    refine lv_iconst (v := 0) hx hb d_M_wordOf_1 (by decide) ?_
    have hc_0 : Int32.toInt 0 = 0 := by decide
    have hFc := va_free (wc := (ME h g ss sa so pl si fa li co st rq bl te op wo wz sr le tx ro)) hD hS hA [0, 1, 2, 3, 4, 5, 6] rfl
    refine va_calli (va_runV (As := [.int 0]) (rest := []) ⟨hx, hb, hml, hown, ht⟩ (c_M_peek l dC dI k h g ss sa so pl si fa li co st rq bl te op wo le wz sr tx ro 0 _ (by omega) (by omega) (by omega) (by omega) (by omega) (by omega) ) (cwV 1 ht (g_V k_702 k_704 k_39 k_80 k_705) rfl rfl rfl (by decide +kernel) ⟨(Nat.le_of_ble_eq_true rfl), (Nat.le_of_ble_eq_true rfl)⟩) ⟨fb_X, va_recv hK hP (ci := 4) (q0 := 0) rfl rfl, pre_X hE hS hFc hP hK hD⟩ rfl rfl hl.1 rfl (lv_room (Nat.le_of_ble_eq_true rfl)) d_M_wordOf_2 ⟨(Nat.le_of_ble_eq_true rfl), (Nat.le_of_ble_eq_true rfl)⟩) hS (fun q _ h9 => hFc q h9) hFc (fun r_2 u_1 t H locs het hvm hw hB hz1 hk1 hS => ?_)
    obtain ⟨p_3, p_4⟩ := hw
    obtain ⟨hP1, hK1, hD1⟩ := hB
    rw [het] at hP1
    have hP : va_P (dC, dI) cls (ME h g ss sa so pl si fa li co st rq bl te op wo wz sr le tx ro) H := hP1
    have hD : va_D A (ME h g ss sa so pl si fa li co st rq bl te op wo wz sr le tx ro) := hD1.weaken (fun _ _ _ h9 => hFc _ h9)
    refine vp_callSi (W.runS (As := [.int r_2]) (rest := []) ⟨hx, hb, hml, hown, ht⟩ (c_M_isWordByte l k r_2 ) (va_cwS 1 ht (g_S k_721 k_722 k_80 k_723) rfl rfl rfl (by decide +kernel) ⟨(Nat.le_of_ble_eq_true rfl), (Nat.le_of_ble_eq_true rfl)⟩) ⟨fb_J, pre_J hE hS⟩ rfl rfl hl.1 rfl (lv_room (Nat.le_of_ble_eq_true rfl)) d_M_wordOf_5 ⟨(Nat.le_of_ble_eq_true rfl), (Nat.le_of_ble_eq_true rfl)⟩) (fun r_5 hw => ?_)
    obtain ⟨p_6, p_7⟩ := hw
    refine lv_if_eq (tgt := 33) hx hb d_M_wordOf_8 (by decide) (fun c_8 => ?_) (fun c_8 => ?_)
    · have dc_8 := i_eq c_8 rfl (show Int32.toInt 0 = 0 by decide)
      exact fin  (sa, si, le, tx) _ _ _ ls d_M_wordOf_33 ⟨(by (try dsimp only); omega), (by (try dsimp only); omega), (by (try dsimp only); omega), (by (try dsimp only); omega), (by (try dsimp only); omega), (by (try dsimp only); omega), (by (try dsimp only); omega)⟩ hP hD hS
    · have dc_8 := i_ne c_8 rfl (show Int32.toInt 0 = 0 by decide)
      refine lv_aload_n hx hb d_M_wordOf_11 rfl (lv_at hl 0 rfl) ?_
      refine lv_aload_n hx hb d_M_wordOf_12 rfl (lv_at hl 0 rfl) ?_
      refine lv_iconst (v := 0) hx hb d_M_wordOf_13 (by decide) ?_
      have hFc := va_free (wc := (ME h g ss sa so pl si fa li co st rq bl te op wo wz sr le tx ro)) hD hS hA [0, 1, 2, 3, 4, 5, 6] rfl
      refine va_calli (va_runV (As := [.int 0]) (rest := [.ref (h 0)]) ⟨hx, hb, hml, hown, ht⟩ (c_M_peek l dC dI k h g ss sa so pl si fa li co st rq bl te op wo le wz sr tx ro 0 _ (by omega) (by omega) (by omega) (by omega) (by omega) (by omega) ) (cwV 1 ht (g_V k_702 k_704 k_39 k_80 k_705) rfl rfl rfl (by decide +kernel) ⟨(Nat.le_of_ble_eq_true rfl), (Nat.le_of_ble_eq_true rfl)⟩) ⟨fb_X, va_recv hK hP (ci := 4) (q0 := 0) rfl rfl, pre_X hE hS hFc hP hK hD⟩ rfl rfl hl.1 rfl (lv_room (Nat.le_of_ble_eq_true rfl)) d_M_wordOf_14 ⟨(Nat.le_of_ble_eq_true rfl), (Nat.le_of_ble_eq_true rfl)⟩) hS (fun q _ h9 => hFc q h9) hFc (fun r_10 u_9 t H locs het hvm hw hB hz1 hk1 hS => ?_)
      obtain ⟨p_11, p_12⟩ := hw
      obtain ⟨hP1, hK1, hD1⟩ := hB
      rw [het] at hP1
      have hP : va_P (dC, dI) cls (ME h g ss sa so pl si fa li co st rq bl te op wo wz sr le tx ro) H := hP1
      have hD : va_D A (ME h g ss sa so pl si fa li co st rq bl te op wo wz sr le tx ro) := hD1.weaken (fun _ _ _ h9 => hFc _ h9)
      have hFc := va_free (wc := (ME h g ss sa so pl si fa li co st rq bl te op wo wz sr le tx ro)) hD hS hA [0, 1, 2, 3, 4, 5, 6] rfl
      refine va_callv (va_runV (As := [.int r_10]) (rest := []) ⟨hx, hb, hml, hown, ht⟩ (c_M_add l dC dI k h g ss sa so pl si fa li co st rq bl te op wo le wz sr tx ro r_10 _  (by omega) (by omega) (by omega)) (cwV 1 ht (g_V k_727 k_729 k_43 k_80 k_730) rfl rfl rfl (by decide +kernel) ⟨(Nat.le_of_ble_eq_true rfl), (Nat.le_of_ble_eq_true rfl)⟩) ⟨fb_X, va_recv hK hP (ci := 4) (q0 := 0) rfl rfl, pre_X hE hS hFc hP hK hD⟩ rfl rfl hl.1 rfl (lv_room (Nat.le_of_ble_eq_true rfl)) d_M_wordOf_17 ⟨(Nat.le_of_ble_eq_true rfl), (Nat.le_of_ble_eq_true rfl)⟩) hS (fun q _ h9 => hFc q h9) hFc (fun u_16 t H locs het hvm hw hB hz1 hk1 hS => ?_)
      obtain ⟨si_13, le_14, tx_15⟩ := u_16
      try dsimp only at hw
      obtain ⟨p_18, p_19, p_20⟩ := hw
      obtain ⟨hP1, hK1, hD1⟩ := hB
      rw [het] at hP1
      have hP : va_P (dC, dI) cls (ME h g ss sa so pl si_13 fa li co st rq bl te op wo wz sr le_14 tx_15 ro) H := hP1
      have hD : va_D A (ME h g ss sa so pl si_13 fa li co st rq bl te op wo wz sr le_14 tx_15 ro) := hD1.weaken (fun _ _ _ h9 => hFc _ h9)
      refine lv_aload_n hx hb d_M_wordOf_20 rfl (lv_at hl 0 rfl) ?_
      refine lv_aload_n hx hb d_M_wordOf_21 rfl (lv_at hl 0 rfl) ?_
      refine va_get (D := (dC, dI)) (ci := 4) (v := .int sa) (C := "SieveDeskModel") (T := F_M) (N := 19) hx hb ht i_M hown hK hP 0 rfl rfl 4 (by decide) (ht _ k_631) (fun _ h9 => h9) rfl d_M_wordOf_22 ?_
      refine lv_iconst (v := 1) hx hb d_M_wordOf_25 (by decide) ?_
      refine lv_iadd hx hb d_M_wordOf_26 ?_
      have e_21 : Int32.toInt (sa + 1) = (Int32.toInt sa) + 1 := i_add rfl (show Int32.toInt 1 = 1 by decide) (by omega) (by omega)
      refine va_put (D := (dC, dI)) (ci := 4) (v := .int (sa + 1)) (ty := .int) (C := "SieveDeskModel") (T := F_M) (N := 19) hx hb ht i_M ty_M ty_M_ok n_M hown hK hP hD hS 0 rfl rfl 4 (by decide) (ht _ k_631) (fun _ h9 => h9) rfl (ty_M_ok 4 (by decide)) rfl rfl (Nat.le_of_ble_eq_true rfl) d_M_wordOf_27 (fun H locs hP hD hS => ?_)
      have hP : va_P (dC, dI) cls (ME h g ss (sa + 1) so pl si_13 fa li co st rq bl te op wo wz sr le_14 tx_15 ro) H := hP
      have hD : va_D A (ME h g ss (sa + 1) so pl si_13 fa li co st rq bl te op wo wz sr le_14 tx_15 ro) := hD
      refine lv_goto (tgt := 0) hx hb d_M_wordOf_30 (by decide) ?_
      exact ih (sa + 1) si_13 le_14 tx_15 (by omega) (by omega) (by omega) (by omega) (by omega) (by omega) (by omega) (by omega) _ _ ls hP hD hS (lv_sub hl [0] rfl)
set_option maxHeartbeats 4000000 in
set_option maxRecDepth 100000 in
theorem bd_M_wordOf_0 {p : Program} {l : Launch} {e : Env} {s : State} {m : MethodId} {args : Array Value} {below : List Frame} {meth : Method} {c : Code} {Q : State → Prop} {A : Nat → Prop} {dC : Nat → ClassId} {dI : Nat → Nat → Nat} {k h : Nat → Nat} {g : Nat → ClassId} {ss : Int32} {so : Int32} {pl : Int32} {fa : Int32} {li : Int32} {co : Int32} {st : Int32} {rq : Int32} {bl : Int32} {te : Int32} {op : Int32} {wo : Nat → Int64} {wz : Nat → Int32} {sr : Nat → Int32} {ro : Nat → Int32} {sa0 : Int32} (hx : p.tables.exec = Jvm.exec) (hb : c.code = b_M_wordOf) (hml : c.maxLocals = 1) (hown : s.vm.findClass "SieveDeskModel" = some m.cls) (ht : ∀ w ∈ TT, w.before args s = true) (hE : KE k A s s.heap) (hA : ∀ q : Nat, s.heap.size ≤ q → A q) (hK : va_K (dC, dI) cls (TM g) s)  (h_0 : 0 ≤ Int32.toInt ss) (h_1 : Int32.toInt ss ≤ 400) (fin : ∀ (u : Int32 × Int32 × (Nat → Int64) × (Nat → Int32)) (H : Heap) (locs : List Loc) (pc : Nat) (ls : Array Slot), decode b_M_wordOf pc = .ok (.return_, 1) → (0 ≤ Int32.toInt u.1 ∧ Int32.toInt u.1 ≤ Int32.toInt ss ∧ 0 ≤ Int32.toInt u.2.1 ∧ Int32.toInt u.2.1 ≤ 400 ∧ Int32.toInt sa0 ≤ Int32.toInt u.1 ∧ Int32.toInt u.2.1 ≤ Int32.toInt u.1 ∧ (Int32.toInt sa0 < Int32.toInt u.1 ∨ (((pkI sr ss sa0 0 < 97 ∨ 122 < pkI sr ss sa0 0) ∧ (pkI sr ss sa0 0 < 65 ∨ 90 < pkI sr ss sa0 0)) ∧ (pkI sr ss sa0 0 < 48 ∨ 57 < pkI sr ss sa0 0) ∧ pkI sr ss sa0 0 ≠ 95))) → va_P (dC, dI) cls (ME h g ss u.1 so pl u.2.1 fa li co st rq bl te op wo wz sr u.2.2.1 u.2.2.2 ro) H → va_D A (ME h g ss u.1 so pl u.2.1 fa li co st rq bl te op wo wz sr u.2.2.1 u.2.2.2 ro) → va_S A s.heap H locs → W p l e ({ frames := 2, cells := 0, slots := 0, locals := 41 } : Room) s m args below meth c H locs 0 0 Q (F0 m pc ls [])) : ∀ (sa : Int32) (si : Int32) (le : Nat → Int64) (tx : Nat → Int32), sa = sa0 → 0 ≤ Int32.toInt sa → Int32.toInt sa ≤ Int32.toInt ss → 0 ≤ Int32.toInt si → Int32.toInt si ≤ 400 → Int32.toInt si ≤ Int32.toInt sa → ∀ (H : Heap) (locs : List Loc) (ls : Array Slot), va_P (dC, dI) cls (ME h g ss sa so pl si fa li co st rq bl te op wo wz sr le tx ro) H → va_D A (ME h g ss sa so pl si fa li co st rq bl te op wo wz sr le tx ro) → va_S A s.heap H locs → lv_has ls 1 [(0, .ref (h 0))] → W p l e ({ frames := 2, cells := 0, slots := 0, locals := 41 } : Room) s m args below meth c H locs 0 0 Q (F0 m 0 ls []) := by
  intro sa si le tx v_0 v_1 v_2 v_3 v_4 v_5 H locs ls hP hD hS hl
  subst v_0
  exact (lp_M_wordOf_0  hx hb hml hown ht hE hA hK h_0 h_1 fin _) sa si le tx (by omega) (by omega) (by omega) (by omega) (by omega) (by omega) (by omega) (Nat.lt_succ_self _) _ _ ls hP hD hS (lv_sub hl [0] rfl)
set_option maxHeartbeats 4000000 in
set_option maxRecDepth 100000 in
theorem c_M_wordOf (l : Launch) (dC : Nat → ClassId) (dI : Nat → Nat → Nat) (k : Nat → Nat) (h : Nat → Nat) (g : Nat → ClassId) (ss : Int32) (sa : Int32) (so : Int32) (pl : Int32) (si : Int32) (fa : Int32) (li : Int32) (co : Int32) (st : Int32) (rq : Int32) (bl : Int32) (te : Int32) (op : Int32) (wo : Nat → Int64) (le : Nat → Int64) (wz : Nat → Int32) (sr : Nat → Int32) (tx : Nat → Int32) (ro : Nat → Int32)  (sz : Nat) (h_0 : 0 ≤ Int32.toInt ss) (h_1 : Int32.toInt ss ≤ 400) (v_0 : 0 ≤ Int32.toInt sa) (v_1 : Int32.toInt sa ≤ Int32.toInt ss) (v_2 : 0 ≤ Int32.toInt si) (v_3 : Int32.toInt si ≤ 400) (v_4 : Int32.toInt si ≤ Int32.toInt sa) : Met l y_M_wordOf (.code y_M_wordOf b_M_wordOf 1 none :: TT) ({ frames := 2, cells := 0, slots := 0, locals := 41 }) (va_Pc [.ref (h 0)] (PX dC dI k (TM g) (ME h g ss sa so pl si fa li co st rq bl te op wo wz sr le tx ro) sz)) (va_Qv (fun u : Int32 × Int32 × (Nat → Int64) × (Nat → Int32) => 0 ≤ Int32.toInt u.1 ∧ Int32.toInt u.1 ≤ Int32.toInt ss ∧ 0 ≤ Int32.toInt u.2.1 ∧ Int32.toInt u.2.1 ≤ 400 ∧ Int32.toInt sa ≤ Int32.toInt u.1 ∧ Int32.toInt u.2.1 ≤ Int32.toInt u.1 ∧ (Int32.toInt sa < Int32.toInt u.1 ∨ (((pkI sr ss sa 0 < 97 ∨ 122 < pkI sr ss sa 0) ∧ (pkI sr ss sa 0 < 65 ∨ 90 < pkI sr ss sa 0)) ∧ (pkI sr ss sa 0 < 48 ∨ 57 < pkI sr ss sa 0) ∧ pkI sr ss sa 0 ≠ 95))) (fun u t => BX dC dI (TM g) (va_A (ME h g ss sa so pl si fa li co st rq bl te op wo wz sr le tx ro) sz) (ME h g ss u.1 so pl u.2.1 fa li co st rq bl te op wo wz sr u.2.2.1 u.2.2.2 ro) t) (va_A (ME h g ss sa so pl si fa li co st rq bl te op wo wz sr le tx ro) sz)) 0 0 (va_A (ME h g ss sa so pl si fa li co st rq bl te op wo wz sr le tx ro) sz) := by
  refine Met.ofW (cc := b_M_wordOf) (maxL := 1) (ret := none) (by decide) rfl ?_
  intro p e s m args below meth c s₁ B hml hv
  obtain ⟨rfl, hsz, hE, hP, hK, hD0⟩ := hv
  have hx := B.exec
  have hb := B.bytes
  have hr := B.returns
  have ht : ∀ w ∈ TT, w.before _ s = true := fun w hw => atoms_spec (ws := .code y_M_wordOf b_M_wordOf 1 none :: TT) B.pre w (List.mem_cons_of_mem _ hw)
  have hown : s.vm.findClass "SieveDeskModel" = some m.cls := findClass_of_methodNamed B.named
  have hlocks := B.notSynchronized
  subst hsz
  have hD := hD0.self (sz := s.heap.size)
  generalize hAe : va_A (ME h g ss sa so pl si fa li co st rq bl te op wo wz sr le tx ro) s.heap.size = A at hE hD ⊢
  have hA : ∀ q : Nat, s.heap.size ≤ q → A q := fun q h9 => by rw [← hAe]; exact Or.inr h9
  have hS : va_S A s.heap s.heap [] := va_S.rf
  have hl := lv_entry ([.ref (h 0)]) (n := 1) (Nat.le_of_ble_eq_true rfl)
  rw [lg_entry_eq]
  generalize (lg_sl ([.ref (h 0)]) ++ List.replicate (1 - (lg_sl ([.ref (h 0)])).length) Slot.unset).toArray = ls at hl ⊢
  have hl : lv_has ls 1 [(0, .ref (h 0))] := hl
  exact bd_M_wordOf_0  hx hb hml hown ht hE hA hK h_0 h_1 (fun u H locs pc ls hd hp hP hD hS => W.vret hx hb hr (fun t het hW => ⟨⟨u, rfl, hp, by rw [het]; exact hP, va_K.moved hW.alike hK, hD⟩, hS.F het⟩) hS.2.2 hd) sa si le tx rfl v_0 v_1 v_2 v_3 v_4 _ _ ls hP hD hS hl
set_option maxHeartbeats 4000000 in
set_option maxRecDepth 100000 in
theorem lp_M_digits_133 {p : Program} {l : Launch} {e : Env} {s : State} {m : MethodId} {args : Array Value} {below : List Frame} {meth : Method} {c : Code} {Q : State → Prop} {A : Nat → Prop} {dC : Nat → ClassId} {dI : Nat → Nat → Nat} {k h : Nat → Nat} {g : Nat → ClassId} {ss : Int32} {so : Int32} {pl : Int32} {si : Int32} {fa : Int32} {li : Int32} {co : Int32} {st : Int32} {rq : Int32} {bl : Int32} {te : Int32} {op : Int32} {wo : Nat → Int64} {le : Nat → Int64} {wz : Nat → Int32} {sr : Nat → Int32} {tx : Nat → Int32} {ro : Nat → Int32} {sa0 : Int32} (hx : p.tables.exec = Jvm.exec) (hb : c.code = b_M_digits) (hml : c.maxLocals = 4) (hown : s.vm.findClass "SieveDeskModel" = some m.cls) (ht : ∀ w ∈ TT, w.before args s = true) (hE : KE k A s s.heap) (hA : ∀ q : Nat, s.heap.size ≤ q → A q) (hK : va_K (dC, dI) cls (TM g) s)  (h_0 : 0 ≤ Int32.toInt ss) (h_1 : Int32.toInt ss ≤ 400) (fin : ∀ (r : Int32) (u : Int32) (H : Heap) (locs : List Loc) (pc : Nat) (ls : Array Slot), decode b_M_digits pc = .ok (.ireturn, 1) → (0 ≤ Int32.toInt u ∧ Int32.toInt u ≤ Int32.toInt ss ∧ Int32.toInt sa0 ≤ Int32.toInt u ∧ (Int32.toInt sa0 < Int32.toInt u ∨ (pkI sr ss sa0 0 < 48 ∨ 57 < pkI sr ss sa0 0)) ∧ (Int32.toInt r = 5 ∨ Int32.toInt r = 3)) → va_P (dC, dI) cls (ME h g ss u so pl si fa li co st rq bl te op wo wz sr le tx ro) H → va_D A (ME h g ss u so pl si fa li co st rq bl te op wo wz sr le tx ro) → va_S A s.heap H locs → W p l e ({ frames := 2, cells := 0, slots := 0, locals := 40 } : Room) s m args below meth c H locs 0 0 Q (F0 m pc ls [.int r])) : ∀ (va : Int64) (sa : Int32), Int32.toInt sa0 ≤ Int32.toInt sa → (Int32.toInt sa0 < Int32.toInt sa ∨ (pkI sr ss sa0 0 < 48 ∨ 57 < pkI sr ss sa0 0)) → 0 ≤ Int32.toInt sa → Int32.toInt sa ≤ Int32.toInt ss → ∀ (H : Heap) (locs : List Loc) (ls : Array Slot), va_P (dC, dI) cls (ME h g ss sa so pl si fa li co st rq bl te op wo wz sr le tx ro) H → va_D A (ME h g ss sa so pl si fa li co st rq bl te op wo wz sr le tx ro) → va_S A s.heap H locs → lv_has ls 4 [(1, .long va), (0, .ref (h 0))] → W p l e ({ frames := 2, cells := 0, slots := 0, locals := 40 } : Room) s m args below meth c H locs 0 0 Q (F0 m 133 ls []) := by
  intro va sa v_0 v_1 v_2 v_3 H locs ls hP hD hS hl
  refine lv_aload_n hx hb d_M_digits_133 rfl (lv_at hl 1 rfl) ?_
  refine lv_iconst (v := 0) hx hb d_M_digits_134 (by decide) ?_
  have hc_0 : Int32.toInt 0 = 0 := by decide
  have hFc := va_free (wc := (ME h g ss sa so pl si fa li co st rq bl te op wo wz sr le tx ro)) hD hS hA [0, 1, 2, 3, 4, 5, 6] rfl
  refine va_calli (va_runV (As := [.int 0]) (rest := []) ⟨hx, hb, hml, hown, ht⟩ (c_M_peek l dC dI k h g ss sa so pl si fa li co st rq bl te op wo le wz sr tx ro 0 _ (by omega) (by omega) (by omega) (by omega) (by omega) (by omega) ) (cwV 1 ht (g_V k_702 k_704 k_39 k_80 k_705) rfl rfl rfl (by decide +kernel) ⟨(Nat.le_of_ble_eq_true rfl), (Nat.le_of_ble_eq_true rfl)⟩) ⟨fb_X, va_recv hK hP (ci := 4) (q0 := 0) rfl rfl, pre_X hE hS hFc hP hK hD⟩ rfl rfl hl.1 rfl (lv_room (Nat.le_of_ble_eq_true rfl)) d_M_digits_135 ⟨(Nat.le_of_ble_eq_true rfl), (Nat.le_of_ble_eq_true rfl)⟩) hS (fun q _ h9 => hFc q h9) hFc (fun r_2 u_1 t H locs het hvm hw hB hz1 hk1 hS => ?_)
  obtain ⟨p_3, p_4⟩ := hw
  obtain ⟨hP1, hK1, hD1⟩ := hB
  rw [het] at hP1
  have hP : va_P (dC, dI) cls (ME h g ss sa so pl si fa li co st rq bl te op wo wz sr le tx ro) H := hP1
  have hD : va_D A (ME h g ss sa so pl si fa li co st rq bl te op wo wz sr le tx ro) := hD1.weaken (fun _ _ _ h9 => hFc _ h9)
  refine vp_callSi (W.runS (As := [.int r_2]) (rest := []) ⟨hx, hb, hml, hown, ht⟩ (c_M_isWordByte l k r_2 ) (va_cwS 1 ht (g_S k_721 k_722 k_80 k_723) rfl rfl rfl (by decide +kernel) ⟨(Nat.le_of_ble_eq_true rfl), (Nat.le_of_ble_eq_true rfl)⟩) ⟨fb_J, pre_J hE hS⟩ rfl rfl hl.1 rfl (lv_room (Nat.le_of_ble_eq_true rfl)) d_M_digits_138 ⟨(Nat.le_of_ble_eq_true rfl), (Nat.le_of_ble_eq_true rfl)⟩) (fun r_5 hw => ?_)
  obtain ⟨p_6, p_7⟩ := hw
  refine lv_if_ne (tgt := 152) hx hb d_M_digits_141 (by decide) (fun c_8 => ?_) (fun c_8 => ?_)
  · have dc_8 := i_ne c_8 rfl (show Int32.toInt 0 = 0 by decide)
    refine lv_iconst (v := 5) hx hb d_M_digits_152 (by decide) ?_
    refine lv_goto (tgt := 157) hx hb d_M_digits_153 (by decide) ?_
    have hc_5 : Int32.toInt 5 = 5 := by decide
    exact fin 5 sa _ _ _ ls d_M_digits_157 ⟨(by (try dsimp only); omega), (by (try dsimp only); omega), (by (try dsimp only); omega), (by (try dsimp only); omega), (by (try dsimp only); omega)⟩ hP hD hS
  · have dc_8 := i_eq c_8 rfl (show Int32.toInt 0 = 0 by decide)
    refine lv_lload_n hx hb d_M_digits_144 rfl (lv_at hl 0 rfl) ?_
    refine lv_ldc2 (v := 2147483647) hx hb hown (ht _ k_758) d_M_digits_145 ?_
    refine W.lcmp hx hb d_M_digits_148 ?_
    refine lv_topi (fun lc_9 elc_9 => ?_)
    refine lv_if_le (tgt := 156) hx hb d_M_digits_149 (by decide) (fun c_10 => ?_) (fun c_10 => ?_)
    · refine lv_iconst (v := 3) hx hb d_M_digits_156 (by decide) ?_
      have hc_3 : Int32.toInt 3 = 3 := by decide
      exact fin 3 sa _ _ _ ls d_M_digits_157 ⟨(by (try dsimp only); omega), (by (try dsimp only); omega), (by (try dsimp only); omega), (by (try dsimp only); omega), (by (try dsimp only); omega)⟩ hP hD hS
    · refine lv_iconst (v := 5) hx hb d_M_digits_152 (by decide) ?_
      refine lv_goto (tgt := 157) hx hb d_M_digits_153 (by decide) ?_
      have hc_5 : Int32.toInt 5 = 5 := by decide
      exact fin 5 sa _ _ _ ls d_M_digits_157 ⟨(by (try dsimp only); omega), (by (try dsimp only); omega), (by (try dsimp only); omega), (by (try dsimp only); omega), (by (try dsimp only); omega)⟩ hP hD hS
set_option maxHeartbeats 4000000 in
set_option maxRecDepth 100000 in
theorem lp_M_digits_2 {p : Program} {l : Launch} {e : Env} {s : State} {m : MethodId} {args : Array Value} {below : List Frame} {meth : Method} {c : Code} {Q : State → Prop} {A : Nat → Prop} {dC : Nat → ClassId} {dI : Nat → Nat → Nat} {k h : Nat → Nat} {g : Nat → ClassId} {ss : Int32} {so : Int32} {pl : Int32} {si : Int32} {fa : Int32} {li : Int32} {co : Int32} {st : Int32} {rq : Int32} {bl : Int32} {te : Int32} {op : Int32} {wo : Nat → Int64} {le : Nat → Int64} {wz : Nat → Int32} {sr : Nat → Int32} {tx : Nat → Int32} {ro : Nat → Int32} {sa0 : Int32} (hx : p.tables.exec = Jvm.exec) (hb : c.code = b_M_digits) (hml : c.maxLocals = 4) (hown : s.vm.findClass "SieveDeskModel" = some m.cls) (ht : ∀ w ∈ TT, w.before args s = true) (hE : KE k A s s.heap) (hA : ∀ q : Nat, s.heap.size ≤ q → A q) (hK : va_K (dC, dI) cls (TM g) s)  (h_0 : 0 ≤ Int32.toInt ss) (h_1 : Int32.toInt ss ≤ 400) (fin : ∀ (r : Int32) (u : Int32) (H : Heap) (locs : List Loc) (pc : Nat) (ls : Array Slot), decode b_M_digits pc = .ok (.ireturn, 1) → (0 ≤ Int32.toInt u ∧ Int32.toInt u ≤ Int32.toInt ss ∧ Int32.toInt sa0 ≤ Int32.toInt u ∧ (Int32.toInt sa0 < Int32.toInt u ∨ (pkI sr ss sa0 0 < 48 ∨ 57 < pkI sr ss sa0 0)) ∧ (Int32.toInt r = 5 ∨ Int32.toInt r = 3)) → va_P (dC, dI) cls (ME h g ss u so pl si fa li co st rq bl te op wo wz sr le tx ro) H → va_D A (ME h g ss u so pl si fa li co st rq bl te op wo wz sr le tx ro) → va_S A s.heap H locs → W p l e ({ frames := 2, cells := 0, slots := 0, locals := 40 } : Room) s m args below meth c H locs 0 0 Q (F0 m pc ls [.int r])) : ∀ (nn : Nat), ∀ (va : Int64) (sa : Int32), Int32.toInt sa0 ≤ Int32.toInt sa → (Int32.toInt sa0 < Int32.toInt sa ∨ pkI sr ss sa 0 = pkI sr ss sa0 0) → 0 ≤ Int32.toInt sa → Int32.toInt sa ≤ Int32.toInt ss → (Int32.toInt ss - Int32.toInt sa).toNat < nn → ∀ (H : Heap) (locs : List Loc) (ls : Array Slot), va_P (dC, dI) cls (ME h g ss sa so pl si fa li co st rq bl te op wo wz sr le tx ro) H → va_D A (ME h g ss sa so pl si fa li co st rq bl te op wo wz sr le tx ro) → va_S A s.heap H locs → lv_has ls 4 [(1, .long va), (0, .ref (h 0))] → W p l e ({ frames := 2, cells := 0, slots := 0, locals := 40 } : Room) s m args below meth c H locs 0 0 Q (F0 m 2 ls []) := by
  intro nn
  induction nn with
  | zero =>
    intro _ _ _ _ _ _ hm
    exact absurd hm (Nat.not_lt_zero _)
  | succ nn ih =>
    intro va sa v_0 v_1 v_2 v_3 hm H locs ls hP hD hS hl
    refine lv_aload_n hx hb d_M_digits_2 rfl (lv_at hl 1 rfl) ?_
    refine lv_iconst (v := 0) hx hb d_M_digits_3 (by decide) ?_
    have hc_0 : Int32.toInt 0 = 0 := by decide
    have hFc := va_free (wc := (ME h g ss sa so pl si fa li co st rq bl te op wo wz sr le tx ro)) hD hS hA [0, 1, 2, 3, 4, 5, 6] rfl
    refine va_calli (va_runV (As := [.int 0]) (rest := []) ⟨hx, hb, hml, hown, ht⟩ (c_M_peek l dC dI k h g ss sa so pl si fa li co st rq bl te op wo le wz sr tx ro 0 _ (by omega) (by omega) (by omega) (by omega) (by omega) (by omega) ) (cwV 1 ht (g_V k_702 k_704 k_39 k_80 k_705) rfl rfl rfl (by decide +kernel) ⟨(Nat.le_of_ble_eq_true rfl), (Nat.le_of_ble_eq_true rfl)⟩) ⟨fb_X, va_recv hK hP (ci := 4) (q0 := 0) rfl rfl, pre_X hE hS hFc hP hK hD⟩ rfl rfl hl.1 rfl (lv_room (Nat.le_of_ble_eq_true rfl)) d_M_digits_4 ⟨(Nat.le_of_ble_eq_true rfl), (Nat.le_of_ble_eq_true rfl)⟩) hS (fun q _ h9 => hFc q h9) hFc (fun r_12 u_11 t H locs het hvm hw hB hz1 hk1 hS => ?_)
    obtain ⟨p_13, p_14⟩ := hw
    obtain ⟨hP1, hK1, hD1⟩ := hB
    rw [het] at hP1
    have hP : va_P (dC, dI) cls (ME h g ss sa so pl si fa li co st rq bl te op wo wz sr le tx ro) H := hP1
    have hD : va_D A (ME h g ss sa so pl si fa li co st rq bl te op wo wz sr le tx ro) := hD1.weaken (fun _ _ _ h9 => hFc _ h9)
    refine vp_callSi (W.runS (As := [.int r_12]) (rest := []) ⟨hx, hb, hml, hown, ht⟩ (c_M_isDigit l k r_12 ) (va_cwS 1 ht (g_S k_724 k_725 k_80 k_726) rfl rfl rfl (by decide +kernel) ⟨(Nat.le_of_ble_eq_true rfl), (Nat.le_of_ble_eq_true rfl)⟩) ⟨fb_J, pre_J hE hS⟩ rfl rfl hl.1 rfl (lv_room (Nat.le_of_ble_eq_true rfl)) d_M_digits_7 ⟨(Nat.le_of_ble_eq_true rfl), (Nat.le_of_ble_eq_true rfl)⟩) (fun r_15 hw => ?_)
    obtain ⟨p_16, p_17⟩ := hw
    refine lv_if_eq (tgt := 55) hx hb d_M_digits_10 (by decide) (fun c_18 => ?_) (fun c_18 => ?_)
    · have dc_18 := i_eq c_18 rfl (show Int32.toInt 0 = 0 by decide)
      refine lv_aload_n hx hb d_M_digits_55 rfl (lv_at hl 1 rfl) ?_
      refine lv_iconst (v := 0) hx hb d_M_digits_56 (by decide) ?_
      have hFc := va_free (wc := (ME h g ss sa so pl si fa li co st rq bl te op wo wz sr le tx ro)) hD hS hA [0, 1, 2, 3, 4, 5, 6] rfl
      refine va_calli (va_runV (As := [.int 0]) (rest := []) ⟨hx, hb, hml, hown, ht⟩ (c_M_peek l dC dI k h g ss sa so pl si fa li co st rq bl te op wo le wz sr tx ro 0 _ (by omega) (by omega) (by omega) (by omega) (by omega) (by omega) ) (cwV 1 ht (g_V k_702 k_704 k_39 k_80 k_705) rfl rfl rfl (by decide +kernel) ⟨(Nat.le_of_ble_eq_true rfl), (Nat.le_of_ble_eq_true rfl)⟩) ⟨fb_X, va_recv hK hP (ci := 4) (q0 := 0) rfl rfl, pre_X hE hS hFc hP hK hD⟩ rfl rfl hl.1 rfl (lv_room (Nat.le_of_ble_eq_true rfl)) d_M_digits_57 ⟨(Nat.le_of_ble_eq_true rfl), (Nat.le_of_ble_eq_true rfl)⟩) hS (fun q _ h9 => hFc q h9) hFc (fun r_20 u_19 t H locs het hvm hw hB hz1 hk1 hS => ?_)
      obtain ⟨p_21, p_22⟩ := hw
      obtain ⟨hP1, hK1, hD1⟩ := hB
      rw [het] at hP1
      have hP : va_P (dC, dI) cls (ME h g ss sa so pl si fa li co st rq bl te op wo wz sr le tx ro) H := hP1
      have hD : va_D A (ME h g ss sa so pl si fa li co st rq bl te op wo wz sr le tx ro) := hD1.weaken (fun _ _ _ h9 => hFc _ h9)
      refine vp_callSi (W.runS (As := [.int r_20]) (rest := []) ⟨hx, hb, hml, hown, ht⟩ (c_M_low l k r_20 ) (va_cwS 1 ht (g_S k_731 k_732 k_80 k_733) rfl rfl rfl (by decide +kernel) ⟨(Nat.le_of_ble_eq_true rfl), (Nat.le_of_ble_eq_true rfl)⟩) ⟨fb_J, pre_J hE hS⟩ rfl rfl hl.1 rfl (lv_room (Nat.le_of_ble_eq_true rfl)) d_M_digits_60 ⟨(Nat.le_of_ble_eq_true rfl), (Nat.le_of_ble_eq_true rfl)⟩) (fun r_23 hw => ?_)
      have p_24 := hw
      refine lv_istore_n (lv' := [(3, .int r_23), (1, .long va), (0, .ref (h 0))]) hx hb d_M_digits_63 rfl hl (by decide) rfl (fun ls hl => ?_)
      refine lv_iload_n hx hb d_M_digits_64 rfl (lv_at hl 0 rfl) ?_
      refine lv_bipush (v := 107) hx hb d_M_digits_65 (by decide) ?_
      refine lv_icmp_eq (tgt := 82) hx hb d_M_digits_67 (by decide) (fun c_25 => ?_) (fun c_25 => ?_)
      · have dc_25 := i_eq c_25 rfl (show Int32.toInt 107 = 107 by decide)
        refine lv_aload_n hx hb d_M_digits_82 rfl (lv_at hl 2 rfl) ?_
        refine lv_aload_n hx hb d_M_digits_83 rfl (lv_at hl 2 rfl) ?_
        refine va_get (D := (dC, dI)) (ci := 4) (v := .int sa) (C := "SieveDeskModel") (T := F_M) (N := 19) hx hb ht i_M hown hK hP 0 rfl rfl 4 (by decide) (ht _ k_631) (fun _ h9 => h9) rfl d_M_digits_84 ?_
        refine lv_iconst (v := 1) hx hb d_M_digits_87 (by decide) ?_
        refine lv_iadd hx hb d_M_digits_88 ?_
        have e_26 : Int32.toInt (sa + 1) = (Int32.toInt sa) + 1 := i_add rfl (show Int32.toInt 1 = 1 by decide) (by omega) (by omega)
        refine va_put (D := (dC, dI)) (ci := 4) (v := .int (sa + 1)) (ty := .int) (C := "SieveDeskModel") (T := F_M) (N := 19) hx hb ht i_M ty_M ty_M_ok n_M hown hK hP hD hS 0 rfl rfl 4 (by decide) (ht _ k_631) (fun _ h9 => h9) rfl (ty_M_ok 4 (by decide)) rfl rfl (Nat.le_of_ble_eq_true rfl) d_M_digits_89 (fun H locs hP hD hS => ?_)
        have hP : va_P (dC, dI) cls (ME h g ss (sa + 1) so pl si fa li co st rq bl te op wo wz sr le tx ro) H := hP
        have hD : va_D A (ME h g ss (sa + 1) so pl si fa li co st rq bl te op wo wz sr le tx ro) := hD
        refine lv_lload_n hx hb d_M_digits_92 rfl (lv_at hl 1 rfl) ?_
        refine lv_ldc2 (v := 4294967296) hx hb hown (ht _ k_757) d_M_digits_93 ?_
        refine W.lcmp hx hb d_M_digits_96 ?_
        refine lv_topi (fun lc_27 elc_27 => ?_)
        refine lv_if_ge (tgt := 104) hx hb d_M_digits_97 (by decide) (fun c_28 => ?_) (fun c_28 => ?_)
        · refine lv_ldc2 (v := 4294967296) hx hb hown (ht _ k_757) d_M_digits_104 ?_
          refine lv_iload_n hx hb d_M_digits_107 rfl (lv_at hl 0 rfl) ?_
          refine lv_bipush (v := 107) hx hb d_M_digits_108 (by decide) ?_
          refine lv_icmp_ne (tgt := 118) hx hb d_M_digits_110 (by decide) (fun c_29 => ?_) (fun c_29 => ?_)
          · have dc_29 := i_ne c_29 rfl (show Int32.toInt 107 = 107 by decide)
            refine lv_iload_n hx hb d_M_digits_118 rfl (lv_at hl 0 rfl) ?_
            refine lv_bipush (v := 109) hx hb d_M_digits_119 (by decide) ?_
            refine lv_icmp_ne (tgt := 129) hx hb d_M_digits_121 (by decide) (fun c_30 => ?_) (fun c_30 => ?_)
            · have dc_30 := i_ne c_30 rfl (show Int32.toInt 109 = 109 by decide)
              refine lv_bipush (v := 30) hx hb d_M_digits_129 (by decide) ?_
              refine lv_lshl (v := (4294967296 <<< ((Int32.toInt64 30) &&& 63))) hx hb d_M_digits_131 rfl ?_
              refine lv_lstore_n (lv' := [(1, .long (4294967296 <<< ((Int32.toInt64 30) &&& 63))), (3, .int r_23), (0, .ref (h 0))]) hx hb d_M_digits_132 rfl hl (by decide) rfl (fun ls hl => ?_)
              exact lp_M_digits_133 (sa0 := sa0) hx hb hml hown ht hE hA hK h_0 h_1 fin (4294967296 <<< ((Int32.toInt64 30) &&& 63)) (sa + 1) (by omega) (by omega) (by omega) (by omega) _ _ ls hP hD hS (lv_sub hl [0, 2] rfl)
            · have dc_30 := i_eq c_30 rfl (show Int32.toInt 109 = 109 by decide)
              refine lv_bipush (v := 20) hx hb d_M_digits_124 (by decide) ?_
              refine lv_goto (tgt := 131) hx hb d_M_digits_126 (by decide) ?_
              refine lv_lshl (v := (4294967296 <<< ((Int32.toInt64 20) &&& 63))) hx hb d_M_digits_131 rfl ?_
              refine lv_lstore_n (lv' := [(1, .long (4294967296 <<< ((Int32.toInt64 20) &&& 63))), (3, .int r_23), (0, .ref (h 0))]) hx hb d_M_digits_132 rfl hl (by decide) rfl (fun ls hl => ?_)
              exact lp_M_digits_133 (sa0 := sa0) hx hb hml hown ht hE hA hK h_0 h_1 fin (4294967296 <<< ((Int32.toInt64 20) &&& 63)) (sa + 1) (by omega) (by omega) (by omega) (by omega) _ _ ls hP hD hS (lv_sub hl [0, 2] rfl)
          · have dc_29 := i_eq c_29 rfl (show Int32.toInt 107 = 107 by decide)
            refine lv_bipush (v := 10) hx hb d_M_digits_113 (by decide) ?_
            refine lv_goto (tgt := 131) hx hb d_M_digits_115 (by decide) ?_
            refine lv_lshl (v := (4294967296 <<< ((Int32.toInt64 10) &&& 63))) hx hb d_M_digits_131 rfl ?_
            refine lv_lstore_n (lv' := [(1, .long (4294967296 <<< ((Int32.toInt64 10) &&& 63))), (3, .int r_23), (0, .ref (h 0))]) hx hb d_M_digits_132 rfl hl (by decide) rfl (fun ls hl => ?_)
            exact lp_M_digits_133 (sa0 := sa0) hx hb hml hown ht hE hA hK h_0 h_1 fin (4294967296 <<< ((Int32.toInt64 10) &&& 63)) (sa + 1) (by omega) (by omega) (by omega) (by omega) _ _ ls hP hD hS (lv_sub hl [0, 2] rfl)
        · refine lv_lload_n hx hb d_M_digits_100 rfl (lv_at hl 1 rfl) ?_
          refine lv_goto (tgt := 107) hx hb d_M_digits_101 (by decide) ?_
          refine lv_iload_n hx hb d_M_digits_107 rfl (lv_at hl 0 rfl) ?_
          refine lv_bipush (v := 107) hx hb d_M_digits_108 (by decide) ?_
          refine lv_icmp_ne (tgt := 118) hx hb d_M_digits_110 (by decide) (fun c_31 => ?_) (fun c_31 => ?_)
          · have dc_31 := i_ne c_31 rfl (show Int32.toInt 107 = 107 by decide)
            refine lv_iload_n hx hb d_M_digits_118 rfl (lv_at hl 0 rfl) ?_
            refine lv_bipush (v := 109) hx hb d_M_digits_119 (by decide) ?_
            refine lv_icmp_ne (tgt := 129) hx hb d_M_digits_121 (by decide) (fun c_32 => ?_) (fun c_32 => ?_)
            · have dc_32 := i_ne c_32 rfl (show Int32.toInt 109 = 109 by decide)
              refine lv_bipush (v := 30) hx hb d_M_digits_129 (by decide) ?_
              refine lv_lshl (v := (va <<< ((Int32.toInt64 30) &&& 63))) hx hb d_M_digits_131 rfl ?_
              refine lv_lstore_n (lv' := [(1, .long (va <<< ((Int32.toInt64 30) &&& 63))), (3, .int r_23), (0, .ref (h 0))]) hx hb d_M_digits_132 rfl hl (by decide) rfl (fun ls hl => ?_)
              exact lp_M_digits_133 (sa0 := sa0) hx hb hml hown ht hE hA hK h_0 h_1 fin (va <<< ((Int32.toInt64 30) &&& 63)) (sa + 1) (by omega) (by omega) (by omega) (by omega) _ _ ls hP hD hS (lv_sub hl [0, 2] rfl)
            · have dc_32 := i_eq c_32 rfl (show Int32.toInt 109 = 109 by decide)
              refine lv_bipush (v := 20) hx hb d_M_digits_124 (by decide) ?_
              refine lv_goto (tgt := 131) hx hb d_M_digits_126 (by decide) ?_
              refine lv_lshl (v := (va <<< ((Int32.toInt64 20) &&& 63))) hx hb d_M_digits_131 rfl ?_
              refine lv_lstore_n (lv' := [(1, .long (va <<< ((Int32.toInt64 20) &&& 63))), (3, .int r_23), (0, .ref (h 0))]) hx hb d_M_digits_132 rfl hl (by decide) rfl (fun ls hl => ?_)
              exact lp_M_digits_133 (sa0 := sa0) hx hb hml hown ht hE hA hK h_0 h_1 fin (va <<< ((Int32.toInt64 20) &&& 63)) (sa + 1) (by omega) (by omega) (by omega) (by omega) _ _ ls hP hD hS (lv_sub hl [0, 2] rfl)
          · have dc_31 := i_eq c_31 rfl (show Int32.toInt 107 = 107 by decide)
            refine lv_bipush (v := 10) hx hb d_M_digits_113 (by decide) ?_
            refine lv_goto (tgt := 131) hx hb d_M_digits_115 (by decide) ?_
            refine lv_lshl (v := (va <<< ((Int32.toInt64 10) &&& 63))) hx hb d_M_digits_131 rfl ?_
            refine lv_lstore_n (lv' := [(1, .long (va <<< ((Int32.toInt64 10) &&& 63))), (3, .int r_23), (0, .ref (h 0))]) hx hb d_M_digits_132 rfl hl (by decide) rfl (fun ls hl => ?_)
            exact lp_M_digits_133 (sa0 := sa0) hx hb hml hown ht hE hA hK h_0 h_1 fin (va <<< ((Int32.toInt64 10) &&& 63)) (sa + 1) (by omega) (by omega) (by omega) (by omega) _ _ ls hP hD hS (lv_sub hl [0, 2] rfl)
      · have dc_25 := i_ne c_25 rfl (show Int32.toInt 107 = 107 by decide)
        refine lv_iload_n hx hb d_M_digits_70 rfl (lv_at hl 0 rfl) ?_
        refine lv_bipush (v := 109) hx hb d_M_digits_71 (by decide) ?_
        refine lv_icmp_eq (tgt := 82) hx hb d_M_digits_73 (by decide) (fun c_33 => ?_) (fun c_33 => ?_)
        · have dc_33 := i_eq c_33 rfl (show Int32.toInt 109 = 109 by decide)
          refine lv_aload_n hx hb d_M_digits_82 rfl (lv_at hl 2 rfl) ?_
          refine lv_aload_n hx hb d_M_digits_83 rfl (lv_at hl 2 rfl) ?_
          refine va_get (D := (dC, dI)) (ci := 4) (v := .int sa) (C := "SieveDeskModel") (T := F_M) (N := 19) hx hb ht i_M hown hK hP 0 rfl rfl 4 (by decide) (ht _ k_631) (fun _ h9 => h9) rfl d_M_digits_84 ?_
          refine lv_iconst (v := 1) hx hb d_M_digits_87 (by decide) ?_
          refine lv_iadd hx hb d_M_digits_88 ?_
          have e_34 : Int32.toInt (sa + 1) = (Int32.toInt sa) + 1 := i_add rfl (show Int32.toInt 1 = 1 by decide) (by omega) (by omega)
          refine va_put (D := (dC, dI)) (ci := 4) (v := .int (sa + 1)) (ty := .int) (C := "SieveDeskModel") (T := F_M) (N := 19) hx hb ht i_M ty_M ty_M_ok n_M hown hK hP hD hS 0 rfl rfl 4 (by decide) (ht _ k_631) (fun _ h9 => h9) rfl (ty_M_ok 4 (by decide)) rfl rfl (Nat.le_of_ble_eq_true rfl) d_M_digits_89 (fun H locs hP hD hS => ?_)
          have hP : va_P (dC, dI) cls (ME h g ss (sa + 1) so pl si fa li co st rq bl te op wo wz sr le tx ro) H := hP
          have hD : va_D A (ME h g ss (sa + 1) so pl si fa li co st rq bl te op wo wz sr le tx ro) := hD
          refine lv_lload_n hx hb d_M_digits_92 rfl (lv_at hl 1 rfl) ?_
          refine lv_ldc2 (v := 4294967296) hx hb hown (ht _ k_757) d_M_digits_93 ?_
          refine W.lcmp hx hb d_M_digits_96 ?_
          refine lv_topi (fun lc_35 elc_35 => ?_)
          refine lv_if_ge (tgt := 104) hx hb d_M_digits_97 (by decide) (fun c_36 => ?_) (fun c_36 => ?_)
          · refine lv_ldc2 (v := 4294967296) hx hb hown (ht _ k_757) d_M_digits_104 ?_
            refine lv_iload_n hx hb d_M_digits_107 rfl (lv_at hl 0 rfl) ?_
            refine lv_bipush (v := 107) hx hb d_M_digits_108 (by decide) ?_
            refine lv_icmp_ne (tgt := 118) hx hb d_M_digits_110 (by decide) (fun c_37 => ?_) (fun c_37 => ?_)
            · have dc_37 := i_ne c_37 rfl (show Int32.toInt 107 = 107 by decide)
              refine lv_iload_n hx hb d_M_digits_118 rfl (lv_at hl 0 rfl) ?_
              refine lv_bipush (v := 109) hx hb d_M_digits_119 (by decide) ?_
              refine lv_icmp_ne (tgt := 129) hx hb d_M_digits_121 (by decide) (fun c_38 => ?_) (fun c_38 => ?_)
              · have dc_38 := i_ne c_38 rfl (show Int32.toInt 109 = 109 by decide)
                refine lv_bipush (v := 30) hx hb d_M_digits_129 (by decide) ?_
                refine lv_lshl (v := (4294967296 <<< ((Int32.toInt64 30) &&& 63))) hx hb d_M_digits_131 rfl ?_
                refine lv_lstore_n (lv' := [(1, .long (4294967296 <<< ((Int32.toInt64 30) &&& 63))), (3, .int r_23), (0, .ref (h 0))]) hx hb d_M_digits_132 rfl hl (by decide) rfl (fun ls hl => ?_)
                exact lp_M_digits_133 (sa0 := sa0) hx hb hml hown ht hE hA hK h_0 h_1 fin (4294967296 <<< ((Int32.toInt64 30) &&& 63)) (sa + 1) (by omega) (by omega) (by omega) (by omega) _ _ ls hP hD hS (lv_sub hl [0, 2] rfl)
              · have dc_38 := i_eq c_38 rfl (show Int32.toInt 109 = 109 by decide)
                refine lv_bipush (v := 20) hx hb d_M_digits_124 (by decide) ?_
                refine lv_goto (tgt := 131) hx hb d_M_digits_126 (by decide) ?_
                refine lv_lshl (v := (4294967296 <<< ((Int32.toInt64 20) &&& 63))) hx hb d_M_digits_131 rfl ?_
                refine lv_lstore_n (lv' := [(1, .long (4294967296 <<< ((Int32.toInt64 20) &&& 63))), (3, .int r_23), (0, .ref (h 0))]) hx hb d_M_digits_132 rfl hl (by decide) rfl (fun ls hl => ?_)
                exact lp_M_digits_133 (sa0 := sa0) hx hb hml hown ht hE hA hK h_0 h_1 fin (4294967296 <<< ((Int32.toInt64 20) &&& 63)) (sa + 1) (by omega) (by omega) (by omega) (by omega) _ _ ls hP hD hS (lv_sub hl [0, 2] rfl)
            · have dc_37 := i_eq c_37 rfl (show Int32.toInt 107 = 107 by decide)
              refine lv_bipush (v := 10) hx hb d_M_digits_113 (by decide) ?_
              refine lv_goto (tgt := 131) hx hb d_M_digits_115 (by decide) ?_
              refine lv_lshl (v := (4294967296 <<< ((Int32.toInt64 10) &&& 63))) hx hb d_M_digits_131 rfl ?_
              refine lv_lstore_n (lv' := [(1, .long (4294967296 <<< ((Int32.toInt64 10) &&& 63))), (3, .int r_23), (0, .ref (h 0))]) hx hb d_M_digits_132 rfl hl (by decide) rfl (fun ls hl => ?_)
              exact lp_M_digits_133 (sa0 := sa0) hx hb hml hown ht hE hA hK h_0 h_1 fin (4294967296 <<< ((Int32.toInt64 10) &&& 63)) (sa + 1) (by omega) (by omega) (by omega) (by omega) _ _ ls hP hD hS (lv_sub hl [0, 2] rfl)
          · refine lv_lload_n hx hb d_M_digits_100 rfl (lv_at hl 1 rfl) ?_
            refine lv_goto (tgt := 107) hx hb d_M_digits_101 (by decide) ?_
            refine lv_iload_n hx hb d_M_digits_107 rfl (lv_at hl 0 rfl) ?_
            refine lv_bipush (v := 107) hx hb d_M_digits_108 (by decide) ?_
            refine lv_icmp_ne (tgt := 118) hx hb d_M_digits_110 (by decide) (fun c_39 => ?_) (fun c_39 => ?_)
            · have dc_39 := i_ne c_39 rfl (show Int32.toInt 107 = 107 by decide)
              refine lv_iload_n hx hb d_M_digits_118 rfl (lv_at hl 0 rfl) ?_
              refine lv_bipush (v := 109) hx hb d_M_digits_119 (by decide) ?_
              refine lv_icmp_ne (tgt := 129) hx hb d_M_digits_121 (by decide) (fun c_40 => ?_) (fun c_40 => ?_)
              · have dc_40 := i_ne c_40 rfl (show Int32.toInt 109 = 109 by decide)
                refine lv_bipush (v := 30) hx hb d_M_digits_129 (by decide) ?_
                refine lv_lshl (v := (va <<< ((Int32.toInt64 30) &&& 63))) hx hb d_M_digits_131 rfl ?_
                refine lv_lstore_n (lv' := [(1, .long (va <<< ((Int32.toInt64 30) &&& 63))), (3, .int r_23), (0, .ref (h 0))]) hx hb d_M_digits_132 rfl hl (by decide) rfl (fun ls hl => ?_)
                exact lp_M_digits_133 (sa0 := sa0) hx hb hml hown ht hE hA hK h_0 h_1 fin (va <<< ((Int32.toInt64 30) &&& 63)) (sa + 1) (by omega) (by omega) (by omega) (by omega) _ _ ls hP hD hS (lv_sub hl [0, 2] rfl)
              · have dc_40 := i_eq c_40 rfl (show Int32.toInt 109 = 109 by decide)
                refine lv_bipush (v := 20) hx hb d_M_digits_124 (by decide) ?_
                refine lv_goto (tgt := 131) hx hb d_M_digits_126 (by decide) ?_
                refine lv_lshl (v := (va <<< ((Int32.toInt64 20) &&& 63))) hx hb d_M_digits_131 rfl ?_
                refine lv_lstore_n (lv' := [(1, .long (va <<< ((Int32.toInt64 20) &&& 63))), (3, .int r_23), (0, .ref (h 0))]) hx hb d_M_digits_132 rfl hl (by decide) rfl (fun ls hl => ?_)
                exact lp_M_digits_133 (sa0 := sa0) hx hb hml hown ht hE hA hK h_0 h_1 fin (va <<< ((Int32.toInt64 20) &&& 63)) (sa + 1) (by omega) (by omega) (by omega) (by omega) _ _ ls hP hD hS (lv_sub hl [0, 2] rfl)
            · have dc_39 := i_eq c_39 rfl (show Int32.toInt 107 = 107 by decide)
              refine lv_bipush (v := 10) hx hb d_M_digits_113 (by decide) ?_
              refine lv_goto (tgt := 131) hx hb d_M_digits_115 (by decide) ?_
              refine lv_lshl (v := (va <<< ((Int32.toInt64 10) &&& 63))) hx hb d_M_digits_131 rfl ?_
              refine lv_lstore_n (lv' := [(1, .long (va <<< ((Int32.toInt64 10) &&& 63))), (3, .int r_23), (0, .ref (h 0))]) hx hb d_M_digits_132 rfl hl (by decide) rfl (fun ls hl => ?_)
              exact lp_M_digits_133 (sa0 := sa0) hx hb hml hown ht hE hA hK h_0 h_1 fin (va <<< ((Int32.toInt64 10) &&& 63)) (sa + 1) (by omega) (by omega) (by omega) (by omega) _ _ ls hP hD hS (lv_sub hl [0, 2] rfl)
        · have dc_33 := i_ne c_33 rfl (show Int32.toInt 109 = 109 by decide)
          refine lv_iload_n hx hb d_M_digits_76 rfl (lv_at hl 0 rfl) ?_
          refine lv_bipush (v := 103) hx hb d_M_digits_77 (by decide) ?_
          refine lv_icmp_ne (tgt := 133) hx hb d_M_digits_79 (by decide) (fun c_41 => ?_) (fun c_41 => ?_)
          · have dc_41 := i_ne c_41 rfl (show Int32.toInt 103 = 103 by decide)
            exact lp_M_digits_133 (sa0 := sa0) hx hb hml hown ht hE hA hK h_0 h_1 fin va sa (by omega) (by omega) (by omega) (by omega) _ _ ls hP hD hS (lv_sub hl [1, 2] rfl)
          · have dc_41 := i_eq c_41 rfl (show Int32.toInt 103 = 103 by decide)
            refine lv_aload_n hx hb d_M_digits_82 rfl (lv_at hl 2 rfl) ?_
            refine lv_aload_n hx hb d_M_digits_83 rfl (lv_at hl 2 rfl) ?_
            refine va_get (D := (dC, dI)) (ci := 4) (v := .int sa) (C := "SieveDeskModel") (T := F_M) (N := 19) hx hb ht i_M hown hK hP 0 rfl rfl 4 (by decide) (ht _ k_631) (fun _ h9 => h9) rfl d_M_digits_84 ?_
            refine lv_iconst (v := 1) hx hb d_M_digits_87 (by decide) ?_
            refine lv_iadd hx hb d_M_digits_88 ?_
            have e_42 : Int32.toInt (sa + 1) = (Int32.toInt sa) + 1 := i_add rfl (show Int32.toInt 1 = 1 by decide) (by omega) (by omega)
            refine va_put (D := (dC, dI)) (ci := 4) (v := .int (sa + 1)) (ty := .int) (C := "SieveDeskModel") (T := F_M) (N := 19) hx hb ht i_M ty_M ty_M_ok n_M hown hK hP hD hS 0 rfl rfl 4 (by decide) (ht _ k_631) (fun _ h9 => h9) rfl (ty_M_ok 4 (by decide)) rfl rfl (Nat.le_of_ble_eq_true rfl) d_M_digits_89 (fun H locs hP hD hS => ?_)
            have hP : va_P (dC, dI) cls (ME h g ss (sa + 1) so pl si fa li co st rq bl te op wo wz sr le tx ro) H := hP
            have hD : va_D A (ME h g ss (sa + 1) so pl si fa li co st rq bl te op wo wz sr le tx ro) := hD
            refine lv_lload_n hx hb d_M_digits_92 rfl (lv_at hl 1 rfl) ?_
            refine lv_ldc2 (v := 4294967296) hx hb hown (ht _ k_757) d_M_digits_93 ?_
            refine W.lcmp hx hb d_M_digits_96 ?_
            refine lv_topi (fun lc_43 elc_43 => ?_)
            refine lv_if_ge (tgt := 104) hx hb d_M_digits_97 (by decide) (fun c_44 => ?_) (fun c_44 => ?_)
            · refine lv_ldc2 (v := 4294967296) hx hb hown (ht _ k_757) d_M_digits_104 ?_
              refine lv_iload_n hx hb d_M_digits_107 rfl (lv_at hl 0 rfl) ?_
              refine lv_bipush (v := 107) hx hb d_M_digits_108 (by decide) ?_
              refine lv_icmp_ne (tgt := 118) hx hb d_M_digits_110 (by decide) (fun c_45 => ?_) (fun c_45 => ?_)
              · have dc_45 := i_ne c_45 rfl (show Int32.toInt 107 = 107 by decide)
                refine lv_iload_n hx hb d_M_digits_118 rfl (lv_at hl 0 rfl) ?_
                refine lv_bipush (v := 109) hx hb d_M_digits_119 (by decide) ?_
                refine lv_icmp_ne (tgt := 129) hx hb d_M_digits_121 (by decide) (fun c_46 => ?_) (fun c_46 => ?_)
                · have dc_46 := i_ne c_46 rfl (show Int32.toInt 109 = 109 by decide)
                  refine lv_bipush (v := 30) hx hb d_M_digits_129 (by decide) ?_
                  refine lv_lshl (v := (4294967296 <<< ((Int32.toInt64 30) &&& 63))) hx hb d_M_digits_131 rfl ?_
                  refine lv_lstore_n (lv' := [(1, .long (4294967296 <<< ((Int32.toInt64 30) &&& 63))), (3, .int r_23), (0, .ref (h 0))]) hx hb d_M_digits_132 rfl hl (by decide) rfl (fun ls hl => ?_)
                  exact lp_M_digits_133 (sa0 := sa0) hx hb hml hown ht hE hA hK h_0 h_1 fin (4294967296 <<< ((Int32.toInt64 30) &&& 63)) (sa + 1) (by omega) (by omega) (by omega) (by omega) _ _ ls hP hD hS (lv_sub hl [0, 2] rfl)
                · have dc_46 := i_eq c_46 rfl (show Int32.toInt 109 = 109 by decide)
                  refine lv_bipush (v := 20) hx hb d_M_digits_124 (by decide) ?_
                  refine lv_goto (tgt := 131) hx hb d_M_digits_126 (by decide) ?_
                  refine lv_lshl (v := (4294967296 <<< ((Int32.toInt64 20) &&& 63))) hx hb d_M_digits_131 rfl ?_
                  refine lv_lstore_n (lv' := [(1, .long (4294967296 <<< ((Int32.toInt64 20) &&& 63))), (3, .int r_23), (0, .ref (h 0))]) hx hb d_M_digits_132 rfl hl (by decide) rfl (fun ls hl => ?_)
                  exact lp_M_digits_133 (sa0 := sa0) hx hb hml hown ht hE hA hK h_0 h_1 fin (4294967296 <<< ((Int32.toInt64 20) &&& 63)) (sa + 1) (by omega) (by omega) (by omega) (by omega) _ _ ls hP hD hS (lv_sub hl [0, 2] rfl)
              · have dc_45 := i_eq c_45 rfl (show Int32.toInt 107 = 107 by decide)
                refine lv_bipush (v := 10) hx hb d_M_digits_113 (by decide) ?_
                refine lv_goto (tgt := 131) hx hb d_M_digits_115 (by decide) ?_
                refine lv_lshl (v := (4294967296 <<< ((Int32.toInt64 10) &&& 63))) hx hb d_M_digits_131 rfl ?_
                refine lv_lstore_n (lv' := [(1, .long (4294967296 <<< ((Int32.toInt64 10) &&& 63))), (3, .int r_23), (0, .ref (h 0))]) hx hb d_M_digits_132 rfl hl (by decide) rfl (fun ls hl => ?_)
                exact lp_M_digits_133 (sa0 := sa0) hx hb hml hown ht hE hA hK h_0 h_1 fin (4294967296 <<< ((Int32.toInt64 10) &&& 63)) (sa + 1) (by omega) (by omega) (by omega) (by omega) _ _ ls hP hD hS (lv_sub hl [0, 2] rfl)
            · refine lv_lload_n hx hb d_M_digits_100 rfl (lv_at hl 1 rfl) ?_
              refine lv_goto (tgt := 107) hx hb d_M_digits_101 (by decide) ?_
              refine lv_iload_n hx hb d_M_digits_107 rfl (lv_at hl 0 rfl) ?_
              refine lv_bipush (v := 107) hx hb d_M_digits_108 (by decide) ?_
              refine lv_icmp_ne (tgt := 118) hx hb d_M_digits_110 (by decide) (fun c_47 => ?_) (fun c_47 => ?_)
              · have dc_47 := i_ne c_47 rfl (show Int32.toInt 107 = 107 by decide)
                refine lv_iload_n hx hb d_M_digits_118 rfl (lv_at hl 0 rfl) ?_
                refine lv_bipush (v := 109) hx hb d_M_digits_119 (by decide) ?_
                refine lv_icmp_ne (tgt := 129) hx hb d_M_digits_121 (by decide) (fun c_48 => ?_) (fun c_48 => ?_)
                · have dc_48 := i_ne c_48 rfl (show Int32.toInt 109 = 109 by decide)
                  refine lv_bipush (v := 30) hx hb d_M_digits_129 (by decide) ?_
                  refine lv_lshl (v := (va <<< ((Int32.toInt64 30) &&& 63))) hx hb d_M_digits_131 rfl ?_
                  refine lv_lstore_n (lv' := [(1, .long (va <<< ((Int32.toInt64 30) &&& 63))), (3, .int r_23), (0, .ref (h 0))]) hx hb d_M_digits_132 rfl hl (by decide) rfl (fun ls hl => ?_)
                  exact lp_M_digits_133 (sa0 := sa0) hx hb hml hown ht hE hA hK h_0 h_1 fin (va <<< ((Int32.toInt64 30) &&& 63)) (sa + 1) (by omega) (by omega) (by omega) (by omega) _ _ ls hP hD hS (lv_sub hl [0, 2] rfl)
                · have dc_48 := i_eq c_48 rfl (show Int32.toInt 109 = 109 by decide)
                  refine lv_bipush (v := 20) hx hb d_M_digits_124 (by decide) ?_
                  refine lv_goto (tgt := 131) hx hb d_M_digits_126 (by decide) ?_
                  refine lv_lshl (v := (va <<< ((Int32.toInt64 20) &&& 63))) hx hb d_M_digits_131 rfl ?_
                  refine lv_lstore_n (lv' := [(1, .long (va <<< ((Int32.toInt64 20) &&& 63))), (3, .int r_23), (0, .ref (h 0))]) hx hb d_M_digits_132 rfl hl (by decide) rfl (fun ls hl => ?_)
                  exact lp_M_digits_133 (sa0 := sa0) hx hb hml hown ht hE hA hK h_0 h_1 fin (va <<< ((Int32.toInt64 20) &&& 63)) (sa + 1) (by omega) (by omega) (by omega) (by omega) _ _ ls hP hD hS (lv_sub hl [0, 2] rfl)
              · have dc_47 := i_eq c_47 rfl (show Int32.toInt 107 = 107 by decide)
                refine lv_bipush (v := 10) hx hb d_M_digits_113 (by decide) ?_
                refine lv_goto (tgt := 131) hx hb d_M_digits_115 (by decide) ?_
                refine lv_lshl (v := (va <<< ((Int32.toInt64 10) &&& 63))) hx hb d_M_digits_131 rfl ?_
                refine lv_lstore_n (lv' := [(1, .long (va <<< ((Int32.toInt64 10) &&& 63))), (3, .int r_23), (0, .ref (h 0))]) hx hb d_M_digits_132 rfl hl (by decide) rfl (fun ls hl => ?_)
                exact lp_M_digits_133 (sa0 := sa0) hx hb hml hown ht hE hA hK h_0 h_1 fin (va <<< ((Int32.toInt64 10) &&& 63)) (sa + 1) (by omega) (by omega) (by omega) (by omega) _ _ ls hP hD hS (lv_sub hl [0, 2] rfl)
    · have dc_18 := i_ne c_18 rfl (show Int32.toInt 0 = 0 by decide)
      refine lv_lload_n hx hb d_M_digits_13 rfl (lv_at hl 0 rfl) ?_
      refine lv_ldc2 (v := 10000000000) hx hb hown (ht _ k_754) d_M_digits_14 ?_
      refine W.lcmp hx hb d_M_digits_17 ?_
      refine lv_topi (fun lc_49 elc_49 => ?_)
      refine lv_if_ge (tgt := 40) hx hb d_M_digits_18 (by decide) (fun c_50 => ?_) (fun c_50 => ?_)
      · refine lv_lload_n hx hb d_M_digits_40 rfl (lv_at hl 0 rfl) ?_
        refine lv_lstore_n (lv' := [(1, .long va), (0, .ref (h 0))]) hx hb d_M_digits_41 rfl hl (by decide) rfl (fun ls hl => ?_)
        refine lv_aload_n hx hb d_M_digits_42 rfl (lv_at hl 1 rfl) ?_
        refine lv_aload_n hx hb d_M_digits_43 rfl (lv_at hl 1 rfl) ?_
        refine va_get (D := (dC, dI)) (ci := 4) (v := .int sa) (C := "SieveDeskModel") (T := F_M) (N := 19) hx hb ht i_M hown hK hP 0 rfl rfl 4 (by decide) (ht _ k_631) (fun _ h9 => h9) rfl d_M_digits_44 ?_
        refine lv_iconst (v := 1) hx hb d_M_digits_47 (by decide) ?_
        refine lv_iadd hx hb d_M_digits_48 ?_
        have e_51 : Int32.toInt (sa + 1) = (Int32.toInt sa) + 1 := i_add rfl (show Int32.toInt 1 = 1 by decide) (by omega) (by omega)
        refine va_put (D := (dC, dI)) (ci := 4) (v := .int (sa + 1)) (ty := .int) (C := "SieveDeskModel") (T := F_M) (N := 19) hx hb ht i_M ty_M ty_M_ok n_M hown hK hP hD hS 0 rfl rfl 4 (by decide) (ht _ k_631) (fun _ h9 => h9) rfl (ty_M_ok 4 (by decide)) rfl rfl (Nat.le_of_ble_eq_true rfl) d_M_digits_49 (fun H locs hP hD hS => ?_)
        have hP : va_P (dC, dI) cls (ME h g ss (sa + 1) so pl si fa li co st rq bl te op wo wz sr le tx ro) H := hP
        have hD : va_D A (ME h g ss (sa + 1) so pl si fa li co st rq bl te op wo wz sr le tx ro) := hD
        refine lv_goto (tgt := 2) hx hb d_M_digits_52 (by decide) ?_
        exact ih va (sa + 1) (by omega) (by omega) (by omega) (by omega) (by omega) _ _ ls hP hD hS (lv_sub hl [0, 1] rfl)
      · refine lv_ldc2 (v := 10) hx hb hown (ht _ k_755) d_M_digits_21 ?_
        refine lv_lload_n hx hb d_M_digits_24 rfl (lv_at hl 0 rfl) ?_
        refine lv_lmul hx hb d_M_digits_25 ?_
        refine lv_aload_n hx hb d_M_digits_26 rfl (lv_at hl 1 rfl) ?_
        refine lv_iconst (v := 0) hx hb d_M_digits_27 (by decide) ?_
        have hFc := va_free (wc := (ME h g ss sa so pl si fa li co st rq bl te op wo wz sr le tx ro)) hD hS hA [0, 1, 2, 3, 4, 5, 6] rfl
        refine va_calli (va_runV (As := [.int 0]) (rest := [.long (10 * va)]) ⟨hx, hb, hml, hown, ht⟩ (c_M_peek l dC dI k h g ss sa so pl si fa li co st rq bl te op wo le wz sr tx ro 0 _ (by omega) (by omega) (by omega) (by omega) (by omega) (by omega) ) (cwV 1 ht (g_V k_702 k_704 k_39 k_80 k_705) rfl rfl rfl (by decide +kernel) ⟨(Nat.le_of_ble_eq_true rfl), (Nat.le_of_ble_eq_true rfl)⟩) ⟨fb_X, va_recv hK hP (ci := 4) (q0 := 0) rfl rfl, pre_X hE hS hFc hP hK hD⟩ rfl rfl hl.1 rfl (lv_room (Nat.le_of_ble_eq_true rfl)) d_M_digits_28 ⟨(Nat.le_of_ble_eq_true rfl), (Nat.le_of_ble_eq_true rfl)⟩) hS (fun q _ h9 => hFc q h9) hFc (fun r_53 u_52 t H locs het hvm hw hB hz1 hk1 hS => ?_)
        obtain ⟨p_54, p_55⟩ := hw
        obtain ⟨hP1, hK1, hD1⟩ := hB
        rw [het] at hP1
        have hP : va_P (dC, dI) cls (ME h g ss sa so pl si fa li co st rq bl te op wo wz sr le tx ro) H := hP1
        have hD : va_D A (ME h g ss sa so pl si fa li co st rq bl te op wo wz sr le tx ro) := hD1.weaken (fun _ _ _ h9 => hFc _ h9)
        refine lv_i2l (v := (Int32.toInt64 r_53)) hx hb d_M_digits_31 rfl ?_
        refine lv_ladd hx hb d_M_digits_32 ?_
        refine lv_ldc2 (v := 48) hx hb hown (ht _ k_756) d_M_digits_33 ?_
        refine lv_lsub hx hb d_M_digits_36 ?_
        refine lv_goto (tgt := 41) hx hb d_M_digits_37 (by decide) ?_
        refine lv_lstore_n (lv' := [(1, .long (((10 * va) + (Int32.toInt64 r_53)) - 48)), (0, .ref (h 0))]) hx hb d_M_digits_41 rfl hl (by decide) rfl (fun ls hl => ?_)
        refine lv_aload_n hx hb d_M_digits_42 rfl (lv_at hl 1 rfl) ?_
        refine lv_aload_n hx hb d_M_digits_43 rfl (lv_at hl 1 rfl) ?_
        refine va_get (D := (dC, dI)) (ci := 4) (v := .int sa) (C := "SieveDeskModel") (T := F_M) (N := 19) hx hb ht i_M hown hK hP 0 rfl rfl 4 (by decide) (ht _ k_631) (fun _ h9 => h9) rfl d_M_digits_44 ?_
        refine lv_iconst (v := 1) hx hb d_M_digits_47 (by decide) ?_
        refine lv_iadd hx hb d_M_digits_48 ?_
        have e_56 : Int32.toInt (sa + 1) = (Int32.toInt sa) + 1 := i_add rfl (show Int32.toInt 1 = 1 by decide) (by omega) (by omega)
        refine va_put (D := (dC, dI)) (ci := 4) (v := .int (sa + 1)) (ty := .int) (C := "SieveDeskModel") (T := F_M) (N := 19) hx hb ht i_M ty_M ty_M_ok n_M hown hK hP hD hS 0 rfl rfl 4 (by decide) (ht _ k_631) (fun _ h9 => h9) rfl (ty_M_ok 4 (by decide)) rfl rfl (Nat.le_of_ble_eq_true rfl) d_M_digits_49 (fun H locs hP hD hS => ?_)
        have hP : va_P (dC, dI) cls (ME h g ss (sa + 1) so pl si fa li co st rq bl te op wo wz sr le tx ro) H := hP
        have hD : va_D A (ME h g ss (sa + 1) so pl si fa li co st rq bl te op wo wz sr le tx ro) := hD
        refine lv_goto (tgt := 2) hx hb d_M_digits_52 (by decide) ?_
        exact ih (((10 * va) + (Int32.toInt64 r_53)) - 48) (sa + 1) (by omega) (by omega) (by omega) (by omega) (by omega) _ _ ls hP hD hS (lv_sub hl [0, 1] rfl)
set_option maxHeartbeats 4000000 in
set_option maxRecDepth 100000 in
theorem bd_M_digits_0 {p : Program} {l : Launch} {e : Env} {s : State} {m : MethodId} {args : Array Value} {below : List Frame} {meth : Method} {c : Code} {Q : State → Prop} {A : Nat → Prop} {dC : Nat → ClassId} {dI : Nat → Nat → Nat} {k h : Nat → Nat} {g : Nat → ClassId} {ss : Int32} {so : Int32} {pl : Int32} {si : Int32} {fa : Int32} {li : Int32} {co : Int32} {st : Int32} {rq : Int32} {bl : Int32} {te : Int32} {op : Int32} {wo : Nat → Int64} {le : Nat → Int64} {wz : Nat → Int32} {sr : Nat → Int32} {tx : Nat → Int32} {ro : Nat → Int32} {sa0 : Int32} (hx : p.tables.exec = Jvm.exec) (hb : c.code = b_M_digits) (hml : c.maxLocals = 4) (hown : s.vm.findClass "SieveDeskModel" = some m.cls) (ht : ∀ w ∈ TT, w.before args s = true) (hE : KE k A s s.heap) (hA : ∀ q : Nat, s.heap.size ≤ q → A q) (hK : va_K (dC, dI) cls (TM g) s)  (h_0 : 0 ≤ Int32.toInt ss) (h_1 : Int32.toInt ss ≤ 400) (fin : ∀ (r : Int32) (u : Int32) (H : Heap) (locs : List Loc) (pc : Nat) (ls : Array Slot), decode b_M_digits pc = .ok (.ireturn, 1) → (0 ≤ Int32.toInt u ∧ Int32.toInt u ≤ Int32.toInt ss ∧ Int32.toInt sa0 ≤ Int32.toInt u ∧ (Int32.toInt sa0 < Int32.toInt u ∨ (pkI sr ss sa0 0 < 48 ∨ 57 < pkI sr ss sa0 0)) ∧ (Int32.toInt r = 5 ∨ Int32.toInt r = 3)) → va_P (dC, dI) cls (ME h g ss u so pl si fa li co st rq bl te op wo wz sr le tx ro) H → va_D A (ME h g ss u so pl si fa li co st rq bl te op wo wz sr le tx ro) → va_S A s.heap H locs → W p l e ({ frames := 2, cells := 0, slots := 0, locals := 40 } : Room) s m args below meth c H locs 0 0 Q (F0 m pc ls [.int r])) : ∀ (sa : Int32), sa = sa0 → 0 ≤ Int32.toInt sa → Int32.toInt sa ≤ Int32.toInt ss → ∀ (H : Heap) (locs : List Loc) (ls : Array Slot), va_P (dC, dI) cls (ME h g ss sa so pl si fa li co st rq bl te op wo wz sr le tx ro) H → va_D A (ME h g ss sa so pl si fa li co st rq bl te op wo wz sr le tx ro) → va_S A s.heap H locs → lv_has ls 4 [(0, .ref (h 0))] → W p l e ({ frames := 2, cells := 0, slots := 0, locals := 40 } : Room) s m args below meth c H locs 0 0 Q (F0 m 0 ls []) := by
  intro sa v_0 v_1 v_2 H locs ls hP hD hS hl
  subst v_0
  refine lv_lconst (v := 0) hx hb d_M_digits_0 (by decide) ?_
  refine lv_lstore_n (lv' := [(1, .long 0), (0, .ref (h 0))]) hx hb d_M_digits_1 rfl hl (by decide) rfl (fun ls hl => ?_)
  exact (lp_M_digits_2  hx hb hml hown ht hE hA hK h_0 h_1 fin _) 0 sa (by omega) (by omega) (by omega) (by omega) (Nat.lt_succ_self _) _ _ ls hP hD hS (lv_sub hl [0, 1] rfl)
set_option maxHeartbeats 4000000 in
set_option maxRecDepth 100000 in
theorem c_M_digits (l : Launch) (dC : Nat → ClassId) (dI : Nat → Nat → Nat) (k : Nat → Nat) (h : Nat → Nat) (g : Nat → ClassId) (ss : Int32) (sa : Int32) (so : Int32) (pl : Int32) (si : Int32) (fa : Int32) (li : Int32) (co : Int32) (st : Int32) (rq : Int32) (bl : Int32) (te : Int32) (op : Int32) (wo : Nat → Int64) (le : Nat → Int64) (wz : Nat → Int32) (sr : Nat → Int32) (tx : Nat → Int32) (ro : Nat → Int32)  (sz : Nat) (h_0 : 0 ≤ Int32.toInt ss) (h_1 : Int32.toInt ss ≤ 400) (v_0 : 0 ≤ Int32.toInt sa) (v_1 : Int32.toInt sa ≤ Int32.toInt ss) : Met l y_M_digits (.code y_M_digits b_M_digits 4 (some .int) :: TT) ({ frames := 2, cells := 0, slots := 0, locals := 40 }) (va_Pc [.ref (h 0)] (PX dC dI k (TM g) (ME h g ss sa so pl si fa li co st rq bl te op wo wz sr le tx ro) sz)) (va_Qi (fun (r : Int32) (u : Int32) => 0 ≤ Int32.toInt u ∧ Int32.toInt u ≤ Int32.toInt ss ∧ Int32.toInt sa ≤ Int32.toInt u ∧ (Int32.toInt sa < Int32.toInt u ∨ (pkI sr ss sa 0 < 48 ∨ 57 < pkI sr ss sa 0)) ∧ (Int32.toInt r = 5 ∨ Int32.toInt r = 3)) (fun u t => BX dC dI (TM g) (va_A (ME h g ss sa so pl si fa li co st rq bl te op wo wz sr le tx ro) sz) (ME h g ss u so pl si fa li co st rq bl te op wo wz sr le tx ro) t) (va_A (ME h g ss sa so pl si fa li co st rq bl te op wo wz sr le tx ro) sz)) 0 0 (va_A (ME h g ss sa so pl si fa li co st rq bl te op wo wz sr le tx ro) sz) := by
  refine Met.ofW (cc := b_M_digits) (maxL := 4) (ret := (some .int)) (by decide) rfl ?_
  intro p e s m args below meth c s₁ B hml hv
  obtain ⟨rfl, hsz, hE, hP, hK, hD0⟩ := hv
  have hx := B.exec
  have hb := B.bytes
  have hr := B.returns
  have ht : ∀ w ∈ TT, w.before _ s = true := fun w hw => atoms_spec (ws := .code y_M_digits b_M_digits 4 (some .int) :: TT) B.pre w (List.mem_cons_of_mem _ hw)
  have hown : s.vm.findClass "SieveDeskModel" = some m.cls := findClass_of_methodNamed B.named
  have hlocks := B.notSynchronized
  subst hsz
  have hD := hD0.self (sz := s.heap.size)
  generalize hAe : va_A (ME h g ss sa so pl si fa li co st rq bl te op wo wz sr le tx ro) s.heap.size = A at hE hD ⊢
  have hA : ∀ q : Nat, s.heap.size ≤ q → A q := fun q h9 => by rw [← hAe]; exact Or.inr h9
  have hS : va_S A s.heap s.heap [] := va_S.rf
  have hl := lv_entry ([.ref (h 0)]) (n := 4) (Nat.le_of_ble_eq_true rfl)
  rw [lg_entry_eq]
  generalize (lg_sl ([.ref (h 0)]) ++ List.replicate (4 - (lg_sl ([.ref (h 0)])).length) Slot.unset).toArray = ls at hl ⊢
  have hl : lv_has ls 4 [(0, .ref (h 0))] := hl
  exact bd_M_digits_0  hx hb hml hown ht hE hA hK h_0 h_1 (fun r u H locs pc ls hd hp hP hD hS => W.iret hx hb hr (fun t het hW => ⟨⟨r, u, rfl, hp, by rw [het]; exact hP, va_K.moved hW.alike hK, hD⟩, hS.F het⟩) hS.2.2 hd) sa rfl v_0 v_1 _ _ ls hP hD hS hl
set_option maxHeartbeats 4000000 in
set_option maxRecDepth 100000 in
theorem lp_M_quoted_10 {p : Program} {l : Launch} {e : Env} {s : State} {m : MethodId} {args : Array Value} {below : List Frame} {meth : Method} {c : Code} {Q : State → Prop} {A : Nat → Prop} {dC : Nat → ClassId} {dI : Nat → Nat → Nat} {k h : Nat → Nat} {g : Nat → ClassId} {ss : Int32} {so : Int32} {pl : Int32} {fa : Int32} {li : Int32} {co : Int32} {st : Int32} {rq : Int32} {bl : Int32} {te : Int32} {op : Int32} {wo : Nat → Int64} {wz : Nat → Int32} {sr : Nat → Int32} {ro : Nat → Int32} {sa0 : Int32} (hx : p.tables.exec = Jvm.exec) (hb : c.code = b_M_quoted) (hml : c.maxLocals = 1) (hown : s.vm.findClass "SieveDeskModel" = some m.cls) (ht : ∀ w ∈ TT, w.before args s = true) (hE : KE k A s s.heap) (hA : ∀ q : Nat, s.heap.size ≤ q → A q) (hK : va_K (dC, dI) cls (TM g) s)  (h_0 : 0 ≤ Int32.toInt ss) (h_1 : Int32.toInt ss ≤ 400) (fin : ∀ (r : Int32) (u : Int32 × Int32 × (Nat → Int64) × (Nat → Int32)) (H : Heap) (locs : List Loc) (pc : Nat) (ls : Array Slot), decode b_M_quoted pc = .ok (.ireturn, 1) → (0 ≤ Int32.toInt u.1 ∧ Int32.toInt u.1 ≤ Int32.toInt ss ∧ 0 ≤ Int32.toInt u.2.1 ∧ Int32.toInt u.2.1 ≤ 400 ∧ Int32.toInt sa0 < Int32.toInt u.1 ∧ Int32.toInt u.2.1 ≤ Int32.toInt u.1 ∧ (Int32.toInt r = 5 ∨ Int32.toInt r = 4)) → va_P (dC, dI) cls (ME h g ss u.1 so pl u.2.1 fa li co st rq bl te op wo wz sr u.2.2.1 u.2.2.2 ro) H → va_D A (ME h g ss u.1 so pl u.2.1 fa li co st rq bl te op wo wz sr u.2.2.1 u.2.2.2 ro) → va_S A s.heap H locs → W p l e ({ frames := 2, cells := 0, slots := 0, locals := 41 } : Room) s m args below meth c H locs 0 0 Q (F0 m pc ls [.int r])) : ∀ (nn : Nat), ∀ (sa : Int32) (si : Int32) (le : Nat → Int64) (tx : Nat → Int32), Int32.toInt sa0 < Int32.toInt sa → 0 ≤ Int32.toInt sa → Int32.toInt sa ≤ Int32.toInt ss → 0 ≤ Int32.toInt si → Int32.toInt si ≤ 400 → Int32.toInt si ≤ Int32.toInt sa → (Int32.toInt ss - Int32.toInt sa).toNat < nn → ∀ (H : Heap) (locs : List Loc) (ls : Array Slot), va_P (dC, dI) cls (ME h g ss sa so pl si fa li co st rq bl te op wo wz sr le tx ro) H → va_D A (ME h g ss sa so pl si fa li co st rq bl te op wo wz sr le tx ro) → va_S A s.heap H locs → lv_has ls 1 [(0, .ref (h 0))] → W p l e ({ frames := 2, cells := 0, slots := 0, locals := 41 } : Room) s m args below meth c H locs 0 0 Q (F0 m 10 ls []) := by
  intro nn
  induction nn with
  | zero =>
    intro _ _ _ _ _ _ _ _ _ _ hm
    exact absurd hm (Nat.not_lt_zero _)
  | succ nn ih =>
    intro sa si le tx v_0 v_1 v_2 v_3 v_4 v_5 hm H locs ls hP hD hS hl
    refine lv_aload_n hx hb d_M_quoted_10 rfl (lv_at hl 0 rfl) ?_
    refine lv_iconst (v := 0) hx hb d_M_quoted_11 (by decide) ?_
    have hc_0 : Int32.toInt 0 = 0 := by decide
    have hFc := va_free (wc := (ME h g ss sa so pl si fa li co st rq bl te op wo wz sr le tx ro)) hD hS hA [0, 1, 2, 3, 4, 5, 6] rfl
    refine va_calli (va_runV (As := [.int 0]) (rest := []) ⟨hx, hb, hml, hown, ht⟩ (c_M_peek l dC dI k h g ss sa so pl si fa li co st rq bl te op wo le wz sr tx ro 0 _ (by omega) (by omega) (by omega) (by omega) (by omega) (by omega) ) (cwV 1 ht (g_V k_702 k_704 k_39 k_80 k_705) rfl rfl rfl (by decide +kernel) ⟨(Nat.le_of_ble_eq_true rfl), (Nat.le_of_ble_eq_true rfl)⟩) ⟨fb_X, va_recv hK hP (ci := 4) (q0 := 0) rfl rfl, pre_X hE hS hFc hP hK hD⟩ rfl rfl hl.1 rfl (lv_room (Nat.le_of_ble_eq_true rfl)) d_M_quoted_12 ⟨(Nat.le_of_ble_eq_true rfl), (Nat.le_of_ble_eq_true rfl)⟩) hS (fun q _ h9 => hFc q h9) hFc (fun r_2 u_1 t H locs het hvm hw hB hz1 hk1 hS => ?_)
    obtain ⟨p_3, p_4⟩ := hw
    obtain ⟨hP1, hK1, hD1⟩ := hB
    rw [het] at hP1
    have hP : va_P (dC, dI) cls (ME h g ss sa so pl si fa li co st rq bl te op wo wz sr le tx ro) H := hP1
    have hD : va_D A (ME h g ss sa so pl si fa li co st rq bl te op wo wz sr le tx ro) := hD1.weaken (fun _ _ _ h9 => hFc _ h9)
    refine lv_bipush (v := 34) hx hb d_M_quoted_15 (by decide) ?_
    refine lv_icmp_eq (tgt := 82) hx hb d_M_quoted_17 (by decide) (fun c_5 => ?_) (fun c_5 => ?_)
    · have dc_5 := i_eq c_5 rfl (show Int32.toInt 34 = 34 by decide)
      refine lv_aload_n hx hb d_M_quoted_82 rfl (lv_at hl 0 rfl) ?_
      refine lv_aload_n hx hb d_M_quoted_83 rfl (lv_at hl 0 rfl) ?_
      refine va_get (D := (dC, dI)) (ci := 4) (v := .int sa) (C := "SieveDeskModel") (T := F_M) (N := 19) hx hb ht i_M hown hK hP 0 rfl rfl 4 (by decide) (ht _ k_631) (fun _ h9 => h9) rfl d_M_quoted_84 ?_
      refine lv_iconst (v := 1) hx hb d_M_quoted_87 (by decide) ?_
      refine lv_iadd hx hb d_M_quoted_88 ?_
      have e_6 : Int32.toInt (sa + 1) = (Int32.toInt sa) + 1 := i_add rfl (show Int32.toInt 1 = 1 by decide) (by omega) (by omega)
      refine va_put (D := (dC, dI)) (ci := 4) (v := .int (sa + 1)) (ty := .int) (C := "SieveDeskModel") (T := F_M) (N := 19) hx hb ht i_M ty_M ty_M_ok n_M hown hK hP hD hS 0 rfl rfl 4 (by decide) (ht _ k_631) (fun _ h9 => h9) rfl (ty_M_ok 4 (by decide)) rfl rfl (Nat.le_of_ble_eq_true rfl) d_M_quoted_89 (fun H locs hP hD hS => ?_)
      have hP : va_P (dC, dI) cls (ME h g ss (sa + 1) so pl si fa li co st rq bl te op wo wz sr le tx ro) H := hP
      have hD : va_D A (ME h g ss (sa + 1) so pl si fa li co st rq bl te op wo wz sr le tx ro) := hD
      refine lv_iconst (v := 4) hx hb d_M_quoted_92 (by decide) ?_
      have hc_4 : Int32.toInt 4 = 4 := by decide
      exact fin 4 ((sa + 1), si, le, tx) _ _ _ ls d_M_quoted_93 ⟨(by (try dsimp only); omega), (by (try dsimp only); omega), (by (try dsimp only); omega), (by (try dsimp only); omega), (by (try dsimp only); omega), (by (try dsimp only); omega), (by (try dsimp only); omega)⟩ hP hD hS
    · have dc_5 := i_ne c_5 rfl (show Int32.toInt 34 = 34 by decide)
      refine lv_aload_n hx hb d_M_quoted_20 rfl (lv_at hl 0 rfl) ?_
      refine lv_iconst (v := 0) hx hb d_M_quoted_21 (by decide) ?_
      have hFc := va_free (wc := (ME h g ss sa so pl si fa li co st rq bl te op wo wz sr le tx ro)) hD hS hA [0, 1, 2, 3, 4, 5, 6] rfl
      refine va_calli (va_runV (As := [.int 0]) (rest := []) ⟨hx, hb, hml, hown, ht⟩ (c_M_peek l dC dI k h g ss sa so pl si fa li co st rq bl te op wo le wz sr tx ro 0 _ (by omega) (by omega) (by omega) (by omega) (by omega) (by omega) ) (cwV 1 ht (g_V k_702 k_704 k_39 k_80 k_705) rfl rfl rfl (by decide +kernel) ⟨(Nat.le_of_ble_eq_true rfl), (Nat.le_of_ble_eq_true rfl)⟩) ⟨fb_X, va_recv hK hP (ci := 4) (q0 := 0) rfl rfl, pre_X hE hS hFc hP hK hD⟩ rfl rfl hl.1 rfl (lv_room (Nat.le_of_ble_eq_true rfl)) d_M_quoted_22 ⟨(Nat.le_of_ble_eq_true rfl), (Nat.le_of_ble_eq_true rfl)⟩) hS (fun q _ h9 => hFc q h9) hFc (fun r_8 u_7 t H locs het hvm hw hB hz1 hk1 hS => ?_)
      obtain ⟨p_9, p_10⟩ := hw
      obtain ⟨hP1, hK1, hD1⟩ := hB
      rw [het] at hP1
      have hP : va_P (dC, dI) cls (ME h g ss sa so pl si fa li co st rq bl te op wo wz sr le tx ro) H := hP1
      have hD : va_D A (ME h g ss sa so pl si fa li co st rq bl te op wo wz sr le tx ro) := hD1.weaken (fun _ _ _ h9 => hFc _ h9)
      refine lv_bipush (v := 92) hx hb d_M_quoted_25 (by decide) ?_
      refine lv_icmp_ne (tgt := 40) hx hb d_M_quoted_27 (by decide) (fun c_11 => ?_) (fun c_11 => ?_)
      · have dc_11 := i_ne c_11 rfl (show Int32.toInt 92 = 92 by decide)
        refine lv_aload_n hx hb d_M_quoted_40 rfl (lv_at hl 0 rfl) ?_
        refine lv_iconst (v := 0) hx hb d_M_quoted_41 (by decide) ?_
        have hFc := va_free (wc := (ME h g ss sa so pl si fa li co st rq bl te op wo wz sr le tx ro)) hD hS hA [0, 1, 2, 3, 4, 5, 6] rfl
        refine va_calli (va_runV (As := [.int 0]) (rest := []) ⟨hx, hb, hml, hown, ht⟩ (c_M_peek l dC dI k h g ss sa so pl si fa li co st rq bl te op wo le wz sr tx ro 0 _ (by omega) (by omega) (by omega) (by omega) (by omega) (by omega) ) (cwV 1 ht (g_V k_702 k_704 k_39 k_80 k_705) rfl rfl rfl (by decide +kernel) ⟨(Nat.le_of_ble_eq_true rfl), (Nat.le_of_ble_eq_true rfl)⟩) ⟨fb_X, va_recv hK hP (ci := 4) (q0 := 0) rfl rfl, pre_X hE hS hFc hP hK hD⟩ rfl rfl hl.1 rfl (lv_room (Nat.le_of_ble_eq_true rfl)) d_M_quoted_42 ⟨(Nat.le_of_ble_eq_true rfl), (Nat.le_of_ble_eq_true rfl)⟩) hS (fun q _ h9 => hFc q h9) hFc (fun r_13 u_12 t H locs het hvm hw hB hz1 hk1 hS => ?_)
        obtain ⟨p_14, p_15⟩ := hw
        obtain ⟨hP1, hK1, hD1⟩ := hB
        rw [het] at hP1
        have hP : va_P (dC, dI) cls (ME h g ss sa so pl si fa li co st rq bl te op wo wz sr le tx ro) H := hP1
        have hD : va_D A (ME h g ss sa so pl si fa li co st rq bl te op wo wz sr le tx ro) := hD1.weaken (fun _ _ _ h9 => hFc _ h9)
        refine lv_if_lt (tgt := 58) hx hb d_M_quoted_45 (by decide) (fun c_16 => ?_) (fun c_16 => ?_)
        · have dc_16 := i_lt c_16 rfl (show Int32.toInt 0 = 0 by decide)
          refine lv_iconst (v := 5) hx hb d_M_quoted_58 (by decide) ?_
          have hc_5 : Int32.toInt 5 = 5 := by decide
          exact fin 5 (sa, si, le, tx) _ _ _ ls d_M_quoted_59 ⟨(by (try dsimp only); omega), (by (try dsimp only); omega), (by (try dsimp only); omega), (by (try dsimp only); omega), (by (try dsimp only); omega), (by (try dsimp only); omega), (by (try dsimp only); omega)⟩ hP hD hS
        · have dc_16 := i_nlt c_16 rfl (show Int32.toInt 0 = 0 by decide)
          refine lv_aload_n hx hb d_M_quoted_48 rfl (lv_at hl 0 rfl) ?_
          refine va_get (D := (dC, dI)) (ci := 4) (v := .int si) (C := "SieveDeskModel") (T := F_M) (N := 19) hx hb ht i_M hown hK hP 0 rfl rfl 7 (by decide) (ht _ k_634) (fun _ h9 => h9) rfl d_M_quoted_49 ?_
          refine lv_sipush (v := 200) hx hb d_M_quoted_52 (by decide) ?_
          refine lv_icmp_ne (tgt := 60) hx hb d_M_quoted_55 (by decide) (fun c_17 => ?_) (fun c_17 => ?_)
          · have dc_17 := i_ne c_17 rfl (show Int32.toInt 200 = 200 by decide)
            refine lv_aload_n hx hb d_M_quoted_60 rfl (lv_at hl 0 rfl) ?_
            refine lv_aload_n hx hb d_M_quoted_61 rfl (lv_at hl 0 rfl) ?_
            refine lv_iconst (v := 0) hx hb d_M_quoted_62 (by decide) ?_
            have hFc := va_free (wc := (ME h g ss sa so pl si fa li co st rq bl te op wo wz sr le tx ro)) hD hS hA [0, 1, 2, 3, 4, 5, 6] rfl
            refine va_calli (va_runV (As := [.int 0]) (rest := [.ref (h 0)]) ⟨hx, hb, hml, hown, ht⟩ (c_M_peek l dC dI k h g ss sa so pl si fa li co st rq bl te op wo le wz sr tx ro 0 _ (by omega) (by omega) (by omega) (by omega) (by omega) (by omega) ) (cwV 1 ht (g_V k_702 k_704 k_39 k_80 k_705) rfl rfl rfl (by decide +kernel) ⟨(Nat.le_of_ble_eq_true rfl), (Nat.le_of_ble_eq_true rfl)⟩) ⟨fb_X, va_recv hK hP (ci := 4) (q0 := 0) rfl rfl, pre_X hE hS hFc hP hK hD⟩ rfl rfl hl.1 rfl (lv_room (Nat.le_of_ble_eq_true rfl)) d_M_quoted_63 ⟨(Nat.le_of_ble_eq_true rfl), (Nat.le_of_ble_eq_true rfl)⟩) hS (fun q _ h9 => hFc q h9) hFc (fun r_19 u_18 t H locs het hvm hw hB hz1 hk1 hS => ?_)
            obtain ⟨p_20, p_21⟩ := hw
            obtain ⟨hP1, hK1, hD1⟩ := hB
            rw [het] at hP1
            have hP : va_P (dC, dI) cls (ME h g ss sa so pl si fa li co st rq bl te op wo wz sr le tx ro) H := hP1
            have hD : va_D A (ME h g ss sa so pl si fa li co st rq bl te op wo wz sr le tx ro) := hD1.weaken (fun _ _ _ h9 => hFc _ h9)
            have hFc := va_free (wc := (ME h g ss sa so pl si fa li co st rq bl te op wo wz sr le tx ro)) hD hS hA [0, 1, 2, 3, 4, 5, 6] rfl
            refine va_callv (va_runV (As := [.int r_19]) (rest := []) ⟨hx, hb, hml, hown, ht⟩ (c_M_add l dC dI k h g ss sa so pl si fa li co st rq bl te op wo le wz sr tx ro r_19 _  (by omega) (by omega) (by omega)) (cwV 1 ht (g_V k_727 k_729 k_43 k_80 k_730) rfl rfl rfl (by decide +kernel) ⟨(Nat.le_of_ble_eq_true rfl), (Nat.le_of_ble_eq_true rfl)⟩) ⟨fb_X, va_recv hK hP (ci := 4) (q0 := 0) rfl rfl, pre_X hE hS hFc hP hK hD⟩ rfl rfl hl.1 rfl (lv_room (Nat.le_of_ble_eq_true rfl)) d_M_quoted_66 ⟨(Nat.le_of_ble_eq_true rfl), (Nat.le_of_ble_eq_true rfl)⟩) hS (fun q _ h9 => hFc q h9) hFc (fun u_25 t H locs het hvm hw hB hz1 hk1 hS => ?_)
            obtain ⟨si_22, le_23, tx_24⟩ := u_25
            try dsimp only at hw
            obtain ⟨p_27, p_28, p_29⟩ := hw
            obtain ⟨hP1, hK1, hD1⟩ := hB
            rw [het] at hP1
            have hP : va_P (dC, dI) cls (ME h g ss sa so pl si_22 fa li co st rq bl te op wo wz sr le_23 tx_24 ro) H := hP1
            have hD : va_D A (ME h g ss sa so pl si_22 fa li co st rq bl te op wo wz sr le_23 tx_24 ro) := hD1.weaken (fun _ _ _ h9 => hFc _ h9)
            refine lv_aload_n hx hb d_M_quoted_69 rfl (lv_at hl 0 rfl) ?_
            refine lv_aload_n hx hb d_M_quoted_70 rfl (lv_at hl 0 rfl) ?_
            refine va_get (D := (dC, dI)) (ci := 4) (v := .int sa) (C := "SieveDeskModel") (T := F_M) (N := 19) hx hb ht i_M hown hK hP 0 rfl rfl 4 (by decide) (ht _ k_631) (fun _ h9 => h9) rfl d_M_quoted_71 ?_
            refine lv_iconst (v := 1) hx hb d_M_quoted_74 (by decide) ?_
            refine lv_iadd hx hb d_M_quoted_75 ?_
            have e_30 : Int32.toInt (sa + 1) = (Int32.toInt sa) + 1 := i_add rfl (show Int32.toInt 1 = 1 by decide) (by omega) (by omega)
            refine va_put (D := (dC, dI)) (ci := 4) (v := .int (sa + 1)) (ty := .int) (C := "SieveDeskModel") (T := F_M) (N := 19) hx hb ht i_M ty_M ty_M_ok n_M hown hK hP hD hS 0 rfl rfl 4 (by decide) (ht _ k_631) (fun _ h9 => h9) rfl (ty_M_ok 4 (by decide)) rfl rfl (Nat.le_of_ble_eq_true rfl) d_M_quoted_76 (fun H locs hP hD hS => ?_)
            have hP : va_P (dC, dI) cls (ME h g ss (sa + 1) so pl si_22 fa li co st rq bl te op wo wz sr le_23 tx_24 ro) H := hP
            have hD : va_D A (ME h g ss (sa + 1) so pl si_22 fa li co st rq bl te op wo wz sr le_23 tx_24 ro) := hD
            refine lv_goto (tgt := 10) hx hb d_M_quoted_79 (by decide) ?_
            exact ih (sa + 1) si_22 le_23 tx_24 (by omega) (by omega) (by omega) (by omega) (by omega) (by omega) (by omega) _ _ ls hP hD hS (lv_sub hl [0] rfl)
          · have dc_17 := i_eq c_17 rfl (show Int32.toInt 200 = 200 by decide)
            refine lv_iconst (v := 5) hx hb d_M_quoted_58 (by decide) ?_
            have hc_5 : Int32.toInt 5 = 5 := by decide
            exact fin 5 (sa, si, le, tx) _ _ _ ls d_M_quoted_59 ⟨(by (try dsimp only); omega), (by (try dsimp only); omega), (by (try dsimp only); omega), (by (try dsimp only); omega), (by (try dsimp only); omega), (by (try dsimp only); omega), (by (try dsimp only); omega)⟩ hP hD hS
      · have dc_11 := i_eq c_11 rfl (show Int32.toInt 92 = 92 by decide)
        refine lv_aload_n hx hb d_M_quoted_30 rfl (lv_at hl 0 rfl) ?_
        refine lv_aload_n hx hb d_M_quoted_31 rfl (lv_at hl 0 rfl) ?_
        refine va_get (D := (dC, dI)) (ci := 4) (v := .int sa) (C := "SieveDeskModel") (T := F_M) (N := 19) hx hb ht i_M hown hK hP 0 rfl rfl 4 (by decide) (ht _ k_631) (fun _ h9 => h9) rfl d_M_quoted_32 ?_
        refine lv_iconst (v := 1) hx hb d_M_quoted_35 (by decide) ?_
        refine lv_iadd hx hb d_M_quoted_36 ?_
        have e_31 : Int32.toInt (sa + 1) = (Int32.toInt sa) + 1 := i_add rfl (show Int32.toInt 1 = 1 by decide) (by omega) (by omega)
        refine va_put (D := (dC, dI)) (ci := 4) (v := .int (sa + 1)) (ty := .int) (C := "SieveDeskModel") (T := F_M) (N := 19) hx hb ht i_M ty_M ty_M_ok n_M hown hK hP hD hS 0 rfl rfl 4 (by decide) (ht _ k_631) (fun _ h9 => h9) rfl (ty_M_ok 4 (by decide)) rfl rfl (Nat.le_of_ble_eq_true rfl) d_M_quoted_37 (fun H locs hP hD hS => ?_)
        have hP : va_P (dC, dI) cls (ME h g ss (sa + 1) so pl si fa li co st rq bl te op wo wz sr le tx ro) H := hP
        have hD : va_D A (ME h g ss (sa + 1) so pl si fa li co st rq bl te op wo wz sr le tx ro) := hD
        refine lv_aload_n hx hb d_M_quoted_40 rfl (lv_at hl 0 rfl) ?_
        refine lv_iconst (v := 0) hx hb d_M_quoted_41 (by decide) ?_
        have hFc := va_free (wc := (ME h g ss (sa + 1) so pl si fa li co st rq bl te op wo wz sr le tx ro)) hD hS hA [0, 1, 2, 3, 4, 5, 6] rfl
        refine va_calli (va_runV (As := [.int 0]) (rest := []) ⟨hx, hb, hml, hown, ht⟩ (c_M_peek l dC dI k h g ss (sa + 1) so pl si fa li co st rq bl te op wo le wz sr tx ro 0 _ (by omega) (by omega) (by omega) (by omega) (by omega) (by omega) ) (cwV 1 ht (g_V k_702 k_704 k_39 k_80 k_705) rfl rfl rfl (by decide +kernel) ⟨(Nat.le_of_ble_eq_true rfl), (Nat.le_of_ble_eq_true rfl)⟩) ⟨fb_X, va_recv hK hP (ci := 4) (q0 := 0) rfl rfl, pre_X hE hS hFc hP hK hD⟩ rfl rfl hl.1 rfl (lv_room (Nat.le_of_ble_eq_true rfl)) d_M_quoted_42 ⟨(Nat.le_of_ble_eq_true rfl), (Nat.le_of_ble_eq_true rfl)⟩) hS (fun q _ h9 => hFc q h9) hFc (fun r_33 u_32 t H locs het hvm hw hB hz1 hk1 hS => ?_)
        obtain ⟨p_34, p_35⟩ := hw
        obtain ⟨hP1, hK1, hD1⟩ := hB
        rw [het] at hP1
        have hP : va_P (dC, dI) cls (ME h g ss (sa + 1) so pl si fa li co st rq bl te op wo wz sr le tx ro) H := hP1
        have hD : va_D A (ME h g ss (sa + 1) so pl si fa li co st rq bl te op wo wz sr le tx ro) := hD1.weaken (fun _ _ _ h9 => hFc _ h9)
        refine lv_if_lt (tgt := 58) hx hb d_M_quoted_45 (by decide) (fun c_36 => ?_) (fun c_36 => ?_)
        · have dc_36 := i_lt c_36 rfl (show Int32.toInt 0 = 0 by decide)
          refine lv_iconst (v := 5) hx hb d_M_quoted_58 (by decide) ?_
          have hc_5 : Int32.toInt 5 = 5 := by decide
          exact fin 5 ((sa + 1), si, le, tx) _ _ _ ls d_M_quoted_59 ⟨(by (try dsimp only); omega), (by (try dsimp only); omega), (by (try dsimp only); omega), (by (try dsimp only); omega), (by (try dsimp only); omega), (by (try dsimp only); omega), (by (try dsimp only); omega)⟩ hP hD hS
        · have dc_36 := i_nlt c_36 rfl (show Int32.toInt 0 = 0 by decide)
          refine lv_aload_n hx hb d_M_quoted_48 rfl (lv_at hl 0 rfl) ?_
          refine va_get (D := (dC, dI)) (ci := 4) (v := .int si) (C := "SieveDeskModel") (T := F_M) (N := 19) hx hb ht i_M hown hK hP 0 rfl rfl 7 (by decide) (ht _ k_634) (fun _ h9 => h9) rfl d_M_quoted_49 ?_
          refine lv_sipush (v := 200) hx hb d_M_quoted_52 (by decide) ?_
          refine lv_icmp_ne (tgt := 60) hx hb d_M_quoted_55 (by decide) (fun c_37 => ?_) (fun c_37 => ?_)
          · have dc_37 := i_ne c_37 rfl (show Int32.toInt 200 = 200 by decide)
            refine lv_aload_n hx hb d_M_quoted_60 rfl (lv_at hl 0 rfl) ?_
            refine lv_aload_n hx hb d_M_quoted_61 rfl (lv_at hl 0 rfl) ?_
            refine lv_iconst (v := 0) hx hb d_M_quoted_62 (by decide) ?_
            have hFc := va_free (wc := (ME h g ss (sa + 1) so pl si fa li co st rq bl te op wo wz sr le tx ro)) hD hS hA [0, 1, 2, 3, 4, 5, 6] rfl
            refine va_calli (va_runV (As := [.int 0]) (rest := [.ref (h 0)]) ⟨hx, hb, hml, hown, ht⟩ (c_M_peek l dC dI k h g ss (sa + 1) so pl si fa li co st rq bl te op wo le wz sr tx ro 0 _ (by omega) (by omega) (by omega) (by omega) (by omega) (by omega) ) (cwV 1 ht (g_V k_702 k_704 k_39 k_80 k_705) rfl rfl rfl (by decide +kernel) ⟨(Nat.le_of_ble_eq_true rfl), (Nat.le_of_ble_eq_true rfl)⟩) ⟨fb_X, va_recv hK hP (ci := 4) (q0 := 0) rfl rfl, pre_X hE hS hFc hP hK hD⟩ rfl rfl hl.1 rfl (lv_room (Nat.le_of_ble_eq_true rfl)) d_M_quoted_63 ⟨(Nat.le_of_ble_eq_true rfl), (Nat.le_of_ble_eq_true rfl)⟩) hS (fun q _ h9 => hFc q h9) hFc (fun r_39 u_38 t H locs het hvm hw hB hz1 hk1 hS => ?_)
            obtain ⟨p_40, p_41⟩ := hw
            obtain ⟨hP1, hK1, hD1⟩ := hB
            rw [het] at hP1
            have hP : va_P (dC, dI) cls (ME h g ss (sa + 1) so pl si fa li co st rq bl te op wo wz sr le tx ro) H := hP1
            have hD : va_D A (ME h g ss (sa + 1) so pl si fa li co st rq bl te op wo wz sr le tx ro) := hD1.weaken (fun _ _ _ h9 => hFc _ h9)
            have hFc := va_free (wc := (ME h g ss (sa + 1) so pl si fa li co st rq bl te op wo wz sr le tx ro)) hD hS hA [0, 1, 2, 3, 4, 5, 6] rfl
            refine va_callv (va_runV (As := [.int r_39]) (rest := []) ⟨hx, hb, hml, hown, ht⟩ (c_M_add l dC dI k h g ss (sa + 1) so pl si fa li co st rq bl te op wo le wz sr tx ro r_39 _  (by omega) (by omega) (by omega)) (cwV 1 ht (g_V k_727 k_729 k_43 k_80 k_730) rfl rfl rfl (by decide +kernel) ⟨(Nat.le_of_ble_eq_true rfl), (Nat.le_of_ble_eq_true rfl)⟩) ⟨fb_X, va_recv hK hP (ci := 4) (q0 := 0) rfl rfl, pre_X hE hS hFc hP hK hD⟩ rfl rfl hl.1 rfl (lv_room (Nat.le_of_ble_eq_true rfl)) d_M_quoted_66 ⟨(Nat.le_of_ble_eq_true rfl), (Nat.le_of_ble_eq_true rfl)⟩) hS (fun q _ h9 => hFc q h9) hFc (fun u_45 t H locs het hvm hw hB hz1 hk1 hS => ?_)
            obtain ⟨si_42, le_43, tx_44⟩ := u_45
            try dsimp only at hw
            obtain ⟨p_47, p_48, p_49⟩ := hw
            obtain ⟨hP1, hK1, hD1⟩ := hB
            rw [het] at hP1
            have hP : va_P (dC, dI) cls (ME h g ss (sa + 1) so pl si_42 fa li co st rq bl te op wo wz sr le_43 tx_44 ro) H := hP1
            have hD : va_D A (ME h g ss (sa + 1) so pl si_42 fa li co st rq bl te op wo wz sr le_43 tx_44 ro) := hD1.weaken (fun _ _ _ h9 => hFc _ h9)
            refine lv_aload_n hx hb d_M_quoted_69 rfl (lv_at hl 0 rfl) ?_
            refine lv_aload_n hx hb d_M_quoted_70 rfl (lv_at hl 0 rfl) ?_
            refine va_get (D := (dC, dI)) (ci := 4) (v := .int (sa + 1)) (C := "SieveDeskModel") (T := F_M) (N := 19) hx hb ht i_M hown hK hP 0 rfl rfl 4 (by decide) (ht _ k_631) (fun _ h9 => h9) rfl d_M_quoted_71 ?_
            refine lv_iconst (v := 1) hx hb d_M_quoted_74 (by decide) ?_
            refine lv_iadd hx hb d_M_quoted_75 ?_
            have e_50 : Int32.toInt ((sa + 1) + 1) = ((Int32.toInt sa) + 1) + 1 := i_add e_31 (show Int32.toInt 1 = 1 by decide) (by omega) (by omega)
            refine va_put (D := (dC, dI)) (ci := 4) (v := .int ((sa + 1) + 1)) (ty := .int) (C := "SieveDeskModel") (T := F_M) (N := 19) hx hb ht i_M ty_M ty_M_ok n_M hown hK hP hD hS 0 rfl rfl 4 (by decide) (ht _ k_631) (fun _ h9 => h9) rfl (ty_M_ok 4 (by decide)) rfl rfl (Nat.le_of_ble_eq_true rfl) d_M_quoted_76 (fun H locs hP hD hS => ?_)
            have hP : va_P (dC, dI) cls (ME h g ss ((sa + 1) + 1) so pl si_42 fa li co st rq bl te op wo wz sr le_43 tx_44 ro) H := hP
            have hD : va_D A (ME h g ss ((sa + 1) + 1) so pl si_42 fa li co st rq bl te op wo wz sr le_43 tx_44 ro) := hD
            refine lv_goto (tgt := 10) hx hb d_M_quoted_79 (by decide) ?_
            exact ih ((sa + 1) + 1) si_42 le_43 tx_44 (by omega) (by omega) (by omega) (by omega) (by omega) (by omega) (by omega) _ _ ls hP hD hS (lv_sub hl [0] rfl)
          · have dc_37 := i_eq c_37 rfl (show Int32.toInt 200 = 200 by decide)
            refine lv_iconst (v := 5) hx hb d_M_quoted_58 (by decide) ?_
            have hc_5 : Int32.toInt 5 = 5 := by decide
            exact fin 5 ((sa + 1), si, le, tx) _ _ _ ls d_M_quoted_59 ⟨(by (try dsimp only); omega), (by (try dsimp only); omega), (by (try dsimp only); omega), (by (try dsimp only); omega), (by (try dsimp only); omega), (by (try dsimp only); omega), (by (try dsimp only); omega)⟩ hP hD hS
set_option maxHeartbeats 4000000 in
set_option maxRecDepth 100000 in
theorem bd_M_quoted_0 {p : Program} {l : Launch} {e : Env} {s : State} {m : MethodId} {args : Array Value} {below : List Frame} {meth : Method} {c : Code} {Q : State → Prop} {A : Nat → Prop} {dC : Nat → ClassId} {dI : Nat → Nat → Nat} {k h : Nat → Nat} {g : Nat → ClassId} {ss : Int32} {so : Int32} {pl : Int32} {fa : Int32} {li : Int32} {co : Int32} {st : Int32} {rq : Int32} {bl : Int32} {te : Int32} {op : Int32} {wo : Nat → Int64} {wz : Nat → Int32} {sr : Nat → Int32} {ro : Nat → Int32} {sa0 : Int32} (hx : p.tables.exec = Jvm.exec) (hb : c.code = b_M_quoted) (hml : c.maxLocals = 1) (hown : s.vm.findClass "SieveDeskModel" = some m.cls) (ht : ∀ w ∈ TT, w.before args s = true) (hE : KE k A s s.heap) (hA : ∀ q : Nat, s.heap.size ≤ q → A q) (hK : va_K (dC, dI) cls (TM g) s)  (h_0 : 0 ≤ Int32.toInt ss) (h_1 : Int32.toInt ss ≤ 400) (fin : ∀ (r : Int32) (u : Int32 × Int32 × (Nat → Int64) × (Nat → Int32)) (H : Heap) (locs : List Loc) (pc : Nat) (ls : Array Slot), decode b_M_quoted pc = .ok (.ireturn, 1) → (0 ≤ Int32.toInt u.1 ∧ Int32.toInt u.1 ≤ Int32.toInt ss ∧ 0 ≤ Int32.toInt u.2.1 ∧ Int32.toInt u.2.1 ≤ 400 ∧ Int32.toInt sa0 < Int32.toInt u.1 ∧ Int32.toInt u.2.1 ≤ Int32.toInt u.1 ∧ (Int32.toInt r = 5 ∨ Int32.toInt r = 4)) → va_P (dC, dI) cls (ME h g ss u.1 so pl u.2.1 fa li co st rq bl te op wo wz sr u.2.2.1 u.2.2.2 ro) H → va_D A (ME h g ss u.1 so pl u.2.1 fa li co st rq bl te op wo wz sr u.2.2.1 u.2.2.2 ro) → va_S A s.heap H locs → W p l e ({ frames := 2, cells := 0, slots := 0, locals := 41 } : Room) s m args below meth c H locs 0 0 Q (F0 m pc ls [.int r])) : ∀ (sa : Int32) (si : Int32) (le : Nat → Int64) (tx : Nat → Int32), sa = sa0 → 0 ≤ Int32.toInt sa → Int32.toInt sa ≤ Int32.toInt ss → 0 ≤ Int32.toInt si → Int32.toInt si ≤ 400 → Int32.toInt si ≤ Int32.toInt sa → Int32.toInt sa < Int32.toInt ss → ∀ (H : Heap) (locs : List Loc) (ls : Array Slot), va_P (dC, dI) cls (ME h g ss sa so pl si fa li co st rq bl te op wo wz sr le tx ro) H → va_D A (ME h g ss sa so pl si fa li co st rq bl te op wo wz sr le tx ro) → va_S A s.heap H locs → lv_has ls 1 [(0, .ref (h 0))] → W p l e ({ frames := 2, cells := 0, slots := 0, locals := 41 } : Room) s m args below meth c H locs 0 0 Q (F0 m 0 ls []) := by
  intro sa si le tx v_0 v_1 v_2 v_3 v_4 v_5 v_6 H locs ls hP hD hS hl
  subst v_0
  refine lv_aload_n hx hb d_M_quoted_0 rfl (lv_at hl 0 rfl) ?_
  refine lv_aload_n hx hb d_M_quoted_1 rfl (lv_at hl 0 rfl) ?_
  refine va_get (D := (dC, dI)) (ci := 4) (v := .int sa) (C := "SieveDeskModel") (T := F_M) (N := 19) hx hb ht i_M hown hK hP 0 rfl rfl 4 (by decide) (ht _ k_631) (fun _ h9 => h9) rfl d_M_quoted_2 ?_
  refine lv_iconst (v := 1) hx hb d_M_quoted_5 (by decide) ?_
  refine lv_iadd hx hb d_M_quoted_6 ?_
  have e_51 : Int32.toInt (sa + 1) = (Int32.toInt sa) + 1 := i_add rfl (show Int32.toInt 1 = 1 by decide) (by omega) (by omega)
  refine va_put (D := (dC, dI)) (ci := 4) (v := .int (sa + 1)) (ty := .int) (C := "SieveDeskModel") (T := F_M) (N := 19) hx hb ht i_M ty_M ty_M_ok n_M hown hK hP hD hS 0 rfl rfl 4 (by decide) (ht _ k_631) (fun _ h9 => h9) rfl (ty_M_ok 4 (by decide)) rfl rfl (Nat.le_of_ble_eq_true rfl) d_M_quoted_7 (fun H locs hP hD hS => ?_)
  have hP : va_P (dC, dI) cls (ME h g ss (sa + 1) so pl si fa li co st rq bl te op wo wz sr le tx ro) H := hP
  have hD : va_D A (ME h g ss (sa + 1) so pl si fa li co st rq bl te op wo wz sr le tx ro) := hD
  exact (lp_M_quoted_10  hx hb hml hown ht hE hA hK h_0 h_1 fin _) (sa + 1) si le tx (by omega) (by omega) (by omega) (by omega) (by omega) (by omega) (Nat.lt_succ_self _) _ _ ls hP hD hS (lv_sub hl [0] rfl)
set_option maxHeartbeats 4000000 in
set_option maxRecDepth 100000 in
theorem c_M_quoted (l : Launch) (dC : Nat → ClassId) (dI : Nat → Nat → Nat) (k : Nat → Nat) (h : Nat → Nat) (g : Nat → ClassId) (ss : Int32) (sa : Int32) (so : Int32) (pl : Int32) (si : Int32) (fa : Int32) (li : Int32) (co : Int32) (st : Int32) (rq : Int32) (bl : Int32) (te : Int32) (op : Int32) (wo : Nat → Int64) (le : Nat → Int64) (wz : Nat → Int32) (sr : Nat → Int32) (tx : Nat → Int32) (ro : Nat → Int32)  (sz : Nat) (h_0 : 0 ≤ Int32.toInt ss) (h_1 : Int32.toInt ss ≤ 400) (v_0 : 0 ≤ Int32.toInt sa) (v_1 : Int32.toInt sa ≤ Int32.toInt ss) (v_2 : 0 ≤ Int32.toInt si) (v_3 : Int32.toInt si ≤ 400) (v_4 : Int32.toInt si ≤ Int32.toInt sa) (v_5 : Int32.toInt sa < Int32.toInt ss) : Met l y_M_quoted (.code y_M_quoted b_M_quoted 1 (some .int) :: TT) ({ frames := 2, cells := 0, slots := 0, locals := 41 }) (va_Pc [.ref (h 0)] (PX dC dI k (TM g) (ME h g ss sa so pl si fa li co st rq bl te op wo wz sr le tx ro) sz)) (va_Qi (fun (r : Int32) (u : Int32 × Int32 × (Nat → Int64) × (Nat → Int32)) => 0 ≤ Int32.toInt u.1 ∧ Int32.toInt u.1 ≤ Int32.toInt ss ∧ 0 ≤ Int32.toInt u.2.1 ∧ Int32.toInt u.2.1 ≤ 400 ∧ Int32.toInt sa < Int32.toInt u.1 ∧ Int32.toInt u.2.1 ≤ Int32.toInt u.1 ∧ (Int32.toInt r = 5 ∨ Int32.toInt r = 4)) (fun u t => BX dC dI (TM g) (va_A (ME h g ss sa so pl si fa li co st rq bl te op wo wz sr le tx ro) sz) (ME h g ss u.1 so pl u.2.1 fa li co st rq bl te op wo wz sr u.2.2.1 u.2.2.2 ro) t) (va_A (ME h g ss sa so pl si fa li co st rq bl te op wo wz sr le tx ro) sz)) 0 0 (va_A (ME h g ss sa so pl si fa li co st rq bl te op wo wz sr le tx ro) sz) := by
  refine Met.ofW (cc := b_M_quoted) (maxL := 1) (ret := (some .int)) (by decide) rfl ?_
  intro p e s m args below meth c s₁ B hml hv
  obtain ⟨rfl, hsz, hE, hP, hK, hD0⟩ := hv
  have hx := B.exec
  have hb := B.bytes
  have hr := B.returns
  have ht : ∀ w ∈ TT, w.before _ s = true := fun w hw => atoms_spec (ws := .code y_M_quoted b_M_quoted 1 (some .int) :: TT) B.pre w (List.mem_cons_of_mem _ hw)
  have hown : s.vm.findClass "SieveDeskModel" = some m.cls := findClass_of_methodNamed B.named
  have hlocks := B.notSynchronized
  subst hsz
  have hD := hD0.self (sz := s.heap.size)
  generalize hAe : va_A (ME h g ss sa so pl si fa li co st rq bl te op wo wz sr le tx ro) s.heap.size = A at hE hD ⊢
  have hA : ∀ q : Nat, s.heap.size ≤ q → A q := fun q h9 => by rw [← hAe]; exact Or.inr h9
  have hS : va_S A s.heap s.heap [] := va_S.rf
  have hl := lv_entry ([.ref (h 0)]) (n := 1) (Nat.le_of_ble_eq_true rfl)
  rw [lg_entry_eq]
  generalize (lg_sl ([.ref (h 0)]) ++ List.replicate (1 - (lg_sl ([.ref (h 0)])).length) Slot.unset).toArray = ls at hl ⊢
  have hl : lv_has ls 1 [(0, .ref (h 0))] := hl
  exact bd_M_quoted_0  hx hb hml hown ht hE hA hK h_0 h_1 (fun r u H locs pc ls hd hp hP hD hS => W.iret hx hb hr (fun t het hW => ⟨⟨r, u, rfl, hp, by rw [het]; exact hP, va_K.moved hW.alike hK, hD⟩, hS.F het⟩) hS.2.2 hd) sa si le tx rfl v_0 v_1 v_2 v_3 v_4 v_5 _ _ ls hP hD hS hl

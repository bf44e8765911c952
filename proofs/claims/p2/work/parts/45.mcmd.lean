set_option maxHeartbeats 4000000 in
set_option maxRecDepth 100000 in
theorem lp_M_command_178 {p : Program} {l : Launch} {e : Env} {s : State} {m : MethodId} {args : Array Value} {below : List Frame} {meth : Method} {c : Code} {Q : State → Prop} {A : Nat → Prop} {dC : Nat → ClassId} {dI : Nat → Nat → Nat} {k h : Nat → Nat} {g : Nat → ClassId} {ss : Int32} {li : Int32} {bl : Int32} {te : Int32} {wo : Nat → Int64} {wz : Nat → Int32} {sr : Nat → Int32} {sa0 : Int32} {so0 : Int32} {fa0 : Int32} {LL0 : List Nat} (hx : p.tables.exec = Jvm.exec) (hb : c.code = b_M_command) (hml : c.maxLocals = 2) (hown : s.vm.findClass "SieveDeskModel" = some m.cls) (ht : ∀ w ∈ TT, w.before args s = true) (hE : KE k A s s.heap) (hA : ∀ q : Nat, s.heap.size ≤ q → A q) (hK : va_K (dC, dI) cls (TM g) s)  (h_0 : 0 ≤ Int32.toInt ss) (h_1 : Int32.toInt ss ≤ 400) (fin : ∀ (u : Int32 × Int32 × Int32 × Int32 × Int32 × Int32 × (Nat → Int64) × (Nat → Int32) × Int32 × Int32 × Int32 × (Nat → Int32) × List Nat) (H : Heap) (locs : List Loc) (pc : Nat) (ls : Array Slot), decode b_M_command pc = .ok (.return_, 1) → (0 ≤ Int32.toInt u.1 ∧ Int32.toInt u.1 ≤ Int32.toInt ss ∧ 0 ≤ Int32.toInt u.2.2.1 ∧ Int32.toInt u.2.2.1 ≤ 400 ∧ -1 ≤ Int32.toInt u.2.2.2.1 ∧ Int32.toInt u.2.2.2.1 ≤ 400 ∧ (Int32.toInt u.2.2.2.1 < 0 ∨ (Int32.toInt u.2.1 = 0 ∧ Int32.toInt u.2.2.2.2.1 = 0)) ∧ 0 ≤ Int32.toInt u.2.2.2.2.2.1 ∧ Int32.toInt u.2.2.2.2.2.1 ≤ 400 ∧ SI u.2.2.2.2.2.2.2.2.2.2.2.2 u.2.2.2.1 u.2.2.2.2.1 u.2.2.2.2.2.2.2.2.2.2.2.1 ∧ PT ss sa0 so0 fa0 u.1 u.2.1 u.2.2.2.1 ∧ u.2.2.2.2.2.2.2.2.2.2.2.2.length ≤ LL0.length + 3 ∧ List.count 1 u.2.2.2.2.2.2.2.2.2.2.2.2 = List.count 1 LL0 ∧ List.count 6 u.2.2.2.2.2.2.2.2.2.2.2.2 = List.count 6 LL0) → va_P (dC, dI) cls (ME h g ss u.1 u.2.1 u.2.2.1 u.2.2.2.2.2.1 u.2.2.2.1 li u.2.2.2.2.2.2.2.2.2.2.1 u.2.2.2.2.2.2.2.2.1 u.2.2.2.2.2.2.2.2.2.1 bl te u.2.2.2.2.1 wo wz sr u.2.2.2.2.2.2.1 u.2.2.2.2.2.2.2.1 u.2.2.2.2.2.2.2.2.2.2.2.1) H → va_D A (ME h g ss u.1 u.2.1 u.2.2.1 u.2.2.2.2.2.1 u.2.2.2.1 li u.2.2.2.2.2.2.2.2.2.2.1 u.2.2.2.2.2.2.2.2.1 u.2.2.2.2.2.2.2.2.2.1 bl te u.2.2.2.2.1 wo wz sr u.2.2.2.2.2.2.1 u.2.2.2.2.2.2.2.1 u.2.2.2.2.2.2.2.2.2.2.2.1) → va_S A s.heap H locs → W p l e ({ frames := 8, cells := 0, slots := 0, locals := 176 } : Room) s m args below meth c H locs 0 0 Q (F0 m pc ls [])) : ∀ (w : Int32) (sa : Int32) (so : Int32) (pl : Int32) (fa : Int32) (op : Int32) (si : Int32) (le : Nat → Int64) (tx : Nat → Int32) (st : Int32) (rq : Int32) (co : Int32) (ro : Nat → Int32) (LL : List Nat), PT ss sa0 so0 fa0 sa so fa → LL = LL0 → 0 ≤ Int32.toInt sa → Int32.toInt sa ≤ Int32.toInt ss → 0 ≤ Int32.toInt pl → Int32.toInt pl ≤ 400 → -1 ≤ Int32.toInt fa → Int32.toInt fa ≤ 400 → (Int32.toInt fa < 0 ∨ (Int32.toInt so = 0 ∧ Int32.toInt op = 0)) → 0 ≤ Int32.toInt si → Int32.toInt si ≤ 400 → SI LL fa op ro → ∀ (H : Heap) (locs : List Loc) (ls : Array Slot), va_P (dC, dI) cls (ME h g ss sa so pl si fa li co st rq bl te op wo wz sr le tx ro) H → va_D A (ME h g ss sa so pl si fa li co st rq bl te op wo wz sr le tx ro) → va_S A s.heap H locs → lv_has ls 2 [(1, .int w), (0, .ref (h 0))] → W p l e ({ frames := 8, cells := 0, slots := 0, locals := 176 } : Room) s m args below meth c H locs 0 0 Q (F0 m 178 ls []) := by
  intro w sa so pl fa op si le tx st rq co ro LL v_0 v_1 v_2 v_3 v_4 v_5 v_6 v_7 v_8 v_9 v_10 v_11 H locs ls hP hD hS hl
  subst v_1
  refine lv_aload_n hx hb d_M_command_178 rfl (lv_at hl 1 rfl) ?_
  refine lv_bipush (v := 59) hx hb d_M_command_179 (by decide) ?_
  have hc_59 : Int32.toInt 59 = 59 := by decide
  have hFc := va_free (wc := (ME h g ss sa so pl si fa li co st rq bl te op wo wz sr le tx ro)) hD hS hA [0, 1, 2, 3, 4, 5, 6] rfl
  refine va_callv (va_runV (As := [.int 59]) (rest := []) ⟨hx, hb, hml, hown, ht⟩ (c_M_take l dC dI k h g ss sa so pl si fa li co st rq bl te op wo le wz sr tx ro 59 _ (by omega) (by omega) (by omega) (by omega) (by omega) (by omega) (by omega) (by omega) (by omega) (by omega) (by omega) (by omega) (by omega)) (cwV 1 ht (g_V k_791 k_793 k_57 k_80 k_794) rfl rfl rfl (by decide +kernel) ⟨(Nat.le_of_ble_eq_true rfl), (Nat.le_of_ble_eq_true rfl)⟩) ⟨fb_X, va_recv hK hP (ci := 4) (q0 := 0) rfl rfl, pre_X hE hS hFc hP hK hD⟩ rfl rfl hl.1 rfl (lv_room (Nat.le_of_ble_eq_true rfl)) d_M_command_181 ⟨(Nat.le_of_ble_eq_true rfl), (Nat.le_of_ble_eq_true rfl)⟩) hS (fun q _ h9 => hFc q h9) hFc (fun u_9 t H locs het hvm hw hB hz1 hk1 hS => ?_)
  obtain ⟨sa_1, so_2, pl_3, fa_4, op_5, si_6, le_7, tx_8⟩ := u_9
  try dsimp only at hw
  obtain ⟨p_11, p_12, p_13, p_14, p_15, p_16, p_17, p_18, p_19, p_20, p_21⟩ := hw
  obtain ⟨hP1, hK1, hD1⟩ := hB
  rw [het] at hP1
  have hP : va_P (dC, dI) cls (ME h g ss sa_1 so_2 pl_3 si_6 fa_4 li co st rq bl te op_5 wo wz sr le_7 tx_8 ro) H := hP1
  have hD : va_D A (ME h g ss sa_1 so_2 pl_3 si_6 fa_4 li co st rq bl te op_5 wo wz sr le_7 tx_8 ro) := hD1.weaken (fun _ _ _ h9 => hFc _ h9)
  have sk_22 : SI LL fa_4 op_5 ro := SI_pr v_11 p_20.pr
  exact fin  (sa_1, so_2, pl_3, fa_4, op_5, si_6, le_7, tx_8, st, rq, co, ro, LL) _ _ _ ls d_M_command_184 ⟨(by (try dsimp only); omega), (by (try dsimp only); omega), (by (try dsimp only); omega), (by (try dsimp only); omega), (by (try dsimp only); omega), (by (try dsimp only); omega), (by (try dsimp only); omega), (by (try dsimp only); omega), (by (try dsimp only); omega), sk_22, (uTT v_0 p_20.pt), (by (try dsimp only); (try simp only [List.length_cons]); omega), (by first | rfl | (simp [List.count_cons]; done)), (by first | rfl | (simp [List.count_cons]; done))⟩ hP hD hS
set_option maxHeartbeats 4000000 in
set_option maxRecDepth 100000 in
theorem lp_M_command_168 {p : Program} {l : Launch} {e : Env} {s : State} {m : MethodId} {args : Array Value} {below : List Frame} {meth : Method} {c : Code} {Q : State → Prop} {A : Nat → Prop} {dC : Nat → ClassId} {dI : Nat → Nat → Nat} {k h : Nat → Nat} {g : Nat → ClassId} {ss : Int32} {li : Int32} {bl : Int32} {te : Int32} {wo : Nat → Int64} {wz : Nat → Int32} {sr : Nat → Int32} {sa0 : Int32} {so0 : Int32} {fa0 : Int32} {LL0 : List Nat} (hx : p.tables.exec = Jvm.exec) (hb : c.code = b_M_command) (hml : c.maxLocals = 2) (hown : s.vm.findClass "SieveDeskModel" = some m.cls) (ht : ∀ w ∈ TT, w.before args s = true) (hE : KE k A s s.heap) (hA : ∀ q : Nat, s.heap.size ≤ q → A q) (hK : va_K (dC, dI) cls (TM g) s)  (h_0 : 0 ≤ Int32.toInt ss) (h_1 : Int32.toInt ss ≤ 400) (fin : ∀ (u : Int32 × Int32 × Int32 × Int32 × Int32 × Int32 × (Nat → Int64) × (Nat → Int32) × Int32 × Int32 × Int32 × (Nat → Int32) × List Nat) (H : Heap) (locs : List Loc) (pc : Nat) (ls : Array Slot), decode b_M_command pc = .ok (.return_, 1) → (0 ≤ Int32.toInt u.1 ∧ Int32.toInt u.1 ≤ Int32.toInt ss ∧ 0 ≤ Int32.toInt u.2.2.1 ∧ Int32.toInt u.2.2.1 ≤ 400 ∧ -1 ≤ Int32.toInt u.2.2.2.1 ∧ Int32.toInt u.2.2.2.1 ≤ 400 ∧ (Int32.toInt u.2.2.2.1 < 0 ∨ (Int32.toInt u.2.1 = 0 ∧ Int32.toInt u.2.2.2.2.1 = 0)) ∧ 0 ≤ Int32.toInt u.2.2.2.2.2.1 ∧ Int32.toInt u.2.2.2.2.2.1 ≤ 400 ∧ SI u.2.2.2.2.2.2.2.2.2.2.2.2 u.2.2.2.1 u.2.2.2.2.1 u.2.2.2.2.2.2.2.2.2.2.2.1 ∧ PT ss sa0 so0 fa0 u.1 u.2.1 u.2.2.2.1 ∧ u.2.2.2.2.2.2.2.2.2.2.2.2.length ≤ LL0.length + 3 ∧ List.count 1 u.2.2.2.2.2.2.2.2.2.2.2.2 = List.count 1 LL0 ∧ List.count 6 u.2.2.2.2.2.2.2.2.2.2.2.2 = List.count 6 LL0) → va_P (dC, dI) cls (ME h g ss u.1 u.2.1 u.2.2.1 u.2.2.2.2.2.1 u.2.2.2.1 li u.2.2.2.2.2.2.2.2.2.2.1 u.2.2.2.2.2.2.2.2.1 u.2.2.2.2.2.2.2.2.2.1 bl te u.2.2.2.2.1 wo wz sr u.2.2.2.2.2.2.1 u.2.2.2.2.2.2.2.1 u.2.2.2.2.2.2.2.2.2.2.2.1) H → va_D A (ME h g ss u.1 u.2.1 u.2.2.1 u.2.2.2.2.2.1 u.2.2.2.1 li u.2.2.2.2.2.2.2.2.2.2.1 u.2.2.2.2.2.2.2.2.1 u.2.2.2.2.2.2.2.2.2.1 bl te u.2.2.2.2.1 wo wz sr u.2.2.2.2.2.2.1 u.2.2.2.2.2.2.2.1 u.2.2.2.2.2.2.2.2.2.2.2.1) → va_S A s.heap H locs → W p l e ({ frames := 8, cells := 0, slots := 0, locals := 176 } : Room) s m args below meth c H locs 0 0 Q (F0 m pc ls [])) : ∀ (w : Int32) (sa : Int32) (so : Int32) (pl : Int32) (fa : Int32) (op : Int32) (si : Int32) (le : Nat → Int64) (tx : Nat → Int32) (st : Int32) (rq : Int32) (co : Int32) (ro : Nat → Int32) (LL : List Nat), PT ss sa0 so0 fa0 sa so fa → LL = LL0 → 0 ≤ Int32.toInt sa → Int32.toInt sa ≤ Int32.toInt ss → 0 ≤ Int32.toInt pl → Int32.toInt pl ≤ 400 → -1 ≤ Int32.toInt fa → Int32.toInt fa ≤ 400 → (Int32.toInt fa < 0 ∨ (Int32.toInt so = 0 ∧ Int32.toInt op = 0)) → 0 ≤ Int32.toInt si → Int32.toInt si ≤ 400 → SI LL fa op ro → ∀ (H : Heap) (locs : List Loc) (ls : Array Slot), va_P (dC, dI) cls (ME h g ss sa so pl si fa li co st rq bl te op wo wz sr le tx ro) H → va_D A (ME h g ss sa so pl si fa li co st rq bl te op wo wz sr le tx ro) → va_S A s.heap H locs → lv_has ls 2 [(1, .int w), (0, .ref (h 0))] → W p l e ({ frames := 8, cells := 0, slots := 0, locals := 176 } : Room) s m args below meth c H locs 0 0 Q (F0 m 168 ls []) := by
  intro w sa so pl fa op si le tx st rq co ro LL v_0 v_1 v_2 v_3 v_4 v_5 v_6 v_7 v_8 v_9 v_10 v_11 H locs ls hP hD hS hl
  subst v_1
  refine lv_iload_n hx hb d_M_command_168 rfl (lv_at hl 0 rfl) ?_
  refine lv_bipush (v := 13) hx hb d_M_command_169 (by decide) ?_
  refine lv_icmp_ne (tgt := 178) hx hb d_M_command_171 (by decide) (fun c_23 => ?_) (fun c_23 => ?_)
  · exact lp_M_command_178 (sa0 := sa0) (so0 := so0) (fa0 := fa0) (LL0 := LL) hx hb hml hown ht hE hA hK h_0 h_1 fin w sa so pl fa op si le tx st rq co ro LL v_0 rfl (by omega) (by omega) (by omega) (by omega) (by omega) (by omega) (by omega) (by omega) (by omega) v_11 _ _ ls hP hD hS (lv_sub hl [0, 1] rfl)
  · refine lv_aload_n hx hb d_M_command_174 rfl (lv_at hl 1 rfl) ?_
    have hFc := va_free (wc := (ME h g ss sa so pl si fa li co st rq bl te op wo wz sr le tx ro)) hD hS hA [0, 1, 2, 3, 4, 5, 6] rfl
    refine va_callv (va_runV (As := []) (rest := []) ⟨hx, hb, hml, hown, ht⟩ (c_M_absence l dC dI k h g ss sa so pl si fa li co st rq bl te op wo le wz sr tx ro  _ (by omega) (by omega) (by omega) (by omega) (by omega) (by omega) (by omega) (by omega) (by omega) (by omega) (by omega)) (cwV 0 ht (g_V k_838 k_840 k_68 k_80 k_841) rfl rfl rfl (by decide +kernel) ⟨(Nat.le_of_ble_eq_true rfl), (Nat.le_of_ble_eq_true rfl)⟩) ⟨fb_X, va_recv hK hP (ci := 4) (q0 := 0) rfl rfl, pre_X hE hS hFc hP hK hD⟩ rfl rfl hl.1 rfl (lv_room (Nat.le_of_ble_eq_true rfl)) d_M_command_175 ⟨(Nat.le_of_ble_eq_true rfl), (Nat.le_of_ble_eq_true rfl)⟩) hS (fun q _ h9 => hFc q h9) hFc (fun u_34 t H locs het hvm hw hB hz1 hk1 hS => ?_)
    obtain ⟨sa_24, so_25, pl_26, fa_27, op_28, si_29, le_30, tx_31, st_32, rq_33⟩ := u_34
    try dsimp only at hw
    obtain ⟨p_36, p_37, p_38, p_39, p_40, p_41, p_42, p_43, p_44, p_45⟩ := hw
    obtain ⟨hP1, hK1, hD1⟩ := hB
    rw [het] at hP1
    have hP : va_P (dC, dI) cls (ME h g ss sa_24 so_25 pl_26 si_29 fa_27 li co st_32 rq_33 bl te op_28 wo wz sr le_30 tx_31 ro) H := hP1
    have hD : va_D A (ME h g ss sa_24 so_25 pl_26 si_29 fa_27 li co st_32 rq_33 bl te op_28 wo wz sr le_30 tx_31 ro) := hD1.weaken (fun _ _ _ h9 => hFc _ h9)
    have sk_46 : SI LL fa_27 op_28 ro := SI_pr v_11 p_45.pr
    exact lp_M_command_178 (sa0 := sa0) (so0 := so0) (fa0 := fa0) (LL0 := LL) hx hb hml hown ht hE hA hK h_0 h_1 fin w sa_24 so_25 pl_26 fa_27 op_28 si_29 le_30 tx_31 st_32 rq_33 co ro LL (uTT v_0 p_45.pt) rfl (by omega) (by omega) (by omega) (by omega) (by omega) (by omega) (by omega) (by omega) (by omega) sk_46 _ _ ls hP hD hS (lv_sub hl [0, 1] rfl)
set_option maxHeartbeats 4000000 in
set_option maxRecDepth 100000 in
theorem lp_M_command_151 {p : Program} {l : Launch} {e : Env} {s : State} {m : MethodId} {args : Array Value} {below : List Frame} {meth : Method} {c : Code} {Q : State → Prop} {A : Nat → Prop} {dC : Nat → ClassId} {dI : Nat → Nat → Nat} {k h : Nat → Nat} {g : Nat → ClassId} {ss : Int32} {li : Int32} {bl : Int32} {te : Int32} {wo : Nat → Int64} {wz : Nat → Int32} {sr : Nat → Int32} {sa0 : Int32} {so0 : Int32} {fa0 : Int32} {LL0 : List Nat} (hx : p.tables.exec = Jvm.exec) (hb : c.code = b_M_command) (hml : c.maxLocals = 2) (hown : s.vm.findClass "SieveDeskModel" = some m.cls) (ht : ∀ w ∈ TT, w.before args s = true) (hE : KE k A s s.heap) (hA : ∀ q : Nat, s.heap.size ≤ q → A q) (hK : va_K (dC, dI) cls (TM g) s)  (h_0 : 0 ≤ Int32.toInt ss) (h_1 : Int32.toInt ss ≤ 400) (fin : ∀ (u : Int32 × Int32 × Int32 × Int32 × Int32 × Int32 × (Nat → Int64) × (Nat → Int32) × Int32 × Int32 × Int32 × (Nat → Int32) × List Nat) (H : Heap) (locs : List Loc) (pc : Nat) (ls : Array Slot), decode b_M_command pc = .ok (.return_, 1) → (0 ≤ Int32.toInt u.1 ∧ Int32.toInt u.1 ≤ Int32.toInt ss ∧ 0 ≤ Int32.toInt u.2.2.1 ∧ Int32.toInt u.2.2.1 ≤ 400 ∧ -1 ≤ Int32.toInt u.2.2.2.1 ∧ Int32.toInt u.2.2.2.1 ≤ 400 ∧ (Int32.toInt u.2.2.2.1 < 0 ∨ (Int32.toInt u.2.1 = 0 ∧ Int32.toInt u.2.2.2.2.1 = 0)) ∧ 0 ≤ Int32.toInt u.2.2.2.2.2.1 ∧ Int32.toInt u.2.2.2.2.2.1 ≤ 400 ∧ SI u.2.2.2.2.2.2.2.2.2.2.2.2 u.2.2.2.1 u.2.2.2.2.1 u.2.2.2.2.2.2.2.2.2.2.2.1 ∧ PT ss sa0 so0 fa0 u.1 u.2.1 u.2.2.2.1 ∧ u.2.2.2.2.2.2.2.2.2.2.2.2.length ≤ LL0.length + 3 ∧ List.count 1 u.2.2.2.2.2.2.2.2.2.2.2.2 = List.count 1 LL0 ∧ List.count 6 u.2.2.2.2.2.2.2.2.2.2.2.2 = List.count 6 LL0) → va_P (dC, dI) cls (ME h g ss u.1 u.2.1 u.2.2.1 u.2.2.2.2.2.1 u.2.2.2.1 li u.2.2.2.2.2.2.2.2.2.2.1 u.2.2.2.2.2.2.2.2.1 u.2.2.2.2.2.2.2.2.2.1 bl te u.2.2.2.2.1 wo wz sr u.2.2.2.2.2.2.1 u.2.2.2.2.2.2.2.1 u.2.2.2.2.2.2.2.2.2.2.2.1) H → va_D A (ME h g ss u.1 u.2.1 u.2.2.1 u.2.2.2.2.2.1 u.2.2.2.1 li u.2.2.2.2.2.2.2.2.2.2.1 u.2.2.2.2.2.2.2.2.1 u.2.2.2.2.2.2.2.2.2.1 bl te u.2.2.2.2.1 wo wz sr u.2.2.2.2.2.2.1 u.2.2.2.2.2.2.2.1 u.2.2.2.2.2.2.2.2.2.2.2.1) → va_S A s.heap H locs → W p l e ({ frames := 8, cells := 0, slots := 0, locals := 176 } : Room) s m args below meth c H locs 0 0 Q (F0 m pc ls [])) : ∀ (w : Int32) (sa : Int32) (so : Int32) (pl : Int32) (fa : Int32) (op : Int32) (si : Int32) (le : Nat → Int64) (tx : Nat → Int32) (st : Int32) (rq : Int32) (co : Int32) (ro : Nat → Int32) (LL : List Nat), PT ss sa0 so0 fa0 sa so fa → LL = LL0 → 0 ≤ Int32.toInt sa → Int32.toInt sa ≤ Int32.toInt ss → 0 ≤ Int32.toInt pl → Int32.toInt pl ≤ 400 → -1 ≤ Int32.toInt fa → Int32.toInt fa ≤ 400 → (Int32.toInt fa < 0 ∨ (Int32.toInt so = 0 ∧ Int32.toInt op = 0)) → 0 ≤ Int32.toInt si → Int32.toInt si ≤ 400 → SI LL fa op ro → ∀ (H : Heap) (locs : List Loc) (ls : Array Slot), va_P (dC, dI) cls (ME h g ss sa so pl si fa li co st rq bl te op wo wz sr le tx ro) H → va_D A (ME h g ss sa so pl si fa li co st rq bl te op wo wz sr le tx ro) → va_S A s.heap H locs → lv_has ls 2 [(1, .int w), (0, .ref (h 0))] → W p l e ({ frames := 8, cells := 0, slots := 0, locals := 176 } : Room) s m args below meth c H locs 0 0 Q (F0 m 151 ls []) := by
  intro w sa so pl fa op si le tx st rq co ro LL v_0 v_1 v_2 v_3 v_4 v_5 v_6 v_7 v_8 v_9 v_10 v_11 H locs ls hP hD hS hl
  subst v_1
  refine lv_iload_n hx hb d_M_command_151 rfl (lv_at hl 0 rfl) ?_
  refine lv_bipush (v := 9) hx hb d_M_command_152 (by decide) ?_
  refine lv_icmp_le (tgt := 168) hx hb d_M_command_154 (by decide) (fun c_47 => ?_) (fun c_47 => ?_)
  · exact lp_M_command_168 (sa0 := sa0) (so0 := so0) (fa0 := fa0) (LL0 := LL) hx hb hml hown ht hE hA hK h_0 h_1 fin w sa so pl fa op si le tx st rq co ro LL v_0 rfl (by omega) (by omega) (by omega) (by omega) (by omega) (by omega) (by omega) (by omega) (by omega) v_11 _ _ ls hP hD hS (lv_sub hl [0, 1] rfl)
  · refine lv_iload_n hx hb d_M_command_157 rfl (lv_at hl 0 rfl) ?_
    refine lv_bipush (v := 13) hx hb d_M_command_158 (by decide) ?_
    refine lv_icmp_ge (tgt := 168) hx hb d_M_command_160 (by decide) (fun c_48 => ?_) (fun c_48 => ?_)
    · exact lp_M_command_168 (sa0 := sa0) (so0 := so0) (fa0 := fa0) (LL0 := LL) hx hb hml hown ht hE hA hK h_0 h_1 fin w sa so pl fa op si le tx st rq co ro LL v_0 rfl (by omega) (by omega) (by omega) (by omega) (by omega) (by omega) (by omega) (by omega) (by omega) v_11 _ _ ls hP hD hS (lv_sub hl [0, 1] rfl)
    · refine lv_aload_n hx hb d_M_command_163 rfl (lv_at hl 1 rfl) ?_
      refine lv_iconst (v := 0) hx hb d_M_command_164 (by decide) ?_
      have hc_0 : Int32.toInt 0 = 0 := by decide
      have hFc := va_free (wc := (ME h g ss sa so pl si fa li co st rq bl te op wo wz sr le tx ro)) hD hS hA [0, 1, 2, 3, 4, 5, 6] rfl
      refine va_callv (va_runV (As := [.int 0]) (rest := []) ⟨hx, hb, hml, hown, ht⟩ (c_M_list l dC dI k h g ss sa so pl si fa li co st rq bl te op wo le wz sr tx ro 0 _ (by omega) (by omega) (by omega) (by omega) (by omega) (by omega) (by omega) (by omega) (by omega) (by omega) (by omega)) (cwV 1 ht (g_V k_775 k_777 k_53 k_80 k_778) rfl rfl rfl (by decide +kernel) ⟨(Nat.le_of_ble_eq_true rfl), (Nat.le_of_ble_eq_true rfl)⟩) ⟨fb_X, va_recv hK hP (ci := 4) (q0 := 0) rfl rfl, pre_X hE hS hFc hP hK hD⟩ rfl rfl hl.1 rfl (lv_room (Nat.le_of_ble_eq_true rfl)) d_M_command_165 ⟨(Nat.le_of_ble_eq_true rfl), (Nat.le_of_ble_eq_true rfl)⟩) hS (fun q _ h9 => hFc q h9) hFc (fun u_59 t H locs het hvm hw hB hz1 hk1 hS => ?_)
      obtain ⟨sa_49, so_50, pl_51, fa_52, op_53, si_54, le_55, tx_56, st_57, rq_58⟩ := u_59
      try dsimp only at hw
      obtain ⟨p_61, p_62, p_63, p_64, p_65, p_66, p_67, p_68, p_69, p_70⟩ := hw
      obtain ⟨hP1, hK1, hD1⟩ := hB
      rw [het] at hP1
      have hP : va_P (dC, dI) cls (ME h g ss sa_49 so_50 pl_51 si_54 fa_52 li co st_57 rq_58 bl te op_53 wo wz sr le_55 tx_56 ro) H := hP1
      have hD : va_D A (ME h g ss sa_49 so_50 pl_51 si_54 fa_52 li co st_57 rq_58 bl te op_53 wo wz sr le_55 tx_56 ro) := hD1.weaken (fun _ _ _ h9 => hFc _ h9)
      have sk_71 : SI LL fa_52 op_53 ro := SI_pr v_11 p_70.pr
      exact lp_M_command_168 (sa0 := sa0) (so0 := so0) (fa0 := fa0) (LL0 := LL) hx hb hml hown ht hE hA hK h_0 h_1 fin w sa_49 so_50 pl_51 fa_52 op_53 si_54 le_55 tx_56 st_57 rq_58 co ro LL (uTT v_0 p_70.pt) rfl (by omega) (by omega) (by omega) (by omega) (by omega) (by omega) (by omega) (by omega) (by omega) sk_71 _ _ ls hP hD hS (lv_sub hl [0, 1] rfl)
set_option maxHeartbeats 4000000 in
set_option maxRecDepth 100000 in
theorem lp_M_command_141 {p : Program} {l : Launch} {e : Env} {s : State} {m : MethodId} {args : Array Value} {below : List Frame} {meth : Method} {c : Code} {Q : State → Prop} {A : Nat → Prop} {dC : Nat → ClassId} {dI : Nat → Nat → Nat} {k h : Nat → Nat} {g : Nat → ClassId} {ss : Int32} {li : Int32} {bl : Int32} {te : Int32} {wo : Nat → Int64} {wz : Nat → Int32} {sr : Nat → Int32} {sa0 : Int32} {so0 : Int32} {fa0 : Int32} {LL0 : List Nat} (hx : p.tables.exec = Jvm.exec) (hb : c.code = b_M_command) (hml : c.maxLocals = 2) (hown : s.vm.findClass "SieveDeskModel" = some m.cls) (ht : ∀ w ∈ TT, w.before args s = true) (hE : KE k A s s.heap) (hA : ∀ q : Nat, s.heap.size ≤ q → A q) (hK : va_K (dC, dI) cls (TM g) s)  (h_0 : 0 ≤ Int32.toInt ss) (h_1 : Int32.toInt ss ≤ 400) (fin : ∀ (u : Int32 × Int32 × Int32 × Int32 × Int32 × Int32 × (Nat → Int64) × (Nat → Int32) × Int32 × Int32 × Int32 × (Nat → Int32) × List Nat) (H : Heap) (locs : List Loc) (pc : Nat) (ls : Array Slot), decode b_M_command pc = .ok (.return_, 1) → (0 ≤ Int32.toInt u.1 ∧ Int32.toInt u.1 ≤ Int32.toInt ss ∧ 0 ≤ Int32.toInt u.2.2.1 ∧ Int32.toInt u.2.2.1 ≤ 400 ∧ -1 ≤ Int32.toInt u.2.2.2.1 ∧ Int32.toInt u.2.2.2.1 ≤ 400 ∧ (Int32.toInt u.2.2.2.1 < 0 ∨ (Int32.toInt u.2.1 = 0 ∧ Int32.toInt u.2.2.2.2.1 = 0)) ∧ 0 ≤ Int32.toInt u.2.2.2.2.2.1 ∧ Int32.toInt u.2.2.2.2.2.1 ≤ 400 ∧ SI u.2.2.2.2.2.2.2.2.2.2.2.2 u.2.2.2.1 u.2.2.2.2.1 u.2.2.2.2.2.2.2.2.2.2.2.1 ∧ PT ss sa0 so0 fa0 u.1 u.2.1 u.2.2.2.1 ∧ u.2.2.2.2.2.2.2.2.2.2.2.2.length ≤ LL0.length + 3 ∧ List.count 1 u.2.2.2.2.2.2.2.2.2.2.2.2 = List.count 1 LL0 ∧ List.count 6 u.2.2.2.2.2.2.2.2.2.2.2.2 = List.count 6 LL0) → va_P (dC, dI) cls (ME h g ss u.1 u.2.1 u.2.2.1 u.2.2.2.2.2.1 u.2.2.2.1 li u.2.2.2.2.2.2.2.2.2.2.1 u.2.2.2.2.2.2.2.2.1 u.2.2.2.2.2.2.2.2.2.1 bl te u.2.2.2.2.1 wo wz sr u.2.2.2.2.2.2.1 u.2.2.2.2.2.2.2.1 u.2.2.2.2.2.2.2.2.2.2.2.1) H → va_D A (ME h g ss u.1 u.2.1 u.2.2.1 u.2.2.2.2.2.1 u.2.2.2.1 li u.2.2.2.2.2.2.2.2.2.2.1 u.2.2.2.2.2.2.2.2.1 u.2.2.2.2.2.2.2.2.2.1 bl te u.2.2.2.2.1 wo wz sr u.2.2.2.2.2.2.1 u.2.2.2.2.2.2.2.1 u.2.2.2.2.2.2.2.2.2.2.2.1) → va_S A s.heap H locs → W p l e ({ frames := 8, cells := 0, slots := 0, locals := 176 } : Room) s m args below meth c H locs 0 0 Q (F0 m pc ls [])) : ∀ (w : Int32) (sa : Int32) (so : Int32) (pl : Int32) (fa : Int32) (op : Int32) (si : Int32) (le : Nat → Int64) (tx : Nat → Int32) (st : Int32) (rq : Int32) (co : Int32) (ro : Nat → Int32) (LL : List Nat), PT ss sa0 so0 fa0 sa so fa → LL = LL0 → 0 ≤ Int32.toInt sa → Int32.toInt sa ≤ Int32.toInt ss → 0 ≤ Int32.toInt pl → Int32.toInt pl ≤ 400 → -1 ≤ Int32.toInt fa → Int32.toInt fa ≤ 400 → (Int32.toInt fa < 0 ∨ (Int32.toInt so = 0 ∧ Int32.toInt op = 0)) → 0 ≤ Int32.toInt si → Int32.toInt si ≤ 400 → SI LL fa op ro → ∀ (H : Heap) (locs : List Loc) (ls : Array Slot), va_P (dC, dI) cls (ME h g ss sa so pl si fa li co st rq bl te op wo wz sr le tx ro) H → va_D A (ME h g ss sa so pl si fa li co st rq bl te op wo wz sr le tx ro) → va_S A s.heap H locs → lv_has ls 2 [(1, .int w), (0, .ref (h 0))] → W p l e ({ frames := 8, cells := 0, slots := 0, locals := 176 } : Room) s m args below meth c H locs 0 0 Q (F0 m 141 ls []) := by
  intro w sa so pl fa op si le tx st rq co ro LL v_0 v_1 v_2 v_3 v_4 v_5 v_6 v_7 v_8 v_9 v_10 v_11 H locs ls hP hD hS hl
  subst v_1
  refine lv_iload_n hx hb d_M_command_141 rfl (lv_at hl 0 rfl) ?_
  refine lv_bipush (v := 9) hx hb d_M_command_142 (by decide) ?_
  refine lv_icmp_ne (tgt := 151) hx hb d_M_command_144 (by decide) (fun c_72 => ?_) (fun c_72 => ?_)
  · exact lp_M_command_151 (sa0 := sa0) (so0 := so0) (fa0 := fa0) (LL0 := LL) hx hb hml hown ht hE hA hK h_0 h_1 fin w sa so pl fa op si le tx st rq co ro LL v_0 rfl (by omega) (by omega) (by omega) (by omega) (by omega) (by omega) (by omega) (by omega) (by omega) v_11 _ _ ls hP hD hS (lv_sub hl [0, 1] rfl)
  · refine lv_aload_n hx hb d_M_command_147 rfl (lv_at hl 1 rfl) ?_
    have hFc := va_free (wc := (ME h g ss sa so pl si fa li co st rq bl te op wo wz sr le tx ro)) hD hS hA [0, 1, 2, 3, 4, 5, 6] rfl
    refine va_callv (va_runV (As := []) (rest := []) ⟨hx, hb, hml, hown, ht⟩ (c_M_taken l dC dI k h g ss sa so pl si fa li co st rq bl te op wo le wz sr tx ro  _ (by omega) (by omega) (by omega) (by omega) (by omega) (by omega) (by omega) (by omega) (by omega) (by omega) (by omega)) (cwV 0 ht (g_V k_834 k_836 k_67 k_80 k_837) rfl rfl rfl (by decide +kernel) ⟨(Nat.le_of_ble_eq_true rfl), (Nat.le_of_ble_eq_true rfl)⟩) ⟨fb_X, va_recv hK hP (ci := 4) (q0 := 0) rfl rfl, pre_X hE hS hFc hP hK hD⟩ rfl rfl hl.1 rfl (lv_room (Nat.le_of_ble_eq_true rfl)) d_M_command_148 ⟨(Nat.le_of_ble_eq_true rfl), (Nat.le_of_ble_eq_true rfl)⟩) hS (fun q _ h9 => hFc q h9) hFc (fun u_82 t H locs het hvm hw hB hz1 hk1 hS => ?_)
    obtain ⟨sa_73, so_74, pl_75, fa_76, op_77, si_78, le_79, tx_80, st_81⟩ := u_82
    try dsimp only at hw
    obtain ⟨p_84, p_85, p_86, p_87, p_88, p_89, p_90, p_91, p_92, p_93⟩ := hw
    obtain ⟨hP1, hK1, hD1⟩ := hB
    rw [het] at hP1
    have hP : va_P (dC, dI) cls (ME h g ss sa_73 so_74 pl_75 si_78 fa_76 li co st_81 rq bl te op_77 wo wz sr le_79 tx_80 ro) H := hP1
    have hD : va_D A (ME h g ss sa_73 so_74 pl_75 si_78 fa_76 li co st_81 rq bl te op_77 wo wz sr le_79 tx_80 ro) := hD1.weaken (fun _ _ _ h9 => hFc _ h9)
    have sk_94 : SI LL fa_76 op_77 ro := SI_pr v_11 p_93.pr
    exact lp_M_command_151 (sa0 := sa0) (so0 := so0) (fa0 := fa0) (LL0 := LL) hx hb hml hown ht hE hA hK h_0 h_1 fin w sa_73 so_74 pl_75 fa_76 op_77 si_78 le_79 tx_80 st_81 rq co ro LL (uTT v_0 p_93.pt) rfl (by omega) (by omega) (by omega) (by omega) (by omega) (by omega) (by omega) (by omega) (by omega) sk_94 _ _ ls hP hD hS (lv_sub hl [0, 1] rfl)
set_option maxHeartbeats 4000000 in
set_option maxRecDepth 100000 in
theorem lp_M_command_131 {p : Program} {l : Launch} {e : Env} {s : State} {m : MethodId} {args : Array Value} {below : List Frame} {meth : Method} {c : Code} {Q : State → Prop} {A : Nat → Prop} {dC : Nat → ClassId} {dI : Nat → Nat → Nat} {k h : Nat → Nat} {g : Nat → ClassId} {ss : Int32} {li : Int32} {bl : Int32} {te : Int32} {wo : Nat → Int64} {wz : Nat → Int32} {sr : Nat → Int32} {sa0 : Int32} {so0 : Int32} {fa0 : Int32} {LL0 : List Nat} (hx : p.tables.exec = Jvm.exec) (hb : c.code = b_M_command) (hml : c.maxLocals = 2) (hown : s.vm.findClass "SieveDeskModel" = some m.cls) (ht : ∀ w ∈ TT, w.before args s = true) (hE : KE k A s s.heap) (hA : ∀ q : Nat, s.heap.size ≤ q → A q) (hK : va_K (dC, dI) cls (TM g) s)  (h_0 : 0 ≤ Int32.toInt ss) (h_1 : Int32.toInt ss ≤ 400) (fin : ∀ (u : Int32 × Int32 × Int32 × Int32 × Int32 × Int32 × (Nat → Int64) × (Nat → Int32) × Int32 × Int32 × Int32 × (Nat → Int32) × List Nat) (H : Heap) (locs : List Loc) (pc : Nat) (ls : Array Slot), decode b_M_command pc = .ok (.return_, 1) → (0 ≤ Int32.toInt u.1 ∧ Int32.toInt u.1 ≤ Int32.toInt ss ∧ 0 ≤ Int32.toInt u.2.2.1 ∧ Int32.toInt u.2.2.1 ≤ 400 ∧ -1 ≤ Int32.toInt u.2.2.2.1 ∧ Int32.toInt u.2.2.2.1 ≤ 400 ∧ (Int32.toInt u.2.2.2.1 < 0 ∨ (Int32.toInt u.2.1 = 0 ∧ Int32.toInt u.2.2.2.2.1 = 0)) ∧ 0 ≤ Int32.toInt u.2.2.2.2.2.1 ∧ Int32.toInt u.2.2.2.2.2.1 ≤ 400 ∧ SI u.2.2.2.2.2.2.2.2.2.2.2.2 u.2.2.2.1 u.2.2.2.2.1 u.2.2.2.2.2.2.2.2.2.2.2.1 ∧ PT ss sa0 so0 fa0 u.1 u.2.1 u.2.2.2.1 ∧ u.2.2.2.2.2.2.2.2.2.2.2.2.length ≤ LL0.length + 3 ∧ List.count 1 u.2.2.2.2.2.2.2.2.2.2.2.2 = List.count 1 LL0 ∧ List.count 6 u.2.2.2.2.2.2.2.2.2.2.2.2 = List.count 6 LL0) → va_P (dC, dI) cls (ME h g ss u.1 u.2.1 u.2.2.1 u.2.2.2.2.2.1 u.2.2.2.1 li u.2.2.2.2.2.2.2.2.2.2.1 u.2.2.2.2.2.2.2.2.1 u.2.2.2.2.2.2.2.2.2.1 bl te u.2.2.2.2.1 wo wz sr u.2.2.2.2.2.2.1 u.2.2.2.2.2.2.2.1 u.2.2.2.2.2.2.2.2.2.2.2.1) H → va_D A (ME h g ss u.1 u.2.1 u.2.2.1 u.2.2.2.2.2.1 u.2.2.2.1 li u.2.2.2.2.2.2.2.2.2.2.1 u.2.2.2.2.2.2.2.2.1 u.2.2.2.2.2.2.2.2.2.1 bl te u.2.2.2.2.1 wo wz sr u.2.2.2.2.2.2.1 u.2.2.2.2.2.2.2.1 u.2.2.2.2.2.2.2.2.2.2.2.1) → va_S A s.heap H locs → W p l e ({ frames := 8, cells := 0, slots := 0, locals := 176 } : Room) s m args below meth c H locs 0 0 Q (F0 m pc ls [])) : ∀ (w : Int32) (sa : Int32) (so : Int32) (pl : Int32) (fa : Int32) (op : Int32) (si : Int32) (le : Nat → Int64) (tx : Nat → Int32) (st : Int32) (rq : Int32) (co : Int32) (ro : Nat → Int32) (LL : List Nat), PT ss sa0 so0 fa0 sa so fa → LL = LL0 → 0 ≤ Int32.toInt sa → Int32.toInt sa ≤ Int32.toInt ss → 0 ≤ Int32.toInt pl → Int32.toInt pl ≤ 400 → -1 ≤ Int32.toInt fa → Int32.toInt fa ≤ 400 → (Int32.toInt fa < 0 ∨ (Int32.toInt so = 0 ∧ Int32.toInt op = 0)) → 0 ≤ Int32.toInt si → Int32.toInt si ≤ 400 → SI LL fa op ro → ∀ (H : Heap) (locs : List Loc) (ls : Array Slot), va_P (dC, dI) cls (ME h g ss sa so pl si fa li co st rq bl te op wo wz sr le tx ro) H → va_D A (ME h g ss sa so pl si fa li co st rq bl te op wo wz sr le tx ro) → va_S A s.heap H locs → lv_has ls 2 [(1, .int w), (0, .ref (h 0))] → W p l e ({ frames := 8, cells := 0, slots := 0, locals := 176 } : Room) s m args below meth c H locs 0 0 Q (F0 m 131 ls []) := by
  intro w sa so pl fa op si le tx st rq co ro LL v_0 v_1 v_2 v_3 v_4 v_5 v_6 v_7 v_8 v_9 v_10 v_11 H locs ls hP hD hS hl
  subst v_1
  refine lv_iload_n hx hb d_M_command_131 rfl (lv_at hl 0 rfl) ?_
  refine lv_bipush (v := 8) hx hb d_M_command_132 (by decide) ?_
  refine lv_icmp_ne (tgt := 141) hx hb d_M_command_134 (by decide) (fun c_95 => ?_) (fun c_95 => ?_)
  · exact lp_M_command_141 (sa0 := sa0) (so0 := so0) (fa0 := fa0) (LL0 := LL) hx hb hml hown ht hE hA hK h_0 h_1 fin w sa so pl fa op si le tx st rq co ro LL v_0 rfl (by omega) (by omega) (by omega) (by omega) (by omega) (by omega) (by omega) (by omega) (by omega) v_11 _ _ ls hP hD hS (lv_sub hl [0, 1] rfl)
  · refine lv_aload_n hx hb d_M_command_137 rfl (lv_at hl 1 rfl) ?_
    have hFc := va_free (wc := (ME h g ss sa so pl si fa li co st rq bl te op wo wz sr le tx ro)) hD hS hA [0, 1, 2, 3, 4, 5, 6] rfl
    refine va_callv (va_runV (As := []) (rest := []) ⟨hx, hb, hml, hown, ht⟩ (c_M_redirect l dC dI k h g ss sa so pl si fa li co st rq bl te op wo le wz sr tx ro  _ (by omega) (by omega) (by omega) (by omega) (by omega) (by omega) (by omega) (by omega) (by omega) (by omega) (by omega)) (cwV 0 ht (g_V k_823 k_825 k_65 k_80 k_826) rfl rfl rfl (by decide +kernel) ⟨(Nat.le_of_ble_eq_true rfl), (Nat.le_of_ble_eq_true rfl)⟩) ⟨fb_X, va_recv hK hP (ci := 4) (q0 := 0) rfl rfl, pre_X hE hS hFc hP hK hD⟩ rfl rfl hl.1 rfl (lv_room (Nat.le_of_ble_eq_true rfl)) d_M_command_138 ⟨(Nat.le_of_ble_eq_true rfl), (Nat.le_of_ble_eq_true rfl)⟩) hS (fun q _ h9 => hFc q h9) hFc (fun u_105 t H locs het hvm hw hB hz1 hk1 hS => ?_)
    obtain ⟨sa_96, so_97, pl_98, fa_99, op_100, si_101, le_102, tx_103, st_104⟩ := u_105
    try dsimp only at hw
    obtain ⟨p_107, p_108, p_109, p_110, p_111, p_112, p_113, p_114, p_115, p_116⟩ := hw
    obtain ⟨hP1, hK1, hD1⟩ := hB
    rw [het] at hP1
    have hP : va_P (dC, dI) cls (ME h g ss sa_96 so_97 pl_98 si_101 fa_99 li co st_104 rq bl te op_100 wo wz sr le_102 tx_103 ro) H := hP1
    have hD : va_D A (ME h g ss sa_96 so_97 pl_98 si_101 fa_99 li co st_104 rq bl te op_100 wo wz sr le_102 tx_103 ro) := hD1.weaken (fun _ _ _ h9 => hFc _ h9)
    have sk_117 : SI LL fa_99 op_100 ro := SI_pr v_11 p_116.pr
    exact lp_M_command_141 (sa0 := sa0) (so0 := so0) (fa0 := fa0) (LL0 := LL) hx hb hml hown ht hE hA hK h_0 h_1 fin w sa_96 so_97 pl_98 fa_99 op_100 si_101 le_102 tx_103 st_104 rq co ro LL (uTT v_0 p_116.pt) rfl (by omega) (by omega) (by omega) (by omega) (by omega) (by omega) (by omega) (by omega) (by omega) sk_117 _ _ ls hP hD hS (lv_sub hl [0, 1] rfl)
set_option maxHeartbeats 4000000 in
set_option maxRecDepth 100000 in
theorem lp_M_command_121 {p : Program} {l : Launch} {e : Env} {s : State} {m : MethodId} {args : Array Value} {below : List Frame} {meth : Method} {c : Code} {Q : State → Prop} {A : Nat → Prop} {dC : Nat → ClassId} {dI : Nat → Nat → Nat} {k h : Nat → Nat} {g : Nat → ClassId} {ss : Int32} {li : Int32} {bl : Int32} {te : Int32} {wo : Nat → Int64} {wz : Nat → Int32} {sr : Nat → Int32} {sa0 : Int32} {so0 : Int32} {fa0 : Int32} {LL0 : List Nat} (hx : p.tables.exec = Jvm.exec) (hb : c.code = b_M_command) (hml : c.maxLocals = 2) (hown : s.vm.findClass "SieveDeskModel" = some m.cls) (ht : ∀ w ∈ TT, w.before args s = true) (hE : KE k A s s.heap) (hA : ∀ q : Nat, s.heap.size ≤ q → A q) (hK : va_K (dC, dI) cls (TM g) s)  (h_0 : 0 ≤ Int32.toInt ss) (h_1 : Int32.toInt ss ≤ 400) (fin : ∀ (u : Int32 × Int32 × Int32 × Int32 × Int32 × Int32 × (Nat → Int64) × (Nat → Int32) × Int32 × Int32 × Int32 × (Nat → Int32) × List Nat) (H : Heap) (locs : List Loc) (pc : Nat) (ls : Array Slot), decode b_M_command pc = .ok (.return_, 1) → (0 ≤ Int32.toInt u.1 ∧ Int32.toInt u.1 ≤ Int32.toInt ss ∧ 0 ≤ Int32.toInt u.2.2.1 ∧ Int32.toInt u.2.2.1 ≤ 400 ∧ -1 ≤ Int32.toInt u.2.2.2.1 ∧ Int32.toInt u.2.2.2.1 ≤ 400 ∧ (Int32.toInt u.2.2.2.1 < 0 ∨ (Int32.toInt u.2.1 = 0 ∧ Int32.toInt u.2.2.2.2.1 = 0)) ∧ 0 ≤ Int32.toInt u.2.2.2.2.2.1 ∧ Int32.toInt u.2.2.2.2.2.1 ≤ 400 ∧ SI u.2.2.2.2.2.2.2.2.2.2.2.2 u.2.2.2.1 u.2.2.2.2.1 u.2.2.2.2.2.2.2.2.2.2.2.1 ∧ PT ss sa0 so0 fa0 u.1 u.2.1 u.2.2.2.1 ∧ u.2.2.2.2.2.2.2.2.2.2.2.2.length ≤ LL0.length + 3 ∧ List.count 1 u.2.2.2.2.2.2.2.2.2.2.2.2 = List.count 1 LL0 ∧ List.count 6 u.2.2.2.2.2.2.2.2.2.2.2.2 = List.count 6 LL0) → va_P (dC, dI) cls (ME h g ss u.1 u.2.1 u.2.2.1 u.2.2.2.2.2.1 u.2.2.2.1 li u.2.2.2.2.2.2.2.2.2.2.1 u.2.2.2.2.2.2.2.2.1 u.2.2.2.2.2.2.2.2.2.1 bl te u.2.2.2.2.1 wo wz sr u.2.2.2.2.2.2.1 u.2.2.2.2.2.2.2.1 u.2.2.2.2.2.2.2.2.2.2.2.1) H → va_D A (ME h g ss u.1 u.2.1 u.2.2.1 u.2.2.2.2.2.1 u.2.2.2.1 li u.2.2.2.2.2.2.2.2.2.2.1 u.2.2.2.2.2.2.2.2.1 u.2.2.2.2.2.2.2.2.2.1 bl te u.2.2.2.2.1 wo wz sr u.2.2.2.2.2.2.1 u.2.2.2.2.2.2.2.1 u.2.2.2.2.2.2.2.2.2.2.2.1) → va_S A s.heap H locs → W p l e ({ frames := 8, cells := 0, slots := 0, locals := 176 } : Room) s m args below meth c H locs 0 0 Q (F0 m pc ls [])) : ∀ (w : Int32) (sa : Int32) (so : Int32) (pl : Int32) (fa : Int32) (op : Int32) (si : Int32) (le : Nat → Int64) (tx : Nat → Int32) (st : Int32) (rq : Int32) (co : Int32) (ro : Nat → Int32) (LL : List Nat), PT ss sa0 so0 fa0 sa so fa → LL = LL0 → 0 ≤ Int32.toInt sa → Int32.toInt sa ≤ Int32.toInt ss → 0 ≤ Int32.toInt pl → Int32.toInt pl ≤ 400 → -1 ≤ Int32.toInt fa → Int32.toInt fa ≤ 400 → (Int32.toInt fa < 0 ∨ (Int32.toInt so = 0 ∧ Int32.toInt op = 0)) → 0 ≤ Int32.toInt si → Int32.toInt si ≤ 400 → SI LL fa op ro → ∀ (H : Heap) (locs : List Loc) (ls : Array Slot), va_P (dC, dI) cls (ME h g ss sa so pl si fa li co st rq bl te op wo wz sr le tx ro) H → va_D A (ME h g ss sa so pl si fa li co st rq bl te op wo wz sr le tx ro) → va_S A s.heap H locs → lv_has ls 2 [(1, .int w), (0, .ref (h 0))] → W p l e ({ frames := 8, cells := 0, slots := 0, locals := 176 } : Room) s m args below meth c H locs 0 0 Q (F0 m 121 ls []) := by
  intro w sa so pl fa op si le tx st rq co ro LL v_0 v_1 v_2 v_3 v_4 v_5 v_6 v_7 v_8 v_9 v_10 v_11 H locs ls hP hD hS hl
  subst v_1
  refine lv_iload_n hx hb d_M_command_121 rfl (lv_at hl 0 rfl) ?_
  refine lv_bipush (v := 7) hx hb d_M_command_122 (by decide) ?_
  refine lv_icmp_ne (tgt := 131) hx hb d_M_command_124 (by decide) (fun c_118 => ?_) (fun c_118 => ?_)
  · exact lp_M_command_131 (sa0 := sa0) (so0 := so0) (fa0 := fa0) (LL0 := LL) hx hb hml hown ht hE hA hK h_0 h_1 fin w sa so pl fa op si le tx st rq co ro LL v_0 rfl (by omega) (by omega) (by omega) (by omega) (by omega) (by omega) (by omega) (by omega) (by omega) v_11 _ _ ls hP hD hS (lv_sub hl [0, 1] rfl)
  · refine lv_aload_n hx hb d_M_command_127 rfl (lv_at hl 1 rfl) ?_
    have hFc := va_free (wc := (ME h g ss sa so pl si fa li co st rq bl te op wo wz sr le tx ro)) hD hS hA [0, 1, 2, 3, 4, 5, 6] rfl
    refine va_callv (va_runV (As := []) (rest := []) ⟨hx, hb, hml, hown, ht⟩ (c_M_file l dC dI k h g ss sa so pl si fa li co st rq bl te op wo le wz sr tx ro  _ (by omega) (by omega) (by omega) (by omega) (by omega) (by omega) (by omega) (by omega) (by omega) (by omega) (by omega)) (cwV 0 ht (g_V k_819 k_821 k_64 k_80 k_822) rfl rfl rfl (by decide +kernel) ⟨(Nat.le_of_ble_eq_true rfl), (Nat.le_of_ble_eq_true rfl)⟩) ⟨fb_X, va_recv hK hP (ci := 4) (q0 := 0) rfl rfl, pre_X hE hS hFc hP hK hD⟩ rfl rfl hl.1 rfl (lv_room (Nat.le_of_ble_eq_true rfl)) d_M_command_128 ⟨(Nat.le_of_ble_eq_true rfl), (Nat.le_of_ble_eq_true rfl)⟩) hS (fun q _ h9 => hFc q h9) hFc (fun u_128 t H locs het hvm hw hB hz1 hk1 hS => ?_)
    obtain ⟨sa_119, so_120, pl_121, fa_122, op_123, si_124, le_125, tx_126, st_127⟩ := u_128
    try dsimp only at hw
    obtain ⟨p_130, p_131, p_132, p_133, p_134, p_135, p_136, p_137, p_138, p_139⟩ := hw
    obtain ⟨hP1, hK1, hD1⟩ := hB
    rw [het] at hP1
    have hP : va_P (dC, dI) cls (ME h g ss sa_119 so_120 pl_121 si_124 fa_122 li co st_127 rq bl te op_123 wo wz sr le_125 tx_126 ro) H := hP1
    have hD : va_D A (ME h g ss sa_119 so_120 pl_121 si_124 fa_122 li co st_127 rq bl te op_123 wo wz sr le_125 tx_126 ro) := hD1.weaken (fun _ _ _ h9 => hFc _ h9)
    have sk_140 : SI LL fa_122 op_123 ro := SI_pr v_11 p_139.pr
    exact lp_M_command_131 (sa0 := sa0) (so0 := so0) (fa0 := fa0) (LL0 := LL) hx hb hml hown ht hE hA hK h_0 h_1 fin w sa_119 so_120 pl_121 fa_122 op_123 si_124 le_125 tx_126 st_127 rq co ro LL (uTT v_0 p_139.pt) rfl (by omega) (by omega) (by omega) (by omega) (by omega) (by omega) (by omega) (by omega) (by omega) sk_140 _ _ ls hP hD hS (lv_sub hl [0, 1] rfl)
set_option maxHeartbeats 4000000 in
set_option maxRecDepth 100000 in
theorem lp_M_command_105 {p : Program} {l : Launch} {e : Env} {s : State} {m : MethodId} {args : Array Value} {below : List Frame} {meth : Method} {c : Code} {Q : State → Prop} {A : Nat → Prop} {dC : Nat → ClassId} {dI : Nat → Nat → Nat} {k h : Nat → Nat} {g : Nat → ClassId} {ss : Int32} {li : Int32} {bl : Int32} {te : Int32} {wo : Nat → Int64} {wz : Nat → Int32} {sr : Nat → Int32} {sa0 : Int32} {so0 : Int32} {fa0 : Int32} {LL0 : List Nat} (hx : p.tables.exec = Jvm.exec) (hb : c.code = b_M_command) (hml : c.maxLocals = 2) (hown : s.vm.findClass "SieveDeskModel" = some m.cls) (ht : ∀ w ∈ TT, w.before args s = true) (hE : KE k A s s.heap) (hA : ∀ q : Nat, s.heap.size ≤ q → A q) (hK : va_K (dC, dI) cls (TM g) s)  (h_0 : 0 ≤ Int32.toInt ss) (h_1 : Int32.toInt ss ≤ 400) (fin : ∀ (u : Int32 × Int32 × Int32 × Int32 × Int32 × Int32 × (Nat → Int64) × (Nat → Int32) × Int32 × Int32 × Int32 × (Nat → Int32) × List Nat) (H : Heap) (locs : List Loc) (pc : Nat) (ls : Array Slot), decode b_M_command pc = .ok (.return_, 1) → (0 ≤ Int32.toInt u.1 ∧ Int32.toInt u.1 ≤ Int32.toInt ss ∧ 0 ≤ Int32.toInt u.2.2.1 ∧ Int32.toInt u.2.2.1 ≤ 400 ∧ -1 ≤ Int32.toInt u.2.2.2.1 ∧ Int32.toInt u.2.2.2.1 ≤ 400 ∧ (Int32.toInt u.2.2.2.1 < 0 ∨ (Int32.toInt u.2.1 = 0 ∧ Int32.toInt u.2.2.2.2.1 = 0)) ∧ 0 ≤ Int32.toInt u.2.2.2.2.2.1 ∧ Int32.toInt u.2.2.2.2.2.1 ≤ 400 ∧ SI u.2.2.2.2.2.2.2.2.2.2.2.2 u.2.2.2.1 u.2.2.2.2.1 u.2.2.2.2.2.2.2.2.2.2.2.1 ∧ PT ss sa0 so0 fa0 u.1 u.2.1 u.2.2.2.1 ∧ u.2.2.2.2.2.2.2.2.2.2.2.2.length ≤ LL0.length + 3 ∧ List.count 1 u.2.2.2.2.2.2.2.2.2.2.2.2 = List.count 1 LL0 ∧ List.count 6 u.2.2.2.2.2.2.2.2.2.2.2.2 = List.count 6 LL0) → va_P (dC, dI) cls (ME h g ss u.1 u.2.1 u.2.2.1 u.2.2.2.2.2.1 u.2.2.2.1 li u.2.2.2.2.2.2.2.2.2.2.1 u.2.2.2.2.2.2.2.2.1 u.2.2.2.2.2.2.2.2.2.1 bl te u.2.2.2.2.1 wo wz sr u.2.2.2.2.2.2.1 u.2.2.2.2.2.2.2.1 u.2.2.2.2.2.2.2.2.2.2.2.1) H → va_D A (ME h g ss u.1 u.2.1 u.2.2.1 u.2.2.2.2.2.1 u.2.2.2.1 li u.2.2.2.2.2.2.2.2.2.2.1 u.2.2.2.2.2.2.2.2.1 u.2.2.2.2.2.2.2.2.2.1 bl te u.2.2.2.2.1 wo wz sr u.2.2.2.2.2.2.1 u.2.2.2.2.2.2.2.1 u.2.2.2.2.2.2.2.2.2.2.2.1) → va_S A s.heap H locs → W p l e ({ frames := 8, cells := 0, slots := 0, locals := 176 } : Room) s m args below meth c H locs 0 0 Q (F0 m pc ls [])) : ∀ (w : Int32) (sa : Int32) (so : Int32) (pl : Int32) (fa : Int32) (op : Int32) (si : Int32) (le : Nat → Int64) (tx : Nat → Int32) (st : Int32) (rq : Int32) (co : Int32) (ro : Nat → Int32) (LL : List Nat), PT ss sa0 so0 fa0 sa so fa → LL = LL0 → 0 ≤ Int32.toInt sa → Int32.toInt sa ≤ Int32.toInt ss → 0 ≤ Int32.toInt pl → Int32.toInt pl ≤ 400 → -1 ≤ Int32.toInt fa → Int32.toInt fa ≤ 400 → (Int32.toInt fa < 0 ∨ (Int32.toInt so = 0 ∧ Int32.toInt op = 0)) → 0 ≤ Int32.toInt si → Int32.toInt si ≤ 400 → SI LL fa op ro → ∀ (H : Heap) (locs : List Loc) (ls : Array Slot), va_P (dC, dI) cls (ME h g ss sa so pl si fa li co st rq bl te op wo wz sr le tx ro) H → va_D A (ME h g ss sa so pl si fa li co st rq bl te op wo wz sr le tx ro) → va_S A s.heap H locs → lv_has ls 2 [(1, .int w), (0, .ref (h 0))] → W p l e ({ frames := 8, cells := 0, slots := 0, locals := 176 } : Room) s m args below meth c H locs 0 0 Q (F0 m 105 ls []) := by
  intro w sa so pl fa op si le tx st rq co ro LL v_0 v_1 v_2 v_3 v_4 v_5 v_6 v_7 v_8 v_9 v_10 v_11 H locs ls hP hD hS hl
  subst v_1
  refine lv_iload_n hx hb d_M_command_105 rfl (lv_at hl 0 rfl) ?_
  refine lv_iconst (v := 5) hx hb d_M_command_106 (by decide) ?_
  refine lv_icmp_le (tgt := 121) hx hb d_M_command_107 (by decide) (fun c_141 => ?_) (fun c_141 => ?_)
  · exact lp_M_command_121 (sa0 := sa0) (so0 := so0) (fa0 := fa0) (LL0 := LL) hx hb hml hown ht hE hA hK h_0 h_1 fin w sa so pl fa op si le tx st rq co ro LL v_0 rfl (by omega) (by omega) (by omega) (by omega) (by omega) (by omega) (by omega) (by omega) (by omega) v_11 _ _ ls hP hD hS (lv_sub hl [0, 1] rfl)
  · refine lv_iload_n hx hb d_M_command_110 rfl (lv_at hl 0 rfl) ?_
    refine lv_bipush (v := 9) hx hb d_M_command_111 (by decide) ?_
    refine lv_icmp_ge (tgt := 121) hx hb d_M_command_113 (by decide) (fun c_142 => ?_) (fun c_142 => ?_)
    · exact lp_M_command_121 (sa0 := sa0) (so0 := so0) (fa0 := fa0) (LL0 := LL) hx hb hml hown ht hE hA hK h_0 h_1 fin w sa so pl fa op si le tx st rq co ro LL v_0 rfl (by omega) (by omega) (by omega) (by omega) (by omega) (by omega) (by omega) (by omega) (by omega) v_11 _ _ ls hP hD hS (lv_sub hl [0, 1] rfl)
    · refine lv_aload_n hx hb d_M_command_116 rfl (lv_at hl 1 rfl) ?_
      refine lv_iload_n hx hb d_M_command_117 rfl (lv_at hl 0 rfl) ?_
      have hFc := va_free (wc := (ME h g ss sa so pl si fa li co st rq bl te op wo wz sr le tx ro)) hD hS hA [0, 1, 2, 3, 4, 5, 6] rfl
      refine va_callv (va_runV (As := [.int w]) (rest := []) ⟨hx, hb, hml, hown, ht⟩ (c_M_tags l dC dI k h g ss sa so pl si fa li co st rq bl te op wo le wz sr tx ro w _ (by omega) (by omega) (by omega) (by omega) (by omega) (by omega) (by omega) (by omega) (by omega) (by omega) (by omega)) (cwV 1 ht (g_V k_815 k_817 k_63 k_80 k_818) rfl rfl rfl (by decide +kernel) ⟨(Nat.le_of_ble_eq_true rfl), (Nat.le_of_ble_eq_true rfl)⟩) ⟨fb_X, va_recv hK hP (ci := 4) (q0 := 0) rfl rfl, pre_X hE hS hFc hP hK hD⟩ rfl rfl hl.1 rfl (lv_room (Nat.le_of_ble_eq_true rfl)) d_M_command_118 ⟨(Nat.le_of_ble_eq_true rfl), (Nat.le_of_ble_eq_true rfl)⟩) hS (fun q _ h9 => hFc q h9) hFc (fun u_153 t H locs het hvm hw hB hz1 hk1 hS => ?_)
      obtain ⟨sa_143, so_144, pl_145, fa_146, op_147, si_148, le_149, tx_150, st_151, rq_152⟩ := u_153
      try dsimp only at hw
      obtain ⟨p_155, p_156, p_157, p_158, p_159, p_160, p_161, p_162, p_163, p_164⟩ := hw
      obtain ⟨hP1, hK1, hD1⟩ := hB
      rw [het] at hP1
      have hP : va_P (dC, dI) cls (ME h g ss sa_143 so_144 pl_145 si_148 fa_146 li co st_151 rq_152 bl te op_147 wo wz sr le_149 tx_150 ro) H := hP1
      have hD : va_D A (ME h g ss sa_143 so_144 pl_145 si_148 fa_146 li co st_151 rq_152 bl te op_147 wo wz sr le_149 tx_150 ro) := hD1.weaken (fun _ _ _ h9 => hFc _ h9)
      have sk_165 : SI LL fa_146 op_147 ro := SI_pr v_11 p_164
      exact lp_M_command_121 (sa0 := sa0) (so0 := so0) (fa0 := fa0) (LL0 := LL) hx hb hml hown ht hE hA hK h_0 h_1 fin w sa_143 so_144 pl_145 fa_146 op_147 si_148 le_149 tx_150 st_151 rq_152 co ro LL (uTU v_0 p_164.pu) rfl (by omega) (by omega) (by omega) (by omega) (by omega) (by omega) (by omega) (by omega) (by omega) sk_165 _ _ ls hP hD hS (lv_sub hl [0, 1] rfl)
set_option maxHeartbeats 4000000 in
set_option maxRecDepth 100000 in
theorem bd_M_command_0 {p : Program} {l : Launch} {e : Env} {s : State} {m : MethodId} {args : Array Value} {below : List Frame} {meth : Method} {c : Code} {Q : State → Prop} {A : Nat → Prop} {dC : Nat → ClassId} {dI : Nat → Nat → Nat} {k h : Nat → Nat} {g : Nat → ClassId} {ss : Int32} {li : Int32} {bl : Int32} {te : Int32} {wo : Nat → Int64} {wz : Nat → Int32} {sr : Nat → Int32} {sa0 : Int32} {so0 : Int32} {fa0 : Int32} {LL0 : List Nat} (hx : p.tables.exec = Jvm.exec) (hb : c.code = b_M_command) (hml : c.maxLocals = 2) (hown : s.vm.findClass "SieveDeskModel" = some m.cls) (ht : ∀ w ∈ TT, w.before args s = true) (hE : KE k A s s.heap) (hA : ∀ q : Nat, s.heap.size ≤ q → A q) (hK : va_K (dC, dI) cls (TM g) s)  (h_0 : 0 ≤ Int32.toInt ss) (h_1 : Int32.toInt ss ≤ 400) (fin : ∀ (u : Int32 × Int32 × Int32 × Int32 × Int32 × Int32 × (Nat → Int64) × (Nat → Int32) × Int32 × Int32 × Int32 × (Nat → Int32) × List Nat) (H : Heap) (locs : List Loc) (pc : Nat) (ls : Array Slot), decode b_M_command pc = .ok (.return_, 1) → (0 ≤ Int32.toInt u.1 ∧ Int32.toInt u.1 ≤ Int32.toInt ss ∧ 0 ≤ Int32.toInt u.2.2.1 ∧ Int32.toInt u.2.2.1 ≤ 400 ∧ -1 ≤ Int32.toInt u.2.2.2.1 ∧ Int32.toInt u.2.2.2.1 ≤ 400 ∧ (Int32.toInt u.2.2.2.1 < 0 ∨ (Int32.toInt u.2.1 = 0 ∧ Int32.toInt u.2.2.2.2.1 = 0)) ∧ 0 ≤ Int32.toInt u.2.2.2.2.2.1 ∧ Int32.toInt u.2.2.2.2.2.1 ≤ 400 ∧ SI u.2.2.2.2.2.2.2.2.2.2.2.2 u.2.2.2.1 u.2.2.2.2.1 u.2.2.2.2.2.2.2.2.2.2.2.1 ∧ PT ss sa0 so0 fa0 u.1 u.2.1 u.2.2.2.1 ∧ u.2.2.2.2.2.2.2.2.2.2.2.2.length ≤ LL0.length + 3 ∧ List.count 1 u.2.2.2.2.2.2.2.2.2.2.2.2 = List.count 1 LL0 ∧ List.count 6 u.2.2.2.2.2.2.2.2.2.2.2.2 = List.count 6 LL0) → va_P (dC, dI) cls (ME h g ss u.1 u.2.1 u.2.2.1 u.2.2.2.2.2.1 u.2.2.2.1 li u.2.2.2.2.2.2.2.2.2.2.1 u.2.2.2.2.2.2.2.2.1 u.2.2.2.2.2.2.2.2.2.1 bl te u.2.2.2.2.1 wo wz sr u.2.2.2.2.2.2.1 u.2.2.2.2.2.2.2.1 u.2.2.2.2.2.2.2.2.2.2.2.1) H → va_D A (ME h g ss u.1 u.2.1 u.2.2.1 u.2.2.2.2.2.1 u.2.2.2.1 li u.2.2.2.2.2.2.2.2.2.2.1 u.2.2.2.2.2.2.2.2.1 u.2.2.2.2.2.2.2.2.2.1 bl te u.2.2.2.2.1 wo wz sr u.2.2.2.2.2.2.1 u.2.2.2.2.2.2.2.1 u.2.2.2.2.2.2.2.2.2.2.2.1) → va_S A s.heap H locs → W p l e ({ frames := 8, cells := 0, slots := 0, locals := 176 } : Room) s m args below meth c H locs 0 0 Q (F0 m pc ls [])) : ∀ (sa : Int32) (so : Int32) (pl : Int32) (fa : Int32) (op : Int32) (si : Int32) (le : Nat → Int64) (tx : Nat → Int32) (st : Int32) (rq : Int32) (co : Int32) (ro : Nat → Int32) (LL : List Nat), sa = sa0 → so = so0 → fa = fa0 → LL = LL0 → 0 ≤ Int32.toInt sa → Int32.toInt sa ≤ Int32.toInt ss → 0 ≤ Int32.toInt pl → Int32.toInt pl ≤ 400 → -1 ≤ Int32.toInt fa → Int32.toInt fa ≤ 400 → (Int32.toInt fa < 0 ∨ (Int32.toInt so = 0 ∧ Int32.toInt op = 0)) → 0 ≤ Int32.toInt si → Int32.toInt si ≤ 400 → SI LL fa op ro → Int32.toInt fa < 0 → Int32.toInt so = 1 → LL.length ≤ 40 → wfp (3 :: LL) → ∀ (H : Heap) (locs : List Loc) (ls : Array Slot), va_P (dC, dI) cls (ME h g ss sa so pl si fa li co st rq bl te op wo wz sr le tx ro) H → va_D A (ME h g ss sa so pl si fa li co st rq bl te op wo wz sr le tx ro) → va_S A s.heap H locs → lv_has ls 2 [(0, .ref (h 0))] → W p l e ({ frames := 8, cells := 0, slots := 0, locals := 176 } : Room) s m args below meth c H locs 0 0 Q (F0 m 0 ls []) := by
  intro sa so pl fa op si le tx st rq co ro LL v_0 v_1 v_2 v_3 v_4 v_5 v_6 v_7 v_8 v_9 v_10 v_11 v_12 v_13 v_14 v_15 v_16 v_17 H locs ls hP hD hS hl
  subst v_0
  subst v_1
  subst v_2
  subst v_3
  refine lv_aload_n hx hb d_M_command_0 rfl (lv_at hl 0 rfl) ?_
  refine lv_iconst (v := 1) hx hb d_M_command_1 (by decide) ?_
  refine lv_bipush (v := 13) hx hb d_M_command_2 (by decide) ?_
  have hc_1 : Int32.toInt 1 = 1 := by decide
  have hc_13 : Int32.toInt 13 = 13 := by decide
  have hFc := va_free (wc := (ME h g ss sa so pl si fa li co st rq bl te op wo wz sr le tx ro)) hD hS hA [0, 1, 2, 3, 4, 5, 6] rfl
  refine va_calli (va_runV (As := [.int 1, .int 13]) (rest := []) ⟨hx, hb, hml, hown, ht⟩ (c_M_which l dC dI k h g ss sa so pl si fa li co st rq bl te op wo le wz sr tx ro 1 13 _ (by omega) (by omega) (by omega) ) (cwV 2 ht (g_V k_738 k_740 k_45 k_80 k_741) rfl rfl rfl (by decide +kernel) ⟨(Nat.le_of_ble_eq_true rfl), (Nat.le_of_ble_eq_true rfl)⟩) ⟨fb_X, va_recv hK hP (ci := 4) (q0 := 0) rfl rfl, pre_X hE hS hFc hP hK hD⟩ rfl rfl hl.1 rfl (lv_room (Nat.le_of_ble_eq_true rfl)) d_M_command_4 ⟨(Nat.le_of_ble_eq_true rfl), (Nat.le_of_ble_eq_true rfl)⟩) hS (fun q _ h9 => hFc q h9) hFc (fun r_167 u_166 t H locs het hvm hw hB hz1 hk1 hS => ?_)
  have p_168 := hw
  obtain ⟨hP1, hK1, hD1⟩ := hB
  rw [het] at hP1
  have hP : va_P (dC, dI) cls (ME h g ss sa so pl si fa li co st rq bl te op wo wz sr le tx ro) H := hP1
  have hD : va_D A (ME h g ss sa so pl si fa li co st rq bl te op wo wz sr le tx ro) := hD1.weaken (fun _ _ _ h9 => hFc _ h9)
  refine lv_istore_n (lv' := [(1, .int r_167), (0, .ref (h 0))]) hx hb d_M_command_7 rfl hl (by decide) rfl (fun ls hl => ?_)
  refine lv_iload_n hx hb d_M_command_8 rfl (lv_at hl 0 rfl) ?_
  refine lv_iconst (v := 1) hx hb d_M_command_9 (by decide) ?_
  refine lv_icmp_ne (tgt := 38) hx hb d_M_command_10 (by decide) (fun c_169 => ?_) (fun c_169 => ?_)
  · have dc_169 := i_ne c_169 rfl (show Int32.toInt 1 = 1 by decide)
    refine lv_iload_n hx hb d_M_command_38 rfl (lv_at hl 0 rfl) ?_
    refine lv_iconst (v := 4) hx hb d_M_command_39 (by decide) ?_
    refine lv_icmp_ge (tgt := 48) hx hb d_M_command_40 (by decide) (fun c_170 => ?_) (fun c_170 => ?_)
    · have dc_170 := i_le c_170 (show Int32.toInt 4 = 4 by decide) rfl
      refine lv_aload_n hx hb d_M_command_48 rfl (lv_at hl 1 rfl) ?_
      refine lv_iload_n hx hb d_M_command_49 rfl (lv_at hl 0 rfl) ?_
      refine lv_bipush (v := 7) hx hb d_M_command_50 (by decide) ?_
      refine lv_icmp_ne (tgt := 59) hx hb d_M_command_52 (by decide) (fun c_171 => ?_) (fun c_171 => ?_)
      · have dc_171 := i_ne c_171 rfl (show Int32.toInt 7 = 7 by decide)
        refine lv_iload_n hx hb d_M_command_59 rfl (lv_at hl 0 rfl) ?_
        refine lv_bipush (v := 9) hx hb d_M_command_60 (by decide) ?_
        refine lv_icmp_ne (tgt := 69) hx hb d_M_command_62 (by decide) (fun c_172 => ?_) (fun c_172 => ?_)
        · have dc_172 := i_ne c_172 rfl (show Int32.toInt 9 = 9 by decide)
          refine lv_iload_n hx hb d_M_command_69 rfl (lv_at hl 0 rfl) ?_
          refine lv_bipush (v := 9) hx hb d_M_command_70 (by decide) ?_
          refine lv_icmp_le (tgt := 86) hx hb d_M_command_72 (by decide) (fun c_173 => ?_) (fun c_173 => ?_)
          · have dc_173 := i_le c_173 rfl (show Int32.toInt 9 = 9 by decide)
            refine lv_iload_n hx hb d_M_command_86 rfl (lv_at hl 0 rfl) ?_
            refine lv_bipush (v := 13) hx hb d_M_command_87 (by decide) ?_
            refine lv_icmp_ne (tgt := 97) hx hb d_M_command_89 (by decide) (fun c_174 => ?_) (fun c_174 => ?_)
            · have dc_174 := i_ne c_174 rfl (show Int32.toInt 13 = 13 by decide)
              refine lv_iconst (v := 0) hx hb d_M_command_97 (by decide) ?_
              have hc_0 : Int32.toInt 0 = 0 := by decide
              have hFc := va_free (wc := (ME h g ss sa so pl si fa li co st rq bl te op wo wz sr le tx ro)) hD hS hA [0, 1, 2, 3, 4, 5, 6] rfl
              refine va_callv (va_runV (As := [.int 0]) (rest := []) ⟨hx, hb, hml, hown, ht⟩ (c_M_counting l dC dI k h g ss sa so pl si fa li co st rq bl te op wo le wz sr tx ro 0 _ (by omega) (by omega) (by omega) (by omega) (by omega)) (cwV 1 ht (g_V k_807 k_809 k_61 k_80 k_810) rfl rfl rfl (by decide +kernel) ⟨(Nat.le_of_ble_eq_true rfl), (Nat.le_of_ble_eq_true rfl)⟩) ⟨fb_X, va_recv hK hP (ci := 4) (q0 := 0) rfl rfl, pre_X hE hS hFc hP hK hD⟩ rfl rfl hl.1 rfl (lv_room (Nat.le_of_ble_eq_true rfl)) d_M_command_98 ⟨(Nat.le_of_ble_eq_true rfl), (Nat.le_of_ble_eq_true rfl)⟩) hS (fun q _ h9 => hFc q h9) hFc (fun u_179 t H locs het hvm hw hB hz1 hk1 hS => ?_)
              obtain ⟨so_175, fa_176, op_177, co_178⟩ := u_179
              try dsimp only at hw
              obtain ⟨p_181, p_182, p_183, p_184, p_185⟩ := hw
              obtain ⟨hP1, hK1, hD1⟩ := hB
              rw [het] at hP1
              have hP : va_P (dC, dI) cls (ME h g ss sa so_175 pl si fa_176 li co_178 st rq bl te op_177 wo wz sr le tx ro) H := hP1
              have hD : va_D A (ME h g ss sa so_175 pl si fa_176 li co_178 st rq bl te op_177 wo wz sr le tx ro) := hD1.weaken (fun _ _ _ h9 => hFc _ h9)
              have sk_186 : SI LL fa_176 op_177 ro := SI_pr v_13 p_184
              refine lv_aload_n hx hb d_M_command_101 rfl (lv_at hl 1 rfl) ?_
              have hFc := va_free (wc := (ME h g ss sa so_175 pl si fa_176 li co_178 st rq bl te op_177 wo wz sr le tx ro)) hD hS hA [0, 1, 2, 3, 4, 5, 6] rfl
              refine va_callv (va_runV (As := []) (rest := []) ⟨hx, hb, hml, hown, ht⟩ (c_M_next l dC dI k h g ss sa so_175 pl si fa_176 li co_178 st rq bl te op_177 wo le wz sr tx ro  _ (by omega) (by omega) (by omega) (by omega) (by omega) (by omega) (by omega) (by omega) (by omega) (by omega) (by omega)) (cwV 0 ht (g_V k_694 k_696 k_37 k_80 k_697) rfl rfl rfl (by decide +kernel) ⟨(Nat.le_of_ble_eq_true rfl), (Nat.le_of_ble_eq_true rfl)⟩) ⟨fb_X, va_recv hK hP (ci := 4) (q0 := 0) rfl rfl, pre_X hE hS hFc hP hK hD⟩ rfl rfl hl.1 rfl (lv_room (Nat.le_of_ble_eq_true rfl)) d_M_command_102 ⟨(Nat.le_of_ble_eq_true rfl), (Nat.le_of_ble_eq_true rfl)⟩) hS (fun q _ h9 => hFc q h9) hFc (fun u_195 t H locs het hvm hw hB hz1 hk1 hS => ?_)
              obtain ⟨sa_187, so_188, pl_189, fa_190, op_191, si_192, le_193, tx_194⟩ := u_195
              try dsimp only at hw
              obtain ⟨p_197, p_198, p_199, p_200, p_201, p_202, p_203, p_204, p_205, p_206, p_207⟩ := hw
              obtain ⟨hP1, hK1, hD1⟩ := hB
              rw [het] at hP1
              have hP : va_P (dC, dI) cls (ME h g ss sa_187 so_188 pl_189 si_192 fa_190 li co_178 st rq bl te op_191 wo wz sr le_193 tx_194 ro) H := hP1
              have hD : va_D A (ME h g ss sa_187 so_188 pl_189 si_192 fa_190 li co_178 st rq bl te op_191 wo wz sr le_193 tx_194 ro) := hD1.weaken (fun _ _ _ h9 => hFc _ h9)
              have sk_208 : SI LL fa_190 op_191 ro := SI_pr sk_186 p_206
              have rl_209 := p_207.resolve_right (by omega)
              have rl_210 := uUT p_184.pu rl_209.pt
              exact lp_M_command_105  (LL0 := LL) hx hb hml hown ht hE hA hK h_0 h_1 fin r_167 sa_187 so_188 pl_189 fa_190 op_191 si_192 le_193 tx_194 st rq co_178 ro LL rl_210 rfl (by omega) (by omega) (by omega) (by omega) (by omega) (by omega) (by omega) (by omega) (by omega) sk_208 _ _ ls hP hD hS (lv_sub hl [0, 1] rfl)
            · have dc_174 := i_eq c_174 rfl (show Int32.toInt 13 = 13 by decide)
              refine lv_bipush (v := 64) hx hb d_M_command_92 (by decide) ?_
              refine lv_goto (tgt := 98) hx hb d_M_command_94 (by decide) ?_
              have hc_64 : Int32.toInt 64 = 64 := by decide
              have hFc := va_free (wc := (ME h g ss sa so pl si fa li co st rq bl te op wo wz sr le tx ro)) hD hS hA [0, 1, 2, 3, 4, 5, 6] rfl
              refine va_callv (va_runV (As := [.int 64]) (rest := []) ⟨hx, hb, hml, hown, ht⟩ (c_M_counting l dC dI k h g ss sa so pl si fa li co st rq bl te op wo le wz sr tx ro 64 _ (by omega) (by omega) (by omega) (by omega) (by omega)) (cwV 1 ht (g_V k_807 k_809 k_61 k_80 k_810) rfl rfl rfl (by decide +kernel) ⟨(Nat.le_of_ble_eq_true rfl), (Nat.le_of_ble_eq_true rfl)⟩) ⟨fb_X, va_recv hK hP (ci := 4) (q0 := 0) rfl rfl, pre_X hE hS hFc hP hK hD⟩ rfl rfl hl.1 rfl (lv_room (Nat.le_of_ble_eq_true rfl)) d_M_command_98 ⟨(Nat.le_of_ble_eq_true rfl), (Nat.le_of_ble_eq_true rfl)⟩) hS (fun q _ h9 => hFc q h9) hFc (fun u_215 t H locs het hvm hw hB hz1 hk1 hS => ?_)
              obtain ⟨so_211, fa_212, op_213, co_214⟩ := u_215
              try dsimp only at hw
              obtain ⟨p_217, p_218, p_219, p_220, p_221⟩ := hw
              obtain ⟨hP1, hK1, hD1⟩ := hB
              rw [het] at hP1
              have hP : va_P (dC, dI) cls (ME h g ss sa so_211 pl si fa_212 li co_214 st rq bl te op_213 wo wz sr le tx ro) H := hP1
              have hD : va_D A (ME h g ss sa so_211 pl si fa_212 li co_214 st rq bl te op_213 wo wz sr le tx ro) := hD1.weaken (fun _ _ _ h9 => hFc _ h9)
              have sk_222 : SI LL fa_212 op_213 ro := SI_pr v_13 p_220
              refine lv_aload_n hx hb d_M_command_101 rfl (lv_at hl 1 rfl) ?_
              have hFc := va_free (wc := (ME h g ss sa so_211 pl si fa_212 li co_214 st rq bl te op_213 wo wz sr le tx ro)) hD hS hA [0, 1, 2, 3, 4, 5, 6] rfl
              refine va_callv (va_runV (As := []) (rest := []) ⟨hx, hb, hml, hown, ht⟩ (c_M_next l dC dI k h g ss sa so_211 pl si fa_212 li co_214 st rq bl te op_213 wo le wz sr tx ro  _ (by omega) (by omega) (by omega) (by omega) (by omega) (by omega) (by omega) (by omega) (by omega) (by omega) (by omega)) (cwV 0 ht (g_V k_694 k_696 k_37 k_80 k_697) rfl rfl rfl (by decide +kernel) ⟨(Nat.le_of_ble_eq_true rfl), (Nat.le_of_ble_eq_true rfl)⟩) ⟨fb_X, va_recv hK hP (ci := 4) (q0 := 0) rfl rfl, pre_X hE hS hFc hP hK hD⟩ rfl rfl hl.1 rfl (lv_room (Nat.le_of_ble_eq_true rfl)) d_M_command_102 ⟨(Nat.le_of_ble_eq_true rfl), (Nat.le_of_ble_eq_true rfl)⟩) hS (fun q _ h9 => hFc q h9) hFc (fun u_231 t H locs het hvm hw hB hz1 hk1 hS => ?_)
              obtain ⟨sa_223, so_224, pl_225, fa_226, op_227, si_228, le_229, tx_230⟩ := u_231
              try dsimp only at hw
              obtain ⟨p_233, p_234, p_235, p_236, p_237, p_238, p_239, p_240, p_241, p_242, p_243⟩ := hw
              obtain ⟨hP1, hK1, hD1⟩ := hB
              rw [het] at hP1
              have hP : va_P (dC, dI) cls (ME h g ss sa_223 so_224 pl_225 si_228 fa_226 li co_214 st rq bl te op_227 wo wz sr le_229 tx_230 ro) H := hP1
              have hD : va_D A (ME h g ss sa_223 so_224 pl_225 si_228 fa_226 li co_214 st rq bl te op_227 wo wz sr le_229 tx_230 ro) := hD1.weaken (fun _ _ _ h9 => hFc _ h9)
              have sk_244 : SI LL fa_226 op_227 ro := SI_pr sk_222 p_242
              have rl_245 := p_243.resolve_right (by omega)
              have rl_246 := uUT p_220.pu rl_245.pt
              exact lp_M_command_105  (LL0 := LL) hx hb hml hown ht hE hA hK h_0 h_1 fin r_167 sa_223 so_224 pl_225 fa_226 op_227 si_228 le_229 tx_230 st rq co_214 ro LL rl_246 rfl (by omega) (by omega) (by omega) (by omega) (by omega) (by omega) (by omega) (by omega) (by omega) sk_244 _ _ ls hP hD hS (lv_sub hl [0, 1] rfl)
          · have dc_173 := i_nle c_173 rfl (show Int32.toInt 9 = 9 by decide)
            refine lv_iload_n hx hb d_M_command_75 rfl (lv_at hl 0 rfl) ?_
            refine lv_bipush (v := 13) hx hb d_M_command_76 (by decide) ?_
            refine lv_icmp_ge (tgt := 86) hx hb d_M_command_78 (by decide) (fun c_247 => ?_) (fun c_247 => ?_)
            · have dc_247 := i_le c_247 (show Int32.toInt 13 = 13 by decide) rfl
              refine lv_iload_n hx hb d_M_command_86 rfl (lv_at hl 0 rfl) ?_
              refine lv_bipush (v := 13) hx hb d_M_command_87 (by decide) ?_
              refine lv_icmp_ne (tgt := 97) hx hb d_M_command_89 (by decide) (fun c_248 => ?_) (fun c_248 => ?_)
              · have dc_248 := i_ne c_248 rfl (show Int32.toInt 13 = 13 by decide)
                refine lv_iconst (v := 0) hx hb d_M_command_97 (by decide) ?_
                have hc_0 : Int32.toInt 0 = 0 := by decide
                have hFc := va_free (wc := (ME h g ss sa so pl si fa li co st rq bl te op wo wz sr le tx ro)) hD hS hA [0, 1, 2, 3, 4, 5, 6] rfl
                refine va_callv (va_runV (As := [.int 0]) (rest := []) ⟨hx, hb, hml, hown, ht⟩ (c_M_counting l dC dI k h g ss sa so pl si fa li co st rq bl te op wo le wz sr tx ro 0 _ (by omega) (by omega) (by omega) (by omega) (by omega)) (cwV 1 ht (g_V k_807 k_809 k_61 k_80 k_810) rfl rfl rfl (by decide +kernel) ⟨(Nat.le_of_ble_eq_true rfl), (Nat.le_of_ble_eq_true rfl)⟩) ⟨fb_X, va_recv hK hP (ci := 4) (q0 := 0) rfl rfl, pre_X hE hS hFc hP hK hD⟩ rfl rfl hl.1 rfl (lv_room (Nat.le_of_ble_eq_true rfl)) d_M_command_98 ⟨(Nat.le_of_ble_eq_true rfl), (Nat.le_of_ble_eq_true rfl)⟩) hS (fun q _ h9 => hFc q h9) hFc (fun u_253 t H locs het hvm hw hB hz1 hk1 hS => ?_)
                obtain ⟨so_249, fa_250, op_251, co_252⟩ := u_253
                try dsimp only at hw
                obtain ⟨p_255, p_256, p_257, p_258, p_259⟩ := hw
                obtain ⟨hP1, hK1, hD1⟩ := hB
                rw [het] at hP1
                have hP : va_P (dC, dI) cls (ME h g ss sa so_249 pl si fa_250 li co_252 st rq bl te op_251 wo wz sr le tx ro) H := hP1
                have hD : va_D A (ME h g ss sa so_249 pl si fa_250 li co_252 st rq bl te op_251 wo wz sr le tx ro) := hD1.weaken (fun _ _ _ h9 => hFc _ h9)
                have sk_260 : SI LL fa_250 op_251 ro := SI_pr v_13 p_258
                refine lv_aload_n hx hb d_M_command_101 rfl (lv_at hl 1 rfl) ?_
                have hFc := va_free (wc := (ME h g ss sa so_249 pl si fa_250 li co_252 st rq bl te op_251 wo wz sr le tx ro)) hD hS hA [0, 1, 2, 3, 4, 5, 6] rfl
                refine va_callv (va_runV (As := []) (rest := []) ⟨hx, hb, hml, hown, ht⟩ (c_M_next l dC dI k h g ss sa so_249 pl si fa_250 li co_252 st rq bl te op_251 wo le wz sr tx ro  _ (by omega) (by omega) (by omega) (by omega) (by omega) (by omega) (by omega) (by omega) (by omega) (by omega) (by omega)) (cwV 0 ht (g_V k_694 k_696 k_37 k_80 k_697) rfl rfl rfl (by decide +kernel) ⟨(Nat.le_of_ble_eq_true rfl), (Nat.le_of_ble_eq_true rfl)⟩) ⟨fb_X, va_recv hK hP (ci := 4) (q0 := 0) rfl rfl, pre_X hE hS hFc hP hK hD⟩ rfl rfl hl.1 rfl (lv_room (Nat.le_of_ble_eq_true rfl)) d_M_command_102 ⟨(Nat.le_of_ble_eq_true rfl), (Nat.le_of_ble_eq_true rfl)⟩) hS (fun q _ h9 => hFc q h9) hFc (fun u_269 t H locs het hvm hw hB hz1 hk1 hS => ?_)
                obtain ⟨sa_261, so_262, pl_263, fa_264, op_265, si_266, le_267, tx_268⟩ := u_269
                try dsimp only at hw
                obtain ⟨p_271, p_272, p_273, p_274, p_275, p_276, p_277, p_278, p_279, p_280, p_281⟩ := hw
                obtain ⟨hP1, hK1, hD1⟩ := hB
                rw [het] at hP1
                have hP : va_P (dC, dI) cls (ME h g ss sa_261 so_262 pl_263 si_266 fa_264 li co_252 st rq bl te op_265 wo wz sr le_267 tx_268 ro) H := hP1
                have hD : va_D A (ME h g ss sa_261 so_262 pl_263 si_266 fa_264 li co_252 st rq bl te op_265 wo wz sr le_267 tx_268 ro) := hD1.weaken (fun _ _ _ h9 => hFc _ h9)
                have sk_282 : SI LL fa_264 op_265 ro := SI_pr sk_260 p_280
                have rl_283 := p_281.resolve_right (by omega)
                have rl_284 := uUT p_258.pu rl_283.pt
                exact lp_M_command_105  (LL0 := LL) hx hb hml hown ht hE hA hK h_0 h_1 fin r_167 sa_261 so_262 pl_263 fa_264 op_265 si_266 le_267 tx_268 st rq co_252 ro LL rl_284 rfl (by omega) (by omega) (by omega) (by omega) (by omega) (by omega) (by omega) (by omega) (by omega) sk_282 _ _ ls hP hD hS (lv_sub hl [0, 1] rfl)
              · have dc_248 := i_eq c_248 rfl (show Int32.toInt 13 = 13 by decide)
                refine lv_bipush (v := 64) hx hb d_M_command_92 (by decide) ?_
                refine lv_goto (tgt := 98) hx hb d_M_command_94 (by decide) ?_
                have hc_64 : Int32.toInt 64 = 64 := by decide
                have hFc := va_free (wc := (ME h g ss sa so pl si fa li co st rq bl te op wo wz sr le tx ro)) hD hS hA [0, 1, 2, 3, 4, 5, 6] rfl
                refine va_callv (va_runV (As := [.int 64]) (rest := []) ⟨hx, hb, hml, hown, ht⟩ (c_M_counting l dC dI k h g ss sa so pl si fa li co st rq bl te op wo le wz sr tx ro 64 _ (by omega) (by omega) (by omega) (by omega) (by omega)) (cwV 1 ht (g_V k_807 k_809 k_61 k_80 k_810) rfl rfl rfl (by decide +kernel) ⟨(Nat.le_of_ble_eq_true rfl), (Nat.le_of_ble_eq_true rfl)⟩) ⟨fb_X, va_recv hK hP (ci := 4) (q0 := 0) rfl rfl, pre_X hE hS hFc hP hK hD⟩ rfl rfl hl.1 rfl (lv_room (Nat.le_of_ble_eq_true rfl)) d_M_command_98 ⟨(Nat.le_of_ble_eq_true rfl), (Nat.le_of_ble_eq_true rfl)⟩) hS (fun q _ h9 => hFc q h9) hFc (fun u_289 t H locs het hvm hw hB hz1 hk1 hS => ?_)
                obtain ⟨so_285, fa_286, op_287, co_288⟩ := u_289
                try dsimp only at hw
                obtain ⟨p_291, p_292, p_293, p_294, p_295⟩ := hw
                obtain ⟨hP1, hK1, hD1⟩ := hB
                rw [het] at hP1
                have hP : va_P (dC, dI) cls (ME h g ss sa so_285 pl si fa_286 li co_288 st rq bl te op_287 wo wz sr le tx ro) H := hP1
                have hD : va_D A (ME h g ss sa so_285 pl si fa_286 li co_288 st rq bl te op_287 wo wz sr le tx ro) := hD1.weaken (fun _ _ _ h9 => hFc _ h9)
                have sk_296 : SI LL fa_286 op_287 ro := SI_pr v_13 p_294
                refine lv_aload_n hx hb d_M_command_101 rfl (lv_at hl 1 rfl) ?_
                have hFc := va_free (wc := (ME h g ss sa so_285 pl si fa_286 li co_288 st rq bl te op_287 wo wz sr le tx ro)) hD hS hA [0, 1, 2, 3, 4, 5, 6] rfl
                refine va_callv (va_runV (As := []) (rest := []) ⟨hx, hb, hml, hown, ht⟩ (c_M_next l dC dI k h g ss sa so_285 pl si fa_286 li co_288 st rq bl te op_287 wo le wz sr tx ro  _ (by omega) (by omega) (by omega) (by omega) (by omega) (by omega) (by omega) (by omega) (by omega) (by omega) (by omega)) (cwV 0 ht (g_V k_694 k_696 k_37 k_80 k_697) rfl rfl rfl (by decide +kernel) ⟨(Nat.le_of_ble_eq_true rfl), (Nat.le_of_ble_eq_true rfl)⟩) ⟨fb_X, va_recv hK hP (ci := 4) (q0 := 0) rfl rfl, pre_X hE hS hFc hP hK hD⟩ rfl rfl hl.1 rfl (lv_room (Nat.le_of_ble_eq_true rfl)) d_M_command_102 ⟨(Nat.le_of_ble_eq_true rfl), (Nat.le_of_ble_eq_true rfl)⟩) hS (fun q _ h9 => hFc q h9) hFc (fun u_305 t H locs het hvm hw hB hz1 hk1 hS => ?_)
                obtain ⟨sa_297, so_298, pl_299, fa_300, op_301, si_302, le_303, tx_304⟩ := u_305
                try dsimp only at hw
                obtain ⟨p_307, p_308, p_309, p_310, p_311, p_312, p_313, p_314, p_315, p_316, p_317⟩ := hw
                obtain ⟨hP1, hK1, hD1⟩ := hB
                rw [het] at hP1
                have hP : va_P (dC, dI) cls (ME h g ss sa_297 so_298 pl_299 si_302 fa_300 li co_288 st rq bl te op_301 wo wz sr le_303 tx_304 ro) H := hP1
                have hD : va_D A (ME h g ss sa_297 so_298 pl_299 si_302 fa_300 li co_288 st rq bl te op_301 wo wz sr le_303 tx_304 ro) := hD1.weaken (fun _ _ _ h9 => hFc _ h9)
                have sk_318 : SI LL fa_300 op_301 ro := SI_pr sk_296 p_316
                have rl_319 := p_317.resolve_right (by omega)
                have rl_320 := uUT p_294.pu rl_319.pt
                exact lp_M_command_105  (LL0 := LL) hx hb hml hown ht hE hA hK h_0 h_1 fin r_167 sa_297 so_298 pl_299 fa_300 op_301 si_302 le_303 tx_304 st rq co_288 ro LL rl_320 rfl (by omega) (by omega) (by omega) (by omega) (by omega) (by omega) (by omega) (by omega) (by omega) sk_318 _ _ ls hP hD hS (lv_sub hl [0, 1] rfl)
            · have dc_247 := i_nle c_247 (show Int32.toInt 13 = 13 by decide) rfl
              refine lv_bipush (v := 16) hx hb d_M_command_81 (by decide) ?_
              refine lv_goto (tgt := 98) hx hb d_M_command_83 (by decide) ?_
              have hc_16 : Int32.toInt 16 = 16 := by decide
              have hFc := va_free (wc := (ME h g ss sa so pl si fa li co st rq bl te op wo wz sr le tx ro)) hD hS hA [0, 1, 2, 3, 4, 5, 6] rfl
              refine va_callv (va_runV (As := [.int 16]) (rest := []) ⟨hx, hb, hml, hown, ht⟩ (c_M_counting l dC dI k h g ss sa so pl si fa li co st rq bl te op wo le wz sr tx ro 16 _ (by omega) (by omega) (by omega) (by omega) (by omega)) (cwV 1 ht (g_V k_807 k_809 k_61 k_80 k_810) rfl rfl rfl (by decide +kernel) ⟨(Nat.le_of_ble_eq_true rfl), (Nat.le_of_ble_eq_true rfl)⟩) ⟨fb_X, va_recv hK hP (ci := 4) (q0 := 0) rfl rfl, pre_X hE hS hFc hP hK hD⟩ rfl rfl hl.1 rfl (lv_room (Nat.le_of_ble_eq_true rfl)) d_M_command_98 ⟨(Nat.le_of_ble_eq_true rfl), (Nat.le_of_ble_eq_true rfl)⟩) hS (fun q _ h9 => hFc q h9) hFc (fun u_325 t H locs het hvm hw hB hz1 hk1 hS => ?_)
              obtain ⟨so_321, fa_322, op_323, co_324⟩ := u_325
              try dsimp only at hw
              obtain ⟨p_327, p_328, p_329, p_330, p_331⟩ := hw
              obtain ⟨hP1, hK1, hD1⟩ := hB
              rw [het] at hP1
              have hP : va_P (dC, dI) cls (ME h g ss sa so_321 pl si fa_322 li co_324 st rq bl te op_323 wo wz sr le tx ro) H := hP1
              have hD : va_D A (ME h g ss sa so_321 pl si fa_322 li co_324 st rq bl te op_323 wo wz sr le tx ro) := hD1.weaken (fun _ _ _ h9 => hFc _ h9)
              have sk_332 : SI LL fa_322 op_323 ro := SI_pr v_13 p_330
              refine lv_aload_n hx hb d_M_command_101 rfl (lv_at hl 1 rfl) ?_
              have hFc := va_free (wc := (ME h g ss sa so_321 pl si fa_322 li co_324 st rq bl te op_323 wo wz sr le tx ro)) hD hS hA [0, 1, 2, 3, 4, 5, 6] rfl
              refine va_callv (va_runV (As := []) (rest := []) ⟨hx, hb, hml, hown, ht⟩ (c_M_next l dC dI k h g ss sa so_321 pl si fa_322 li co_324 st rq bl te op_323 wo le wz sr tx ro  _ (by omega) (by omega) (by omega) (by omega) (by omega) (by omega) (by omega) (by omega) (by omega) (by omega) (by omega)) (cwV 0 ht (g_V k_694 k_696 k_37 k_80 k_697) rfl rfl rfl (by decide +kernel) ⟨(Nat.le_of_ble_eq_true rfl), (Nat.le_of_ble_eq_true rfl)⟩) ⟨fb_X, va_recv hK hP (ci := 4) (q0 := 0) rfl rfl, pre_X hE hS hFc hP hK hD⟩ rfl rfl hl.1 rfl (lv_room (Nat.le_of_ble_eq_true rfl)) d_M_command_102 ⟨(Nat.le_of_ble_eq_true rfl), (Nat.le_of_ble_eq_true rfl)⟩) hS (fun q _ h9 => hFc q h9) hFc (fun u_341 t H locs het hvm hw hB hz1 hk1 hS => ?_)
              obtain ⟨sa_333, so_334, pl_335, fa_336, op_337, si_338, le_339, tx_340⟩ := u_341
              try dsimp only at hw
              obtain ⟨p_343, p_344, p_345, p_346, p_347, p_348, p_349, p_350, p_351, p_352, p_353⟩ := hw
              obtain ⟨hP1, hK1, hD1⟩ := hB
              rw [het] at hP1
              have hP : va_P (dC, dI) cls (ME h g ss sa_333 so_334 pl_335 si_338 fa_336 li co_324 st rq bl te op_337 wo wz sr le_339 tx_340 ro) H := hP1
              have hD : va_D A (ME h g ss sa_333 so_334 pl_335 si_338 fa_336 li co_324 st rq bl te op_337 wo wz sr le_339 tx_340 ro) := hD1.weaken (fun _ _ _ h9 => hFc _ h9)
              have sk_354 : SI LL fa_336 op_337 ro := SI_pr sk_332 p_352
              have rl_355 := p_353.resolve_right (by omega)
              have rl_356 := uUT p_330.pu rl_355.pt
              exact lp_M_command_105  (LL0 := LL) hx hb hml hown ht hE hA hK h_0 h_1 fin r_167 sa_333 so_334 pl_335 fa_336 op_337 si_338 le_339 tx_340 st rq co_324 ro LL rl_356 rfl (by omega) (by omega) (by omega) (by omega) (by omega) (by omega) (by omega) (by omega) (by omega) sk_354 _ _ ls hP hD hS (lv_sub hl [0, 1] rfl)
        · have dc_172 := i_eq c_172 rfl (show Int32.toInt 9 = 9 by decide)
          refine lv_iconst (v := 2) hx hb d_M_command_65 (by decide) ?_
          refine lv_goto (tgt := 98) hx hb d_M_command_66 (by decide) ?_
          have hc_2 : Int32.toInt 2 = 2 := by decide
          have hFc := va_free (wc := (ME h g ss sa so pl si fa li co st rq bl te op wo wz sr le tx ro)) hD hS hA [0, 1, 2, 3, 4, 5, 6] rfl
          refine va_callv (va_runV (As := [.int 2]) (rest := []) ⟨hx, hb, hml, hown, ht⟩ (c_M_counting l dC dI k h g ss sa so pl si fa li co st rq bl te op wo le wz sr tx ro 2 _ (by omega) (by omega) (by omega) (by omega) (by omega)) (cwV 1 ht (g_V k_807 k_809 k_61 k_80 k_810) rfl rfl rfl (by decide +kernel) ⟨(Nat.le_of_ble_eq_true rfl), (Nat.le_of_ble_eq_true rfl)⟩) ⟨fb_X, va_recv hK hP (ci := 4) (q0 := 0) rfl rfl, pre_X hE hS hFc hP hK hD⟩ rfl rfl hl.1 rfl (lv_room (Nat.le_of_ble_eq_true rfl)) d_M_command_98 ⟨(Nat.le_of_ble_eq_true rfl), (Nat.le_of_ble_eq_true rfl)⟩) hS (fun q _ h9 => hFc q h9) hFc (fun u_361 t H locs het hvm hw hB hz1 hk1 hS => ?_)
          obtain ⟨so_357, fa_358, op_359, co_360⟩ := u_361
          try dsimp only at hw
          obtain ⟨p_363, p_364, p_365, p_366, p_367⟩ := hw
          obtain ⟨hP1, hK1, hD1⟩ := hB
          rw [het] at hP1
          have hP : va_P (dC, dI) cls (ME h g ss sa so_357 pl si fa_358 li co_360 st rq bl te op_359 wo wz sr le tx ro) H := hP1
          have hD : va_D A (ME h g ss sa so_357 pl si fa_358 li co_360 st rq bl te op_359 wo wz sr le tx ro) := hD1.weaken (fun _ _ _ h9 => hFc _ h9)
          have sk_368 : SI LL fa_358 op_359 ro := SI_pr v_13 p_366
          refine lv_aload_n hx hb d_M_command_101 rfl (lv_at hl 1 rfl) ?_
          have hFc := va_free (wc := (ME h g ss sa so_357 pl si fa_358 li co_360 st rq bl te op_359 wo wz sr le tx ro)) hD hS hA [0, 1, 2, 3, 4, 5, 6] rfl
          refine va_callv (va_runV (As := []) (rest := []) ⟨hx, hb, hml, hown, ht⟩ (c_M_next l dC dI k h g ss sa so_357 pl si fa_358 li co_360 st rq bl te op_359 wo le wz sr tx ro  _ (by omega) (by omega) (by omega) (by omega) (by omega) (by omega) (by omega) (by omega) (by omega) (by omega) (by omega)) (cwV 0 ht (g_V k_694 k_696 k_37 k_80 k_697) rfl rfl rfl (by decide +kernel) ⟨(Nat.le_of_ble_eq_true rfl), (Nat.le_of_ble_eq_true rfl)⟩) ⟨fb_X, va_recv hK hP (ci := 4) (q0 := 0) rfl rfl, pre_X hE hS hFc hP hK hD⟩ rfl rfl hl.1 rfl (lv_room (Nat.le_of_ble_eq_true rfl)) d_M_command_102 ⟨(Nat.le_of_ble_eq_true rfl), (Nat.le_of_ble_eq_true rfl)⟩) hS (fun q _ h9 => hFc q h9) hFc (fun u_377 t H locs het hvm hw hB hz1 hk1 hS => ?_)
          obtain ⟨sa_369, so_370, pl_371, fa_372, op_373, si_374, le_375, tx_376⟩ := u_377
          try dsimp only at hw
          obtain ⟨p_379, p_380, p_381, p_382, p_383, p_384, p_385, p_386, p_387, p_388, p_389⟩ := hw
          obtain ⟨hP1, hK1, hD1⟩ := hB
          rw [het] at hP1
          have hP : va_P (dC, dI) cls (ME h g ss sa_369 so_370 pl_371 si_374 fa_372 li co_360 st rq bl te op_373 wo wz sr le_375 tx_376 ro) H := hP1
          have hD : va_D A (ME h g ss sa_369 so_370 pl_371 si_374 fa_372 li co_360 st rq bl te op_373 wo wz sr le_375 tx_376 ro) := hD1.weaken (fun _ _ _ h9 => hFc _ h9)
          have sk_390 : SI LL fa_372 op_373 ro := SI_pr sk_368 p_388
          have rl_391 := p_389.resolve_right (by omega)
          have rl_392 := uUT p_366.pu rl_391.pt
          exact lp_M_command_105  (LL0 := LL) hx hb hml hown ht hE hA hK h_0 h_1 fin r_167 sa_369 so_370 pl_371 fa_372 op_373 si_374 le_375 tx_376 st rq co_360 ro LL rl_392 rfl (by omega) (by omega) (by omega) (by omega) (by omega) (by omega) (by omega) (by omega) (by omega) sk_390 _ _ ls hP hD hS (lv_sub hl [0, 1] rfl)
      · have dc_171 := i_eq c_171 rfl (show Int32.toInt 7 = 7 by decide)
        refine lv_iconst (v := 1) hx hb d_M_command_55 (by decide) ?_
        refine lv_goto (tgt := 98) hx hb d_M_command_56 (by decide) ?_
        have hFc := va_free (wc := (ME h g ss sa so pl si fa li co st rq bl te op wo wz sr le tx ro)) hD hS hA [0, 1, 2, 3, 4, 5, 6] rfl
        refine va_callv (va_runV (As := [.int 1]) (rest := []) ⟨hx, hb, hml, hown, ht⟩ (c_M_counting l dC dI k h g ss sa so pl si fa li co st rq bl te op wo le wz sr tx ro 1 _ (by omega) (by omega) (by omega) (by omega) (by omega)) (cwV 1 ht (g_V k_807 k_809 k_61 k_80 k_810) rfl rfl rfl (by decide +kernel) ⟨(Nat.le_of_ble_eq_true rfl), (Nat.le_of_ble_eq_true rfl)⟩) ⟨fb_X, va_recv hK hP (ci := 4) (q0 := 0) rfl rfl, pre_X hE hS hFc hP hK hD⟩ rfl rfl hl.1 rfl (lv_room (Nat.le_of_ble_eq_true rfl)) d_M_command_98 ⟨(Nat.le_of_ble_eq_true rfl), (Nat.le_of_ble_eq_true rfl)⟩) hS (fun q _ h9 => hFc q h9) hFc (fun u_397 t H locs het hvm hw hB hz1 hk1 hS => ?_)
        obtain ⟨so_393, fa_394, op_395, co_396⟩ := u_397
        try dsimp only at hw
        obtain ⟨p_399, p_400, p_401, p_402, p_403⟩ := hw
        obtain ⟨hP1, hK1, hD1⟩ := hB
        rw [het] at hP1
        have hP : va_P (dC, dI) cls (ME h g ss sa so_393 pl si fa_394 li co_396 st rq bl te op_395 wo wz sr le tx ro) H := hP1
        have hD : va_D A (ME h g ss sa so_393 pl si fa_394 li co_396 st rq bl te op_395 wo wz sr le tx ro) := hD1.weaken (fun _ _ _ h9 => hFc _ h9)
        have sk_404 : SI LL fa_394 op_395 ro := SI_pr v_13 p_402
        refine lv_aload_n hx hb d_M_command_101 rfl (lv_at hl 1 rfl) ?_
        have hFc := va_free (wc := (ME h g ss sa so_393 pl si fa_394 li co_396 st rq bl te op_395 wo wz sr le tx ro)) hD hS hA [0, 1, 2, 3, 4, 5, 6] rfl
        refine va_callv (va_runV (As := []) (rest := []) ⟨hx, hb, hml, hown, ht⟩ (c_M_next l dC dI k h g ss sa so_393 pl si fa_394 li co_396 st rq bl te op_395 wo le wz sr tx ro  _ (by omega) (by omega) (by omega) (by omega) (by omega) (by omega) (by omega) (by omega) (by omega) (by omega) (by omega)) (cwV 0 ht (g_V k_694 k_696 k_37 k_80 k_697) rfl rfl rfl (by decide +kernel) ⟨(Nat.le_of_ble_eq_true rfl), (Nat.le_of_ble_eq_true rfl)⟩) ⟨fb_X, va_recv hK hP (ci := 4) (q0 := 0) rfl rfl, pre_X hE hS hFc hP hK hD⟩ rfl rfl hl.1 rfl (lv_room (Nat.le_of_ble_eq_true rfl)) d_M_command_102 ⟨(Nat.le_of_ble_eq_true rfl), (Nat.le_of_ble_eq_true rfl)⟩) hS (fun q _ h9 => hFc q h9) hFc (fun u_413 t H locs het hvm hw hB hz1 hk1 hS => ?_)
        obtain ⟨sa_405, so_406, pl_407, fa_408, op_409, si_410, le_411, tx_412⟩ := u_413
        try dsimp only at hw
        obtain ⟨p_415, p_416, p_417, p_418, p_419, p_420, p_421, p_422, p_423, p_424, p_425⟩ := hw
        obtain ⟨hP1, hK1, hD1⟩ := hB
        rw [het] at hP1
        have hP : va_P (dC, dI) cls (ME h g ss sa_405 so_406 pl_407 si_410 fa_408 li co_396 st rq bl te op_409 wo wz sr le_411 tx_412 ro) H := hP1
        have hD : va_D A (ME h g ss sa_405 so_406 pl_407 si_410 fa_408 li co_396 st rq bl te op_409 wo wz sr le_411 tx_412 ro) := hD1.weaken (fun _ _ _ h9 => hFc _ h9)
        have sk_426 : SI LL fa_408 op_409 ro := SI_pr sk_404 p_424
        have rl_427 := p_425.resolve_right (by omega)
        have rl_428 := uUT p_402.pu rl_427.pt
        exact lp_M_command_105  (LL0 := LL) hx hb hml hown ht hE hA hK h_0 h_1 fin r_167 sa_405 so_406 pl_407 fa_408 op_409 si_410 le_411 tx_412 st rq co_396 ro LL rl_428 rfl (by omega) (by omega) (by omega) (by omega) (by omega) (by omega) (by omega) (by omega) (by omega) sk_426 _ _ ls hP hD hS (lv_sub hl [0, 1] rfl)
    · have dc_170 := i_nle c_170 (show Int32.toInt 4 = 4 by decide) rfl
      refine lv_aload_n hx hb d_M_command_43 rfl (lv_at hl 1 rfl) ?_
      have hFc := va_free (wc := (ME h g ss sa so pl si fa li co st rq bl te op wo wz sr le tx ro)) hD hS hA [0, 1, 2, 3, 4, 5, 6] rfl
      refine va_callv (va_runV (As := []) (rest := []) ⟨hx, hb, hml, hown, ht⟩ (c_M_fail l dC dI k h g ss sa so pl si fa li co st rq bl te op wo le wz sr tx ro  _ (by omega) (by omega) (by omega) (by omega)) (cwV 0 ht (g_V k_763 k_765 k_50 k_80 k_766) rfl rfl rfl (by decide +kernel) ⟨(Nat.le_of_ble_eq_true rfl), (Nat.le_of_ble_eq_true rfl)⟩) ⟨fb_X, va_recv hK hP (ci := 4) (q0 := 0) rfl rfl, pre_X hE hS hFc hP hK hD⟩ rfl rfl hl.1 rfl (lv_room (Nat.le_of_ble_eq_true rfl)) d_M_command_44 ⟨(Nat.le_of_ble_eq_true rfl), (Nat.le_of_ble_eq_true rfl)⟩) hS (fun q _ h9 => hFc q h9) hFc (fun u_432 t H locs het hvm hw hB hz1 hk1 hS => ?_)
      obtain ⟨so_429, fa_430, op_431⟩ := u_432
      try dsimp only at hw
      obtain ⟨p_434, p_435, p_436, p_437, p_438, p_439⟩ := hw
      obtain ⟨hP1, hK1, hD1⟩ := hB
      rw [het] at hP1
      have hP : va_P (dC, dI) cls (ME h g ss sa so_429 pl si fa_430 li co st rq bl te op_431 wo wz sr le tx ro) H := hP1
      have hD : va_D A (ME h g ss sa so_429 pl si fa_430 li co st rq bl te op_431 wo wz sr le tx ro) := hD1.weaken (fun _ _ _ h9 => hFc _ h9)
      have sk_440 : SI LL fa_430 op_431 ro := SI_fault (by omega)
      have rl_441 : PS ss sa so fa op sa so_429 fa_430 op_431 := pr_out (by omega) (by omega) (by omega) _ _ _ _ (by omega)
      exact fin  (sa, so_429, pl, fa_430, op_431, si, le, tx, st, rq, co, ro, LL) _ _ _ ls d_M_command_47 ⟨(by (try dsimp only); omega), (by (try dsimp only); omega), (by (try dsimp only); omega), (by (try dsimp only); omega), (by (try dsimp only); omega), (by (try dsimp only); omega), (by (try dsimp only); omega), (by (try dsimp only); omega), (by (try dsimp only); omega), sk_440, rl_441.pt, (by (try dsimp only); (try simp only [List.length_cons]); omega), (by first | rfl | (simp [List.count_cons]; done)), (by first | rfl | (simp [List.count_cons]; done))⟩ hP hD hS
  · have dc_169 := i_eq c_169 rfl (show Int32.toInt 1 = 1 by decide)
    refine lv_aload_n hx hb d_M_command_13 rfl (lv_at hl 1 rfl) ?_
    refine lv_iconst (v := 0) hx hb d_M_command_14 (by decide) ?_
    have hc_0 : Int32.toInt 0 = 0 := by decide
    have hFc := va_free (wc := (ME h g ss sa so pl si fa li co st rq bl te op wo wz sr le tx ro)) hD hS hA [0, 1, 2, 3, 4, 5, 6] rfl
    refine va_callv (va_runV (As := [.int 0]) (rest := []) ⟨hx, hb, hml, hown, ht⟩ (c_M_counting l dC dI k h g ss sa so pl si fa li co st rq bl te op wo le wz sr tx ro 0 _ (by omega) (by omega) (by omega) (by omega) (by omega)) (cwV 1 ht (g_V k_807 k_809 k_61 k_80 k_810) rfl rfl rfl (by decide +kernel) ⟨(Nat.le_of_ble_eq_true rfl), (Nat.le_of_ble_eq_true rfl)⟩) ⟨fb_X, va_recv hK hP (ci := 4) (q0 := 0) rfl rfl, pre_X hE hS hFc hP hK hD⟩ rfl rfl hl.1 rfl (lv_room (Nat.le_of_ble_eq_true rfl)) d_M_command_15 ⟨(Nat.le_of_ble_eq_true rfl), (Nat.le_of_ble_eq_true rfl)⟩) hS (fun q _ h9 => hFc q h9) hFc (fun u_446 t H locs het hvm hw hB hz1 hk1 hS => ?_)
    obtain ⟨so_442, fa_443, op_444, co_445⟩ := u_446
    try dsimp only at hw
    obtain ⟨p_448, p_449, p_450, p_451, p_452⟩ := hw
    obtain ⟨hP1, hK1, hD1⟩ := hB
    rw [het] at hP1
    have hP : va_P (dC, dI) cls (ME h g ss sa so_442 pl si fa_443 li co_445 st rq bl te op_444 wo wz sr le tx ro) H := hP1
    have hD : va_D A (ME h g ss sa so_442 pl si fa_443 li co_445 st rq bl te op_444 wo wz sr le tx ro) := hD1.weaken (fun _ _ _ h9 => hFc _ h9)
    have sk_453 : SI LL fa_443 op_444 ro := SI_pr v_13 p_451
    refine lv_aload_n hx hb d_M_command_18 rfl (lv_at hl 1 rfl) ?_
    have hFc := va_free (wc := (ME h g ss sa so_442 pl si fa_443 li co_445 st rq bl te op_444 wo wz sr le tx ro)) hD hS hA [0, 1, 2, 3, 4, 5, 6] rfl
    refine va_callv (va_runV (As := []) (rest := []) ⟨hx, hb, hml, hown, ht⟩ (c_M_next l dC dI k h g ss sa so_442 pl si fa_443 li co_445 st rq bl te op_444 wo le wz sr tx ro  _ (by omega) (by omega) (by omega) (by omega) (by omega) (by omega) (by omega) (by omega) (by omega) (by omega) (by omega)) (cwV 0 ht (g_V k_694 k_696 k_37 k_80 k_697) rfl rfl rfl (by decide +kernel) ⟨(Nat.le_of_ble_eq_true rfl), (Nat.le_of_ble_eq_true rfl)⟩) ⟨fb_X, va_recv hK hP (ci := 4) (q0 := 0) rfl rfl, pre_X hE hS hFc hP hK hD⟩ rfl rfl hl.1 rfl (lv_room (Nat.le_of_ble_eq_true rfl)) d_M_command_19 ⟨(Nat.le_of_ble_eq_true rfl), (Nat.le_of_ble_eq_true rfl)⟩) hS (fun q _ h9 => hFc q h9) hFc (fun u_462 t H locs het hvm hw hB hz1 hk1 hS => ?_)
    obtain ⟨sa_454, so_455, pl_456, fa_457, op_458, si_459, le_460, tx_461⟩ := u_462
    try dsimp only at hw
    obtain ⟨p_464, p_465, p_466, p_467, p_468, p_469, p_470, p_471, p_472, p_473, p_474⟩ := hw
    obtain ⟨hP1, hK1, hD1⟩ := hB
    rw [het] at hP1
    have hP : va_P (dC, dI) cls (ME h g ss sa_454 so_455 pl_456 si_459 fa_457 li co_445 st rq bl te op_458 wo wz sr le_460 tx_461 ro) H := hP1
    have hD : va_D A (ME h g ss sa_454 so_455 pl_456 si_459 fa_457 li co_445 st rq bl te op_458 wo wz sr le_460 tx_461 ro) := hD1.weaken (fun _ _ _ h9 => hFc _ h9)
    have sk_475 : SI LL fa_457 op_458 ro := SI_pr sk_453 p_473
    have rl_476 := p_474.resolve_right (by omega)
    have rl_477 := uUT p_451.pu rl_476.pt
    refine lv_aload_n hx hb d_M_command_22 rfl (lv_at hl 1 rfl) ?_
    refine lv_iconst (v := 3) hx hb d_M_command_23 (by decide) ?_
    have sl_478 := SI_op sk_475
    try simp only [List.length_cons, List.length_nil] at sl_478
    have hFc := va_free (wc := (ME h g ss sa_454 so_455 pl_456 si_459 fa_457 li co_445 st rq bl te op_458 wo wz sr le_460 tx_461 ro)) hD hS hA [0, 1, 2, 3, 4, 5, 6] rfl
    refine va_callv (va_runV (As := [.int 3]) (rest := []) ⟨hx, hb, hml, hown, ht⟩ (c_M_push l dC dI k h g ss sa_454 so_455 pl_456 si_459 fa_457 li co_445 st rq bl te op_458 wo le_460 wz sr tx_461 ro 3 _ (by omega) (by omega) (by omega) (by omega)) (cwV 1 ht (g_V k_795 k_797 k_58 k_80 k_798) rfl rfl rfl (by decide +kernel) ⟨(Nat.le_of_ble_eq_true rfl), (Nat.le_of_ble_eq_true rfl)⟩) ⟨fb_X, va_recv hK hP (ci := 4) (q0 := 0) rfl rfl, pre_X hE hS hFc hP hK hD⟩ rfl rfl hl.1 rfl (lv_room (Nat.le_of_ble_eq_true rfl)) d_M_command_24 ⟨(Nat.le_of_ble_eq_true rfl), (Nat.le_of_ble_eq_true rfl)⟩) hS (fun q _ h9 => hFc q h9) hFc (fun u_481 t H locs het hvm hw hB hz1 hk1 hS => ?_)
    obtain ⟨op_479, ro_480⟩ := u_481
    try dsimp only at hw
    obtain ⟨p_483, p_484⟩ := hw
    obtain ⟨hP1, hK1, hD1⟩ := hB
    rw [het] at hP1
    have hP : va_P (dC, dI) cls (ME h g ss sa_454 so_455 pl_456 si_459 fa_457 li co_445 st rq bl te op_479 wo wz sr le_460 tx_461 ro_480) H := hP1
    have hD : va_D A (ME h g ss sa_454 so_455 pl_456 si_459 fa_457 li co_445 st rq bl te op_479 wo wz sr le_460 tx_461 ro_480) := hD1.weaken (fun _ _ _ h9 => hFc _ h9)
    have sk_485 : SI (3 :: LL) fa_457 op_479 ro_480 := SI_push (x := 3) sk_475 (fun _ => v_17) p_484
    refine lv_aload_n hx hb d_M_command_27 rfl (lv_at hl 1 rfl) ?_
    refine lv_iconst (v := 2) hx hb d_M_command_28 (by decide) ?_
    have sl_486 := SI_op sk_485
    try simp only [List.length_cons, List.length_nil] at sl_486
    have hFc := va_free (wc := (ME h g ss sa_454 so_455 pl_456 si_459 fa_457 li co_445 st rq bl te op_479 wo wz sr le_460 tx_461 ro_480)) hD hS hA [0, 1, 2, 3, 4, 5, 6] rfl
    refine va_callv (va_runV (As := [.int 2]) (rest := []) ⟨hx, hb, hml, hown, ht⟩ (c_M_push l dC dI k h g ss sa_454 so_455 pl_456 si_459 fa_457 li co_445 st rq bl te op_479 wo le_460 wz sr tx_461 ro_480 2 _ (by omega) (by omega) (by omega) (by omega)) (cwV 1 ht (g_V k_795 k_797 k_58 k_80 k_798) rfl rfl rfl (by decide +kernel) ⟨(Nat.le_of_ble_eq_true rfl), (Nat.le_of_ble_eq_true rfl)⟩) ⟨fb_X, va_recv hK hP (ci := 4) (q0 := 0) rfl rfl, pre_X hE hS hFc hP hK hD⟩ rfl rfl hl.1 rfl (lv_room (Nat.le_of_ble_eq_true rfl)) d_M_command_29 ⟨(Nat.le_of_ble_eq_true rfl), (Nat.le_of_ble_eq_true rfl)⟩) hS (fun q _ h9 => hFc q h9) hFc (fun u_489 t H locs het hvm hw hB hz1 hk1 hS => ?_)
    obtain ⟨op_487, ro_488⟩ := u_489
    try dsimp only at hw
    obtain ⟨p_491, p_492⟩ := hw
    obtain ⟨hP1, hK1, hD1⟩ := hB
    rw [het] at hP1
    have hP : va_P (dC, dI) cls (ME h g ss sa_454 so_455 pl_456 si_459 fa_457 li co_445 st rq bl te op_487 wo wz sr le_460 tx_461 ro_488) H := hP1
    have hD : va_D A (ME h g ss sa_454 so_455 pl_456 si_459 fa_457 li co_445 st rq bl te op_487 wo wz sr le_460 tx_461 ro_488) := hD1.weaken (fun _ _ _ h9 => hFc _ h9)
    have sk_493 : SI (2 :: (3 :: LL)) fa_457 op_487 ro_488 := SI_push (x := 2) sk_485 (fun hl9 => ⟨rfl, (sk_485 hl9).1⟩) p_492
    refine lv_aload_n hx hb d_M_command_32 rfl (lv_at hl 1 rfl) ?_
    refine lv_iconst (v := 4) hx hb d_M_command_33 (by decide) ?_
    have sl_494 := SI_op sk_493
    try simp only [List.length_cons, List.length_nil] at sl_494
    have hFc := va_free (wc := (ME h g ss sa_454 so_455 pl_456 si_459 fa_457 li co_445 st rq bl te op_487 wo wz sr le_460 tx_461 ro_488)) hD hS hA [0, 1, 2, 3, 4, 5, 6] rfl
    refine va_callv (va_runV (As := [.int 4]) (rest := []) ⟨hx, hb, hml, hown, ht⟩ (c_M_push l dC dI k h g ss sa_454 so_455 pl_456 si_459 fa_457 li co_445 st rq bl te op_487 wo le_460 wz sr tx_461 ro_488 4 _ (by omega) (by omega) (by omega) (by omega)) (cwV 1 ht (g_V k_795 k_797 k_58 k_80 k_798) rfl rfl rfl (by decide +kernel) ⟨(Nat.le_of_ble_eq_true rfl), (Nat.le_of_ble_eq_true rfl)⟩) ⟨fb_X, va_recv hK hP (ci := 4) (q0 := 0) rfl rfl, pre_X hE hS hFc hP hK hD⟩ rfl rfl hl.1 rfl (lv_room (Nat.le_of_ble_eq_true rfl)) d_M_command_34 ⟨(Nat.le_of_ble_eq_true rfl), (Nat.le_of_ble_eq_true rfl)⟩) hS (fun q _ h9 => hFc q h9) hFc (fun u_497 t H locs het hvm hw hB hz1 hk1 hS => ?_)
    obtain ⟨op_495, ro_496⟩ := u_497
    try dsimp only at hw
    obtain ⟨p_499, p_500⟩ := hw
    obtain ⟨hP1, hK1, hD1⟩ := hB
    rw [het] at hP1
    have hP : va_P (dC, dI) cls (ME h g ss sa_454 so_455 pl_456 si_459 fa_457 li co_445 st rq bl te op_495 wo wz sr le_460 tx_461 ro_496) H := hP1
    have hD : va_D A (ME h g ss sa_454 so_455 pl_456 si_459 fa_457 li co_445 st rq bl te op_495 wo wz sr le_460 tx_461 ro_496) := hD1.weaken (fun _ _ _ h9 => hFc _ h9)
    have sk_501 : SI (4 :: (2 :: (3 :: LL))) fa_457 op_495 ro_496 := SI_push (x := 4) sk_493 (fun hl9 => ⟨rfl, (sk_493 hl9).1⟩) p_500
    exact fin  (sa_454, so_455, pl_456, fa_457, op_495, si_459, le_460, tx_461, st, rq, co_445, ro_496, (4 :: (2 :: (3 :: LL)))) _ _ _ ls d_M_command_37 ⟨(by (try dsimp only); omega), (by (try dsimp only); omega), (by (try dsimp only); omega), (by (try dsimp only); omega), (by (try dsimp only); omega), (by (try dsimp only); omega), (by (try dsimp only); omega), (by (try dsimp only); omega), (by (try dsimp only); omega), sk_501, rl_477, (by (try dsimp only); (try simp only [List.length_cons]); omega), (by first | rfl | (simp [List.count_cons]; done)), (by first | rfl | (simp [List.count_cons]; done))⟩ hP hD hS
set_option maxHeartbeats 4000000 in
set_option maxRecDepth 100000 in
theorem c_M_command (l : Launch) (dC : Nat → ClassId) (dI : Nat → Nat → Nat) (k : Nat → Nat) (h : Nat → Nat) (g : Nat → ClassId) (ss : Int32) (sa : Int32) (so : Int32) (pl : Int32) (si : Int32) (fa : Int32) (li : Int32) (co : Int32) (st : Int32) (rq : Int32) (bl : Int32) (te : Int32) (op : Int32) (wo : Nat → Int64) (le : Nat → Int64) (wz : Nat → Int32) (sr : Nat → Int32) (tx : Nat → Int32) (ro : Nat → Int32) (LL : List Nat)  (sz : Nat) (h_0 : 0 ≤ Int32.toInt ss) (h_1 : Int32.toInt ss ≤ 400) (v_0 : 0 ≤ Int32.toInt sa) (v_1 : Int32.toInt sa ≤ Int32.toInt ss) (v_2 : 0 ≤ Int32.toInt pl) (v_3 : Int32.toInt pl ≤ 400) (v_4 : -1 ≤ Int32.toInt fa) (v_5 : Int32.toInt fa ≤ 400) (v_6 : Int32.toInt fa < 0 ∨ (Int32.toInt so = 0 ∧ Int32.toInt op = 0)) (v_7 : 0 ≤ Int32.toInt si) (v_8 : Int32.toInt si ≤ 400) (v_9 : SI LL fa op ro) (v_10 : Int32.toInt fa < 0) (v_11 : Int32.toInt so = 1) (v_12 : LL.length ≤ 40) (v_13 : wfp (3 :: LL)) : Met l y_M_command (.code y_M_command b_M_command 2 none :: TT) ({ frames := 8, cells := 0, slots := 0, locals := 176 }) (va_Pc [.ref (h 0)] (PX dC dI k (TM g) (ME h g ss sa so pl si fa li co st rq bl te op wo wz sr le tx ro) sz)) (va_Qv (fun u : Int32 × Int32 × Int32 × Int32 × Int32 × Int32 × (Nat → Int64) × (Nat → Int32) × Int32 × Int32 × Int32 × (Nat → Int32) × List Nat => 0 ≤ Int32.toInt u.1 ∧ Int32.toInt u.1 ≤ Int32.toInt ss ∧ 0 ≤ Int32.toInt u.2.2.1 ∧ Int32.toInt u.2.2.1 ≤ 400 ∧ -1 ≤ Int32.toInt u.2.2.2.1 ∧ Int32.toInt u.2.2.2.1 ≤ 400 ∧ (Int32.toInt u.2.2.2.1 < 0 ∨ (Int32.toInt u.2.1 = 0 ∧ Int32.toInt u.2.2.2.2.1 = 0)) ∧ 0 ≤ Int32.toInt u.2.2.2.2.2.1 ∧ Int32.toInt u.2.2.2.2.2.1 ≤ 400 ∧ SI u.2.2.2.2.2.2.2.2.2.2.2.2 u.2.2.2.1 u.2.2.2.2.1 u.2.2.2.2.2.2.2.2.2.2.2.1 ∧ PT ss sa so fa u.1 u.2.1 u.2.2.2.1 ∧ u.2.2.2.2.2.2.2.2.2.2.2.2.length ≤ LL.length + 3 ∧ List.count 1 u.2.2.2.2.2.2.2.2.2.2.2.2 = List.count 1 LL ∧ List.count 6 u.2.2.2.2.2.2.2.2.2.2.2.2 = List.count 6 LL) (fun u t => BX dC dI (TM g) (va_A (ME h g ss sa so pl si fa li co st rq bl te op wo wz sr le tx ro) sz) (ME h g ss u.1 u.2.1 u.2.2.1 u.2.2.2.2.2.1 u.2.2.2.1 li u.2.2.2.2.2.2.2.2.2.2.1 u.2.2.2.2.2.2.2.2.1 u.2.2.2.2.2.2.2.2.2.1 bl te u.2.2.2.2.1 wo wz sr u.2.2.2.2.2.2.1 u.2.2.2.2.2.2.2.1 u.2.2.2.2.2.2.2.2.2.2.2.1) t) (va_A (ME h g ss sa so pl si fa li co st rq bl te op wo wz sr le tx ro) sz)) 0 0 (va_A (ME h g ss sa so pl si fa li co st rq bl te op wo wz sr le tx ro) sz) := by
  refine Met.ofW (cc := b_M_command) (maxL := 2) (ret := none) (by decide) rfl ?_
  intro p e s m args below meth c s₁ B hml hv
  obtain ⟨rfl, hsz, hE, hP, hK, hD0⟩ := hv
  have hx := B.exec
  have hb := B.bytes
  have hr := B.returns
  have ht : ∀ w ∈ TT, w.before _ s = true := fun w hw => atoms_spec (ws := .code y_M_command b_M_command 2 none :: TT) B.pre w (List.mem_cons_of_mem _ hw)
  have hown : s.vm.findClass "SieveDeskModel" = some m.cls := findClass_of_methodNamed B.named
  have hlocks := B.notSynchronized
  subst hsz
  have hD := hD0.self (sz := s.heap.size)
  generalize hAe : va_A (ME h g ss sa so pl si fa li co st rq bl te op wo wz sr le tx ro) s.heap.size = A at hE hD ⊢
  have hA : ∀ q : Nat, s.heap.size ≤ q → A q := fun q h9 => by rw [← hAe]; exact Or.inr h9
  have hS : va_S A s.heap s.heap [] := va_S.rf
  have hl := lv_entry ([.ref (h 0)]) (n := 2) (Nat.le_of_ble_eq_true rfl)
  rw [lg_entry_eq]
  generalize (lg_sl ([.ref (h 0)]) ++ List.replicate (2 - (lg_sl ([.ref (h 0)])).length) Slot.unset).toArray = ls at hl ⊢
  have hl : lv_has ls 2 [(0, .ref (h 0))] := hl
  exact bd_M_command_0  hx hb hml hown ht hE hA hK h_0 h_1 (fun u H locs pc ls hd hp hP hD hS => W.vret hx hb hr (fun t het hW => ⟨⟨u, rfl, hp, by rw [het]; exact hP, va_K.moved hW.alike hK, hD⟩, hS.F het⟩) hS.2.2 hd) sa so pl fa op si le tx st rq co ro LL rfl rfl rfl rfl v_0 v_1 v_2 v_3 v_4 v_5 v_6 v_7 v_8 v_9 v_10 v_11 v_12 v_13 _ _ ls hP hD hS hl

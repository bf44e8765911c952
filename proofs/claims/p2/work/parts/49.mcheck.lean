set_option maxHeartbeats 4000000 in
set_option maxRecDepth 100000 in
theorem lp_M_check_126 {p : Program} {l : Launch} {e : Env} {s : State} {m : MethodId} {args : Array Value} {below : List Frame} {meth : Method} {c : Code} {Q : State → Prop} {A : Nat → Prop} {dC : Nat → ClassId} {dI : Nat → Nat → Nat} {k h : Nat → Nat} {g : Nat → ClassId} {wo : Nat → Int64} {wz : Nat → Int32} {sr : Nat → Int32} (hx : p.tables.exec = Jvm.exec) (hb : c.code = b_M_check) (hml : c.maxLocals = 2) (hown : s.vm.findClass "SieveDeskModel" = some m.cls) (ht : ∀ w ∈ TT, w.before args s = true) (hE : KE k A s s.heap) (hA : ∀ q : Nat, s.heap.size ≤ q → A q) (hK : va_K (dC, dI) cls (TM g) s)   (fin : ∀ (r : Int32) (u : Int32 × Int32 × Int32 × Int32 × Int32 × Int32 × Int32 × (Nat → Int64) × (Nat → Int32) × Int32 × Int32 × Int32 × (Nat → Int32) × Int32 × Int32 × Int32) (H : Heap) (locs : List Loc) (pc : Nat) (ls : Array Slot), decode b_M_check pc = .ok (.ireturn, 1) → (0 ≤ Int32.toInt u.1 ∧ Int32.toInt u.1 ≤ 400 ∧ 0 ≤ Int32.toInt u.2.2.2.1 ∧ Int32.toInt u.2.2.2.1 ≤ 400 ∧ -1 ≤ Int32.toInt u.2.2.2.2.1 ∧ Int32.toInt u.2.2.2.2.1 ≤ 400 ∧ 0 ≤ Int32.toInt u.2.2.2.2.2.2.1 ∧ Int32.toInt u.2.2.2.2.2.2.1 ≤ 400 ∧ u.1 = 0) → va_P (dC, dI) cls (ME h g u.1 u.2.1 u.2.2.1 u.2.2.2.1 u.2.2.2.2.2.2.1 u.2.2.2.2.1 u.2.2.2.2.2.2.2.2.2.2.2.2.2.2.2 u.2.2.2.2.2.2.2.2.2.2.2.1 u.2.2.2.2.2.2.2.2.2.1 u.2.2.2.2.2.2.2.2.2.2.1 u.2.2.2.2.2.2.2.2.2.2.2.2.2.2.1 u.2.2.2.2.2.2.2.2.2.2.2.2.2.1 u.2.2.2.2.2.1 wo wz sr u.2.2.2.2.2.2.2.1 u.2.2.2.2.2.2.2.2.1 u.2.2.2.2.2.2.2.2.2.2.2.2.1) H → va_D A (ME h g u.1 u.2.1 u.2.2.1 u.2.2.2.1 u.2.2.2.2.2.2.1 u.2.2.2.2.1 u.2.2.2.2.2.2.2.2.2.2.2.2.2.2.2 u.2.2.2.2.2.2.2.2.2.2.2.1 u.2.2.2.2.2.2.2.2.2.1 u.2.2.2.2.2.2.2.2.2.2.1 u.2.2.2.2.2.2.2.2.2.2.2.2.2.2.1 u.2.2.2.2.2.2.2.2.2.2.2.2.2.1 u.2.2.2.2.2.1 wo wz sr u.2.2.2.2.2.2.2.1 u.2.2.2.2.2.2.2.2.1 u.2.2.2.2.2.2.2.2.2.2.2.2.1) → va_S A s.heap H locs → W p l e ({ frames := 10, cells := 0, slots := 0, locals := 218 } : Room) s m args below meth c H locs 0 0 Q (F0 m pc ls [.int r])) : ∀ (nn : Nat), ∀ (kk : Int32) (ss : Int32) (sa : Int32) (so : Int32) (pl : Int32) (fa : Int32) (op : Int32) (si : Int32) (le : Nat → Int64) (tx : Nat → Int32) (st : Int32) (rq : Int32) (co : Int32) (ro : Nat → Int32) (te : Int32) (bl : Int32) (li : Int32), 0 ≤ Int32.toInt kk → Int32.toInt kk ≤ 400 → 0 ≤ Int32.toInt ss → Int32.toInt ss ≤ 400 → 0 ≤ Int32.toInt pl → Int32.toInt pl ≤ 400 → -1 ≤ Int32.toInt fa → Int32.toInt fa ≤ 400 → 0 ≤ Int32.toInt si → Int32.toInt si ≤ 400 → (400 - Int32.toInt kk).toNat < nn → ∀ (H : Heap) (locs : List Loc) (ls : Array Slot), va_P (dC, dI) cls (ME h g ss sa so pl si fa li co st rq bl te op wo wz sr le tx ro) H → va_D A (ME h g ss sa so pl si fa li co st rq bl te op wo wz sr le tx ro) → va_S A s.heap H locs → lv_has ls 2 [(1, .int kk), (0, .ref (h 0))] → W p l e ({ frames := 10, cells := 0, slots := 0, locals := 218 } : Room) s m args below meth c H locs 0 0 Q (F0 m 126 ls []) := by
  intro nn
  induction nn with
  | zero =>
    intro _ _ _ _ _ _ _ _ _ _ _ _ _ _ _ _ _ _ _ _ _ _ _ _ _ _ _ hm
    exact absurd hm (Nat.not_lt_zero _)
  | succ nn ih =>
    intro kk ss sa so pl fa op si le tx st rq co ro te bl li v_0 v_1 v_2 v_3 v_4 v_5 v_6 v_7 v_8 v_9 hm H locs ls hP hD hS hl
    refine lv_iload_n hx hb d_M_check_126 rfl (lv_at hl 0 rfl) ?_
    refine lv_aload_n hx hb d_M_check_127 rfl (lv_at hl 1 rfl) ?_
    refine va_get (D := (dC, dI)) (ci := 4) (v := .int fa) (C := "SieveDeskModel") (T := F_M) (N := 19) hx hb ht i_M hown hK hP 0 rfl rfl 10 (by decide) (ht _ k_637) (fun _ h9 => h9) rfl d_M_check_128 ?_
    refine lv_icmp_ge (tgt := 168) hx hb d_M_check_131 (by decide) (fun c_1 => ?_) (fun c_1 => ?_)
    · have dc_1 := i_le c_1 rfl rfl
      refine lv_aload_n hx hb d_M_check_168 rfl (lv_at hl 1 rfl) ?_
      refine lv_iconst (v := 0) hx hb d_M_check_169 (by decide) ?_
      refine va_put (D := (dC, dI)) (ci := 4) (v := .int 0) (ty := .int) (C := "SieveDeskModel") (T := F_M) (N := 19) hx hb ht i_M ty_M ty_M_ok n_M hown hK hP hD hS 0 rfl rfl 3 (by decide) (ht _ k_630) (fun _ h9 => h9) rfl (ty_M_ok 3 (by decide)) rfl rfl (Nat.le_of_ble_eq_true rfl) d_M_check_170 (fun H locs hP hD hS => ?_)
      have hP : va_P (dC, dI) cls (ME h g 0 sa so pl si fa li co st rq bl te op wo wz sr le tx ro) H := hP
      have hD : va_D A (ME h g 0 sa so pl si fa li co st rq bl te op wo wz sr le tx ro) := hD
      refine lv_aload_n hx hb d_M_check_173 rfl (lv_at hl 1 rfl) ?_
      refine va_get (D := (dC, dI)) (ci := 4) (v := .int li) (C := "SieveDeskModel") (T := F_M) (N := 19) hx hb ht i_M hown hK hP 0 rfl rfl 11 (by decide) (ht _ k_638) (fun _ h9 => h9) rfl d_M_check_174 ?_
      have hc_0 : Int32.toInt 0 = 0 := by decide
      exact fin li (0, sa, so, pl, fa, op, si, le, tx, st, rq, co, ro, te, bl, li) _ _ _ ls d_M_check_177 ⟨(by (try dsimp only); omega), (by (try dsimp only); omega), (by (try dsimp only); omega), (by (try dsimp only); omega), (by (try dsimp only); omega), (by (try dsimp only); omega), (by (try dsimp only); omega), (by (try dsimp only); omega), rfl⟩ hP hD hS
    · have dc_1 := i_nle c_1 rfl rfl
      refine lv_aload_n hx hb d_M_check_134 rfl (lv_at hl 1 rfl) ?_
      refine lv_aload_n hx hb d_M_check_135 rfl (lv_at hl 1 rfl) ?_
      refine va_get (D := (dC, dI)) (ci := 4) (v := .ref (h 3)) (C := "SieveDeskModel") (T := F_M) (N := 19) hx hb ht i_M hown hK hP 0 rfl rfl 2 (by decide) (ht _ k_629) (fun _ h9 => h9) rfl d_M_check_136 ?_
      refine lv_iload_n hx hb d_M_check_139 rfl (lv_at hl 0 rfl) ?_
      refine va_iald hx hb hK hP 3 2 rfl rfl (i_in rfl (by omega) (by omega)) d_M_check_140 ?_
      refine lv_bipush (v := 10) hx hb d_M_check_141 (by decide) ?_
      refine lv_icmp_ne (tgt := 155) hx hb d_M_check_143 (by decide) (fun c_2 => ?_) (fun c_2 => ?_)
      · refine lv_aload_n hx hb d_M_check_155 rfl (lv_at hl 1 rfl) ?_
        refine va_get (D := (dC, dI)) (ci := 4) (v := .int li) (C := "SieveDeskModel") (T := F_M) (N := 19) hx hb ht i_M hown hK hP 0 rfl rfl 11 (by decide) (ht _ k_638) (fun _ h9 => h9) rfl d_M_check_156 ?_
        refine va_put (D := (dC, dI)) (ci := 4) (v := .int li) (ty := .int) (C := "SieveDeskModel") (T := F_M) (N := 19) hx hb ht i_M ty_M ty_M_ok n_M hown hK hP hD hS 0 rfl rfl 11 (by decide) (ht _ k_638) (fun _ h9 => h9) rfl (ty_M_ok 11 (by decide)) rfl rfl (Nat.le_of_ble_eq_true rfl) d_M_check_159 (fun H locs hP hD hS => ?_)
        have hP : va_P (dC, dI) cls (ME h g ss sa so pl si fa li co st rq bl te op wo wz sr le tx ro) H := hP
        have hD : va_D A (ME h g ss sa so pl si fa li co st rq bl te op wo wz sr le tx ro) := hD
        refine lv_iinc (v := (kk + 1)) (lv' := [(1, .int (kk + 1)), (0, .ref (h 0))]) hx hb d_M_check_162 hl (k := 0) rfl rfl (by decide) rfl (fun ls hl => ?_)
        have e_3 : Int32.toInt (kk + 1) = (Int32.toInt kk) + 1 := i_add rfl (show Int32.toInt 1 = 1 by decide) (by omega) (by omega)
        refine lv_goto (tgt := 126) hx hb d_M_check_165 (by decide) ?_
        exact ih (kk + 1) ss sa so pl fa op si le tx st rq co ro te bl li (by omega) (by omega) (by omega) (by omega) (by omega) (by omega) (by omega) (by omega) (by omega) (by omega) (by omega) _ _ ls hP hD hS (lv_sub hl [0, 1] rfl)
      · refine lv_aload_n hx hb d_M_check_146 rfl (lv_at hl 1 rfl) ?_
        refine va_get (D := (dC, dI)) (ci := 4) (v := .int li) (C := "SieveDeskModel") (T := F_M) (N := 19) hx hb ht i_M hown hK hP 0 rfl rfl 11 (by decide) (ht _ k_638) (fun _ h9 => h9) rfl d_M_check_147 ?_
        refine lv_iconst (v := 1) hx hb d_M_check_150 (by decide) ?_
        refine lv_iadd hx hb d_M_check_151 ?_
        refine lv_goto (tgt := 159) hx hb d_M_check_152 (by decide) ?_
        refine va_put (D := (dC, dI)) (ci := 4) (v := .int (li + 1)) (ty := .int) (C := "SieveDeskModel") (T := F_M) (N := 19) hx hb ht i_M ty_M ty_M_ok n_M hown hK hP hD hS 0 rfl rfl 11 (by decide) (ht _ k_638) (fun _ h9 => h9) rfl (ty_M_ok 11 (by decide)) rfl rfl (Nat.le_of_ble_eq_true rfl) d_M_check_159 (fun H locs hP hD hS => ?_)
        have hP : va_P (dC, dI) cls (ME h g ss sa so pl si fa (li + 1) co st rq bl te op wo wz sr le tx ro) H := hP
        have hD : va_D A (ME h g ss sa so pl si fa (li + 1) co st rq bl te op wo wz sr le tx ro) := hD
        refine lv_iinc (v := (kk + 1)) (lv' := [(1, .int (kk + 1)), (0, .ref (h 0))]) hx hb d_M_check_162 hl (k := 0) rfl rfl (by decide) rfl (fun ls hl => ?_)
        have e_4 : Int32.toInt (kk + 1) = (Int32.toInt kk) + 1 := i_add rfl (show Int32.toInt 1 = 1 by decide) (by omega) (by omega)
        refine lv_goto (tgt := 126) hx hb d_M_check_165 (by decide) ?_
        exact ih (kk + 1) ss sa so pl fa op si le tx st rq co ro te bl (li + 1) (by omega) (by omega) (by omega) (by omega) (by omega) (by omega) (by omega) (by omega) (by omega) (by omega) (by omega) _ _ ls hP hD hS (lv_sub hl [0, 1] rfl)
set_option maxHeartbeats 4000000 in
set_option maxRecDepth 100000 in
theorem lp_M_check_75 {p : Program} {l : Launch} {e : Env} {s : State} {m : MethodId} {args : Array Value} {below : List Frame} {meth : Method} {c : Code} {Q : State → Prop} {A : Nat → Prop} {dC : Nat → ClassId} {dI : Nat → Nat → Nat} {k h : Nat → Nat} {g : Nat → ClassId} {wo : Nat → Int64} {wz : Nat → Int32} {sr : Nat → Int32} (hx : p.tables.exec = Jvm.exec) (hb : c.code = b_M_check) (hml : c.maxLocals = 2) (hown : s.vm.findClass "SieveDeskModel" = some m.cls) (ht : ∀ w ∈ TT, w.before args s = true) (hE : KE k A s s.heap) (hA : ∀ q : Nat, s.heap.size ≤ q → A q) (hK : va_K (dC, dI) cls (TM g) s)   (fin : ∀ (r : Int32) (u : Int32 × Int32 × Int32 × Int32 × Int32 × Int32 × Int32 × (Nat → Int64) × (Nat → Int32) × Int32 × Int32 × Int32 × (Nat → Int32) × Int32 × Int32 × Int32) (H : Heap) (locs : List Loc) (pc : Nat) (ls : Array Slot), decode b_M_check pc = .ok (.ireturn, 1) → (0 ≤ Int32.toInt u.1 ∧ Int32.toInt u.1 ≤ 400 ∧ 0 ≤ Int32.toInt u.2.2.2.1 ∧ Int32.toInt u.2.2.2.1 ≤ 400 ∧ -1 ≤ Int32.toInt u.2.2.2.2.1 ∧ Int32.toInt u.2.2.2.2.1 ≤ 400 ∧ 0 ≤ Int32.toInt u.2.2.2.2.2.2.1 ∧ Int32.toInt u.2.2.2.2.2.2.1 ≤ 400 ∧ u.1 = 0) → va_P (dC, dI) cls (ME h g u.1 u.2.1 u.2.2.1 u.2.2.2.1 u.2.2.2.2.2.2.1 u.2.2.2.2.1 u.2.2.2.2.2.2.2.2.2.2.2.2.2.2.2 u.2.2.2.2.2.2.2.2.2.2.2.1 u.2.2.2.2.2.2.2.2.2.1 u.2.2.2.2.2.2.2.2.2.2.1 u.2.2.2.2.2.2.2.2.2.2.2.2.2.2.1 u.2.2.2.2.2.2.2.2.2.2.2.2.2.1 u.2.2.2.2.2.1 wo wz sr u.2.2.2.2.2.2.2.1 u.2.2.2.2.2.2.2.2.1 u.2.2.2.2.2.2.2.2.2.2.2.2.1) H → va_D A (ME h g u.1 u.2.1 u.2.2.1 u.2.2.2.1 u.2.2.2.2.2.2.1 u.2.2.2.2.1 u.2.2.2.2.2.2.2.2.2.2.2.2.2.2.2 u.2.2.2.2.2.2.2.2.2.2.2.1 u.2.2.2.2.2.2.2.2.2.1 u.2.2.2.2.2.2.2.2.2.2.1 u.2.2.2.2.2.2.2.2.2.2.2.2.2.2.1 u.2.2.2.2.2.2.2.2.2.2.2.2.2.1 u.2.2.2.2.2.1 wo wz sr u.2.2.2.2.2.2.2.1 u.2.2.2.2.2.2.2.2.1 u.2.2.2.2.2.2.2.2.2.2.2.2.1) → va_S A s.heap H locs → W p l e ({ frames := 10, cells := 0, slots := 0, locals := 218 } : Room) s m args below meth c H locs 0 0 Q (F0 m pc ls [.int r])) : ∀ (nn : Nat), ∀ (LL : List Nat) (ss : Int32) (sa : Int32) (so : Int32) (pl : Int32) (fa : Int32) (op : Int32) (si : Int32) (le : Nat → Int64) (tx : Nat → Int32) (st : Int32) (rq : Int32) (co : Int32) (ro : Nat → Int32) (te : Int32) (bl : Int32) (li : Int32), 0 ≤ Int32.toInt sa → Int32.toInt sa ≤ Int32.toInt ss → (Int32.toInt fa < 0 ∨ (Int32.toInt so = 0 ∧ Int32.toInt op = 0)) → SI LL fa op ro → (0 ≤ Int32.toInt fa ∨ (Int32.toInt bl = List.count 1 LL ∧ List.count 1 LL ≤ 8 ∧ Int32.toInt te = List.count 6 LL ∧ List.count 6 LL ≤ 8)) → 0 ≤ Int32.toInt ss → Int32.toInt ss ≤ 400 → 0 ≤ Int32.toInt pl → Int32.toInt pl ≤ 400 → -1 ≤ Int32.toInt fa → Int32.toInt fa ≤ 400 → 0 ≤ Int32.toInt si → Int32.toInt si ≤ 400 → 8 * YY ss sa so fa + LL.length < nn → ∀ (H : Heap) (locs : List Loc) (ls : Array Slot), va_P (dC, dI) cls (ME h g ss sa so pl si fa li co st rq bl te op wo wz sr le tx ro) H → va_D A (ME h g ss sa so pl si fa li co st rq bl te op wo wz sr le tx ro) → va_S A s.heap H locs → lv_has ls 2 [(0, .ref (h 0))] → W p l e ({ frames := 10, cells := 0, slots := 0, locals := 218 } : Room) s m args below meth c H locs 0 0 Q (F0 m 75 ls []) := by
  intro nn
  induction nn with
  | zero =>
    intro _ _ _ _ _ _ _ _ _ _ _ _ _ _ _ _ _ _ _ _ _ _ _ _ _ _ _ _ _ _ hm
    exact absurd hm (Nat.not_lt_zero _)
  | succ nn ih =>
    intro LL ss sa so pl fa op si le tx st rq co ro te bl li v_0 v_1 v_2 v_3 v_4 v_5 v_6 v_7 v_8 v_9 v_10 v_11 v_12 hm H locs ls hP hD hS hl
    refine lv_aload_n hx hb d_M_check_75 rfl (lv_at hl 0 rfl) ?_
    refine va_get (D := (dC, dI)) (ci := 4) (v := .int op) (C := "SieveDeskModel") (T := F_M) (N := 19) hx hb ht i_M hown hK hP 0 rfl rfl 17 (by decide) (ht _ k_644) (fun _ h9 => h9) rfl d_M_check_76 ?_
    refine lv_if_le (tgt := 108) hx hb d_M_check_79 (by decide) (fun c_5 => ?_) (fun c_5 => ?_)
    · have dc_5 := i_le c_5 rfl (show Int32.toInt 0 = 0 by decide)
      refine lv_aload_n hx hb d_M_check_108 rfl (lv_at hl 0 rfl) ?_
      refine lv_aload_n hx hb d_M_check_109 rfl (lv_at hl 0 rfl) ?_
      refine va_get (D := (dC, dI)) (ci := 4) (v := .int fa) (C := "SieveDeskModel") (T := F_M) (N := 19) hx hb ht i_M hown hK hP 0 rfl rfl 10 (by decide) (ht _ k_637) (fun _ h9 => h9) rfl d_M_check_110 ?_
      refine lv_if_ge (tgt := 120) hx hb d_M_check_113 (by decide) (fun c_6 => ?_) (fun c_6 => ?_)
      · have dc_6 := i_le c_6 (show Int32.toInt 0 = 0 by decide) rfl
        refine lv_iconst (v := 1) hx hb d_M_check_120 (by decide) ?_
        refine va_put (D := (dC, dI)) (ci := 4) (v := .int 1) (ty := .int) (C := "SieveDeskModel") (T := F_M) (N := 19) hx hb ht i_M ty_M ty_M_ok n_M hown hK hP hD hS 0 rfl rfl 11 (by decide) (ht _ k_638) (fun _ h9 => h9) rfl (ty_M_ok 11 (by decide)) rfl rfl (Nat.le_of_ble_eq_true rfl) d_M_check_121 (fun H locs hP hD hS => ?_)
        have hP : va_P (dC, dI) cls (ME h g ss sa so pl si fa 1 co st rq bl te op wo wz sr le tx ro) H := hP
        have hD : va_D A (ME h g ss sa so pl si fa 1 co st rq bl te op wo wz sr le tx ro) := hD
        refine lv_iconst (v := 0) hx hb d_M_check_124 (by decide) ?_
        refine lv_istore_n (lv' := [(1, .int 0), (0, .ref (h 0))]) hx hb d_M_check_125 rfl hl (by decide) rfl (fun ls hl => ?_)
        have hc_0 : Int32.toInt 0 = 0 := by decide
        have hc_1 : Int32.toInt 1 = 1 := by decide
        exact (lp_M_check_126  hx hb hml hown ht hE hA hK  fin _) 0 ss sa so pl fa op si le tx st rq co ro te bl 1 (by omega) (by omega) (by omega) (by omega) (by omega) (by omega) (by omega) (by omega) (by omega) (by omega) (Nat.lt_succ_self _) _ _ ls hP hD hS (lv_sub hl [0, 1] rfl)
      · have dc_6 := i_nle c_6 (show Int32.toInt 0 = 0 by decide) rfl
        refine lv_iconst (v := 0) hx hb d_M_check_116 (by decide) ?_
        refine lv_goto (tgt := 121) hx hb d_M_check_117 (by decide) ?_
        refine va_put (D := (dC, dI)) (ci := 4) (v := .int 0) (ty := .int) (C := "SieveDeskModel") (T := F_M) (N := 19) hx hb ht i_M ty_M ty_M_ok n_M hown hK hP hD hS 0 rfl rfl 11 (by decide) (ht _ k_638) (fun _ h9 => h9) rfl (ty_M_ok 11 (by decide)) rfl rfl (Nat.le_of_ble_eq_true rfl) d_M_check_121 (fun H locs hP hD hS => ?_)
        have hP : va_P (dC, dI) cls (ME h g ss sa so pl si fa 0 co st rq bl te op wo wz sr le tx ro) H := hP
        have hD : va_D A (ME h g ss sa so pl si fa 0 co st rq bl te op wo wz sr le tx ro) := hD
        refine lv_iconst (v := 0) hx hb d_M_check_124 (by decide) ?_
        refine lv_istore_n (lv' := [(1, .int 0), (0, .ref (h 0))]) hx hb d_M_check_125 rfl hl (by decide) rfl (fun ls hl => ?_)
        have hc_0 : Int32.toInt 0 = 0 := by decide
        exact (lp_M_check_126  hx hb hml hown ht hE hA hK  fin _) 0 ss sa so pl fa op si le tx st rq co ro te bl 0 (by omega) (by omega) (by omega) (by omega) (by omega) (by omega) (by omega) (by omega) (by omega) (by omega) (Nat.lt_succ_self _) _ _ ls hP hD hS (lv_sub hl [0, 1] rfl)
    · have dc_5 := i_nle c_5 rfl (show Int32.toInt 0 = 0 by decide)
      obtain ⟨x, L1, rfl, hwf, hop, hpop⟩ := SI_pop v_3 (by omega) (by omega)
      have hln := wfp.len L1 x hwf
      have hex := ex_le x
      have hxl : (x :: L1).length = L1.length + 1 := rfl
      refine lv_aload_n hx hb d_M_check_82 rfl (lv_at hl 0 rfl) ?_
      refine lv_aload_n hx hb d_M_check_83 rfl (lv_at hl 0 rfl) ?_
      refine va_get (D := (dC, dI)) (ci := 4) (v := .int op) (C := "SieveDeskModel") (T := F_M) (N := 19) hx hb ht i_M hown hK hP 0 rfl rfl 17 (by decide) (ht _ k_644) (fun _ h9 => h9) rfl d_M_check_84 ?_
      refine lv_iconst (v := 1) hx hb d_M_check_87 (by decide) ?_
      refine lv_isub hx hb d_M_check_88 ?_
      have e_7 : Int32.toInt (op - 1) = (Int32.toInt op) - 1 := i_sub rfl (show Int32.toInt 1 = 1 by decide) (by omega) (by omega)
      refine va_put (D := (dC, dI)) (ci := 4) (v := .int (op - 1)) (ty := .int) (C := "SieveDeskModel") (T := F_M) (N := 19) hx hb ht i_M ty_M ty_M_ok n_M hown hK hP hD hS 0 rfl rfl 17 (by decide) (ht _ k_644) (fun _ h9 => h9) rfl (ty_M_ok 17 (by decide)) rfl rfl (Nat.le_of_ble_eq_true rfl) d_M_check_89 (fun H locs hP hD hS => ?_)
      have hP : va_P (dC, dI) cls (ME h g ss sa so pl si fa li co st rq bl te (op - 1) wo wz sr le tx ro) H := hP
      have hD : va_D A (ME h g ss sa so pl si fa li co st rq bl te (op - 1) wo wz sr le tx ro) := hD
      obtain ⟨sk1, htop⟩ := hpop (op - 1) (by omega)
      refine lv_aload_n hx hb d_M_check_92 rfl (lv_at hl 0 rfl) ?_
      refine lv_aload_n hx hb d_M_check_93 rfl (lv_at hl 0 rfl) ?_
      refine va_get (D := (dC, dI)) (ci := 4) (v := .ref (h 6)) (C := "SieveDeskModel") (T := F_M) (N := 19) hx hb ht i_M hown hK hP 0 rfl rfl 18 (by decide) (ht _ k_645) (fun _ h9 => h9) rfl d_M_check_94 ?_
      refine lv_aload_n hx hb d_M_check_97 rfl (lv_at hl 0 rfl) ?_
      refine va_get (D := (dC, dI)) (ci := 4) (v := .int (op - 1)) (C := "SieveDeskModel") (T := F_M) (N := 19) hx hb ht i_M hown hK hP 0 rfl rfl 17 (by decide) (ht _ k_644) (fun _ h9 => h9) rfl d_M_check_98 ?_
      refine va_iald hx hb hK hP 6 5 rfl rfl (i_in e_7 (by omega) (by omega)) d_M_check_101 ?_
      refine lv_ev htop ?_
      have hFc := va_free (wc := (ME h g ss sa so pl si fa li co st rq bl te (op - 1) wo wz sr le tx ro)) hD hS hA [0, 1, 2, 3, 4, 5, 6] rfl
      refine va_callv (va_runV (As := [.int (nI x)]) (rest := []) ⟨hx, hb, hml, hown, ht⟩ (c_M_step l dC dI k h g ss sa so pl si fa li co st rq bl te (op - 1) wo le wz sr tx ro L1 x _ (by omega) (by omega) (by omega) (by omega) (by omega) (by omega) (by omega) (by omega) (by omega) (by omega) (by omega) sk1 (by omega) (by omega) hwf (by omega) (by omega) (by omega) (by omega)) (cwV 1 ht (g_V k_799 k_801 k_59 k_80 k_802) rfl rfl rfl (by decide +kernel) ⟨(Nat.le_of_ble_eq_true rfl), (Nat.le_of_ble_eq_true rfl)⟩) ⟨fb_X, va_recv hK hP (ci := 4) (q0 := 0) rfl rfl, pre_X hE hS hFc hP hK hD⟩ rfl rfl hl.1 rfl (lv_room (Nat.le_of_ble_eq_true rfl)) d_M_check_102 ⟨(Nat.le_of_ble_eq_true rfl), (Nat.le_of_ble_eq_true rfl)⟩) hS (fun q _ h9 => hFc q h9) hFc (fun u_23 t H locs het hvm hw hB hz1 hk1 hS => ?_)
      obtain ⟨sa_8, so_9, pl_10, fa_11, op_12, si_13, le_14, tx_15, st_16, rq_17, co_18, ro_19, LL_20, te_21, bl_22⟩ := u_23
      try dsimp only at hw
      obtain ⟨p_25, p_26, p_27, p_28, p_29, p_30, p_31, p_32, p_33, p_34, p_35, p_36⟩ := hw
      obtain ⟨hP1, hK1, hD1⟩ := hB
      rw [het] at hP1
      have hP : va_P (dC, dI) cls (ME h g ss sa_8 so_9 pl_10 si_13 fa_11 li co_18 st_16 rq_17 bl_22 te_21 op_12 wo wz sr le_14 tx_15 ro_19) H := hP1
      have hD : va_D A (ME h g ss sa_8 so_9 pl_10 si_13 fa_11 li co_18 st_16 rq_17 bl_22 te_21 op_12 wo wz sr le_14 tx_15 ro_19) := hD1.weaken (fun _ _ _ h9 => hFc _ h9)
      refine lv_goto (tgt := 75) hx hb d_M_check_105 (by decide) ?_
      exact ih LL_20 ss sa_8 so_9 pl_10 fa_11 op_12 si_13 le_14 tx_15 st_16 rq_17 co_18 ro_19 te_21 bl_22 li (by omega) (by omega) (by omega) p_34 (by omega) (by omega) (by omega) (by omega) (by omega) (by omega) (by omega) (by omega) (by omega) (by omega) _ _ ls hP hD hS (lv_sub hl [0] rfl)
set_option maxHeartbeats 4000000 in
set_option maxRecDepth 100000 in
theorem lp_M_check_44 {p : Program} {l : Launch} {e : Env} {s : State} {m : MethodId} {args : Array Value} {below : List Frame} {meth : Method} {c : Code} {Q : State → Prop} {A : Nat → Prop} {dC : Nat → ClassId} {dI : Nat → Nat → Nat} {k h : Nat → Nat} {g : Nat → ClassId} {wo : Nat → Int64} {wz : Nat → Int32} {sr : Nat → Int32} (hx : p.tables.exec = Jvm.exec) (hb : c.code = b_M_check) (hml : c.maxLocals = 2) (hown : s.vm.findClass "SieveDeskModel" = some m.cls) (ht : ∀ w ∈ TT, w.before args s = true) (hE : KE k A s s.heap) (hA : ∀ q : Nat, s.heap.size ≤ q → A q) (hK : va_K (dC, dI) cls (TM g) s)   (fin : ∀ (r : Int32) (u : Int32 × Int32 × Int32 × Int32 × Int32 × Int32 × Int32 × (Nat → Int64) × (Nat → Int32) × Int32 × Int32 × Int32 × (Nat → Int32) × Int32 × Int32 × Int32) (H : Heap) (locs : List Loc) (pc : Nat) (ls : Array Slot), decode b_M_check pc = .ok (.ireturn, 1) → (0 ≤ Int32.toInt u.1 ∧ Int32.toInt u.1 ≤ 400 ∧ 0 ≤ Int32.toInt u.2.2.2.1 ∧ Int32.toInt u.2.2.2.1 ≤ 400 ∧ -1 ≤ Int32.toInt u.2.2.2.2.1 ∧ Int32.toInt u.2.2.2.2.1 ≤ 400 ∧ 0 ≤ Int32.toInt u.2.2.2.2.2.2.1 ∧ Int32.toInt u.2.2.2.2.2.2.1 ≤ 400 ∧ u.1 = 0) → va_P (dC, dI) cls (ME h g u.1 u.2.1 u.2.2.1 u.2.2.2.1 u.2.2.2.2.2.2.1 u.2.2.2.2.1 u.2.2.2.2.2.2.2.2.2.2.2.2.2.2.2 u.2.2.2.2.2.2.2.2.2.2.2.1 u.2.2.2.2.2.2.2.2.2.1 u.2.2.2.2.2.2.2.2.2.2.1 u.2.2.2.2.2.2.2.2.2.2.2.2.2.2.1 u.2.2.2.2.2.2.2.2.2.2.2.2.2.1 u.2.2.2.2.2.1 wo wz sr u.2.2.2.2.2.2.2.1 u.2.2.2.2.2.2.2.2.1 u.2.2.2.2.2.2.2.2.2.2.2.2.1) H → va_D A (ME h g u.1 u.2.1 u.2.2.1 u.2.2.2.1 u.2.2.2.2.2.2.1 u.2.2.2.2.1 u.2.2.2.2.2.2.2.2.2.2.2.2.2.2.2 u.2.2.2.2.2.2.2.2.2.2.2.1 u.2.2.2.2.2.2.2.2.2.1 u.2.2.2.2.2.2.2.2.2.2.1 u.2.2.2.2.2.2.2.2.2.2.2.2.2.2.1 u.2.2.2.2.2.2.2.2.2.2.2.2.2.1 u.2.2.2.2.2.1 wo wz sr u.2.2.2.2.2.2.2.1 u.2.2.2.2.2.2.2.2.1 u.2.2.2.2.2.2.2.2.2.2.2.2.1) → va_S A s.heap H locs → W p l e ({ frames := 10, cells := 0, slots := 0, locals := 218 } : Room) s m args below meth c H locs 0 0 Q (F0 m pc ls [.int r])) : ∀ (nn : Nat), ∀ (ss : Int32) (sa : Int32) (so : Int32) (pl : Int32) (fa : Int32) (op : Int32) (si : Int32) (le : Nat → Int64) (tx : Nat → Int32) (st : Int32) (rq : Int32) (co : Int32) (ro : Nat → Int32) (te : Int32) (bl : Int32) (li : Int32), 0 ≤ Int32.toInt sa → Int32.toInt sa ≤ Int32.toInt ss → (Int32.toInt fa < 0 ∨ (Int32.toInt so = 0 ∧ Int32.toInt op = 0)) → Int32.toInt bl = 0 → Int32.toInt te = 0 → SI [] fa op ro → 0 ≤ Int32.toInt ss → Int32.toInt ss ≤ 400 → 0 ≤ Int32.toInt pl → Int32.toInt pl ≤ 400 → -1 ≤ Int32.toInt fa → Int32.toInt fa ≤ 400 → 0 ≤ Int32.toInt si → Int32.toInt si ≤ 400 → YY ss sa so fa < nn → ∀ (H : Heap) (locs : List Loc) (ls : Array Slot), va_P (dC, dI) cls (ME h g ss sa so pl si fa li co st rq bl te op wo wz sr le tx ro) H → va_D A (ME h g ss sa so pl si fa li co st rq bl te op wo wz sr le tx ro) → va_S A s.heap H locs → lv_has ls 2 [(0, .ref (h 0))] → W p l e ({ frames := 10, cells := 0, slots := 0, locals := 218 } : Room) s m args below meth c H locs 0 0 Q (F0 m 44 ls []) := by
  intro nn
  induction nn with
  | zero =>
    intro _ _ _ _ _ _ _ _ _ _ _ _ _ _ _ _ _ _ _ _ _ _ _ _ _ _ _ _ _ _ hm
    exact absurd hm (Nat.not_lt_zero _)
  | succ nn ih =>
    intro ss sa so pl fa op si le tx st rq co ro te bl li v_0 v_1 v_2 v_3 v_4 v_5 v_6 v_7 v_8 v_9 v_10 v_11 v_12 v_13 hm H locs ls hP hD hS hl
    refine lv_aload_n hx hb d_M_check_44 rfl (lv_at hl 0 rfl) ?_
    refine lv_iconst (v := 0) hx hb d_M_check_45 (by decide) ?_
    have hc_0 : Int32.toInt 0 = 0 := by decide
    have hFc := va_free (wc := (ME h g ss sa so pl si fa li co st rq bl te op wo wz sr le tx ro)) hD hS hA [0, 1, 2, 3, 4, 5, 6] rfl
    refine va_calli (va_runV (As := [.int 0]) (rest := []) ⟨hx, hb, hml, hown, ht⟩ (c_M_isWord l dC dI k h g ss sa so pl si fa li co st rq bl te op wo le wz sr tx ro 0 _ (by omega) (by omega) (by omega) (by omega) ) (cwV 1 ht (g_V k_767 k_769 k_51 k_80 k_770) rfl rfl rfl (by decide +kernel) ⟨(Nat.le_of_ble_eq_true rfl), (Nat.le_of_ble_eq_true rfl)⟩) ⟨fb_X, va_recv hK hP (ci := 4) (q0 := 0) rfl rfl, pre_X hE hS hFc hP hK hD⟩ rfl rfl hl.1 rfl (lv_room (Nat.le_of_ble_eq_true rfl)) d_M_check_46 ⟨(Nat.le_of_ble_eq_true rfl), (Nat.le_of_ble_eq_true rfl)⟩) hS (fun q _ h9 => hFc q h9) hFc (fun r_38 u_37 t H locs het hvm hw hB hz1 hk1 hS => ?_)
    obtain ⟨p_39, p_40⟩ := hw
    obtain ⟨hP1, hK1, hD1⟩ := hB
    rw [het] at hP1
    have hP : va_P (dC, dI) cls (ME h g ss sa so pl si fa li co st rq bl te op wo wz sr le tx ro) H := hP1
    have hD : va_D A (ME h g ss sa so pl si fa li co st rq bl te op wo wz sr le tx ro) := hD1.weaken (fun _ _ _ h9 => hFc _ h9)
    refine lv_if_eq (tgt := 70) hx hb d_M_check_49 (by decide) (fun c_41 => ?_) (fun c_41 => ?_)
    · have dc_41 := i_eq c_41 rfl (show Int32.toInt 0 = 0 by decide)
      have hk1 : List.count 1 (0 :: ([] : List Nat)) = 0 := by decide
      have hk6 : List.count 6 (0 :: ([] : List Nat)) = 0 := by decide
      refine lv_aload_n hx hb d_M_check_70 rfl (lv_at hl 0 rfl) ?_
      refine lv_iconst (v := 0) hx hb d_M_check_71 (by decide) ?_
      have sl_42 := SI_op v_5
      try simp only [List.length_cons, List.length_nil] at sl_42
      have hFc := va_free (wc := (ME h g ss sa so pl si fa li co st rq bl te op wo wz sr le tx ro)) hD hS hA [0, 1, 2, 3, 4, 5, 6] rfl
      refine va_callv (va_runV (As := [.int 0]) (rest := []) ⟨hx, hb, hml, hown, ht⟩ (c_M_push l dC dI k h g ss sa so pl si fa li co st rq bl te op wo le wz sr tx ro 0 _ (by omega) (by omega) (by omega) (by omega)) (cwV 1 ht (g_V k_795 k_797 k_58 k_80 k_798) rfl rfl rfl (by decide +kernel) ⟨(Nat.le_of_ble_eq_true rfl), (Nat.le_of_ble_eq_true rfl)⟩) ⟨fb_X, va_recv hK hP (ci := 4) (q0 := 0) rfl rfl, pre_X hE hS hFc hP hK hD⟩ rfl rfl hl.1 rfl (lv_room (Nat.le_of_ble_eq_true rfl)) d_M_check_72 ⟨(Nat.le_of_ble_eq_true rfl), (Nat.le_of_ble_eq_true rfl)⟩) hS (fun q _ h9 => hFc q h9) hFc (fun u_45 t H locs het hvm hw hB hz1 hk1 hS => ?_)
      obtain ⟨op_43, ro_44⟩ := u_45
      try dsimp only at hw
      obtain ⟨p_47, p_48⟩ := hw
      obtain ⟨hP1, hK1, hD1⟩ := hB
      rw [het] at hP1
      have hP : va_P (dC, dI) cls (ME h g ss sa so pl si fa li co st rq bl te op_43 wo wz sr le tx ro_44) H := hP1
      have hD : va_D A (ME h g ss sa so pl si fa li co st rq bl te op_43 wo wz sr le tx ro_44) := hD1.weaken (fun _ _ _ h9 => hFc _ h9)
      have sk_49 : SI (0 :: []) fa op_43 ro_44 := SI_push (x := 0) v_5 (fun _ => rfl) p_48
      exact (lp_M_check_75  hx hb hml hown ht hE hA hK  fin _) (0 :: []) ss sa so pl fa op_43 si le tx st rq co ro_44 te bl li (by omega) (by omega) (by omega) sk_49 (by omega) (by omega) (by omega) (by omega) (by omega) (by omega) (by omega) (by omega) (by omega) (Nat.lt_succ_self _) _ _ ls hP hD hS (lv_sub hl [0] rfl)
    · have dc_41 := i_ne c_41 rfl (show Int32.toInt 0 = 0 by decide)
      refine lv_aload_n hx hb d_M_check_52 rfl (lv_at hl 0 rfl) ?_
      have hFc := va_free (wc := (ME h g ss sa so pl si fa li co st rq bl te op wo wz sr le tx ro)) hD hS hA [0, 1, 2, 3, 4, 5, 6] rfl
      refine va_callv (va_runV (As := []) (rest := []) ⟨hx, hb, hml, hown, ht⟩ (c_M_next l dC dI k h g ss sa so pl si fa li co st rq bl te op wo le wz sr tx ro  _ (by omega) (by omega) (by omega) (by omega) (by omega) (by omega) (by omega) (by omega) (by omega) (by omega) (by omega)) (cwV 0 ht (g_V k_694 k_696 k_37 k_80 k_697) rfl rfl rfl (by decide +kernel) ⟨(Nat.le_of_ble_eq_true rfl), (Nat.le_of_ble_eq_true rfl)⟩) ⟨fb_X, va_recv hK hP (ci := 4) (q0 := 0) rfl rfl, pre_X hE hS hFc hP hK hD⟩ rfl rfl hl.1 rfl (lv_room (Nat.le_of_ble_eq_true rfl)) d_M_check_53 ⟨(Nat.le_of_ble_eq_true rfl), (Nat.le_of_ble_eq_true rfl)⟩) hS (fun q _ h9 => hFc q h9) hFc (fun u_58 t H locs het hvm hw hB hz1 hk1 hS => ?_)
      obtain ⟨sa_50, so_51, pl_52, fa_53, op_54, si_55, le_56, tx_57⟩ := u_58
      try dsimp only at hw
      obtain ⟨p_60, p_61, p_62, p_63, p_64, p_65, p_66, p_67, p_68, p_69, p_70⟩ := hw
      obtain ⟨hP1, hK1, hD1⟩ := hB
      rw [het] at hP1
      have hP : va_P (dC, dI) cls (ME h g ss sa_50 so_51 pl_52 si_55 fa_53 li co st rq bl te op_54 wo wz sr le_56 tx_57 ro) H := hP1
      have hD : va_D A (ME h g ss sa_50 so_51 pl_52 si_55 fa_53 li co st rq bl te op_54 wo wz sr le_56 tx_57 ro) := hD1.weaken (fun _ _ _ h9 => hFc _ h9)
      have sk_71 : SI ([]) fa_53 op_54 ro := SI_pr v_5 p_69
      have rl_72 := p_70.resolve_right (by omega)
      refine lv_aload_n hx hb d_M_check_56 rfl (lv_at hl 0 rfl) ?_
      refine lv_iconst (v := 1) hx hb d_M_check_57 (by decide) ?_
      have hc_1 : Int32.toInt 1 = 1 := by decide
      have hFc := va_free (wc := (ME h g ss sa_50 so_51 pl_52 si_55 fa_53 li co st rq bl te op_54 wo wz sr le_56 tx_57 ro)) hD hS hA [0, 1, 2, 3, 4, 5, 6] rfl
      refine va_callv (va_runV (As := [.int 1]) (rest := []) ⟨hx, hb, hml, hown, ht⟩ (c_M_list l dC dI k h g ss sa_50 so_51 pl_52 si_55 fa_53 li co st rq bl te op_54 wo le_56 wz sr tx_57 ro 1 _ (by omega) (by omega) (by omega) (by omega) (by omega) (by omega) (by omega) (by omega) (by omega) (by omega) (by omega)) (cwV 1 ht (g_V k_775 k_777 k_53 k_80 k_778) rfl rfl rfl (by decide +kernel) ⟨(Nat.le_of_ble_eq_true rfl), (Nat.le_of_ble_eq_true rfl)⟩) ⟨fb_X, va_recv hK hP (ci := 4) (q0 := 0) rfl rfl, pre_X hE hS hFc hP hK hD⟩ rfl rfl hl.1 rfl (lv_room (Nat.le_of_ble_eq_true rfl)) d_M_check_58 ⟨(Nat.le_of_ble_eq_true rfl), (Nat.le_of_ble_eq_true rfl)⟩) hS (fun q _ h9 => hFc q h9) hFc (fun u_83 t H locs het hvm hw hB hz1 hk1 hS => ?_)
      obtain ⟨sa_73, so_74, pl_75, fa_76, op_77, si_78, le_79, tx_80, st_81, rq_82⟩ := u_83
      try dsimp only at hw
      obtain ⟨p_85, p_86, p_87, p_88, p_89, p_90, p_91, p_92, p_93, p_94⟩ := hw
      obtain ⟨hP1, hK1, hD1⟩ := hB
      rw [het] at hP1
      have hP : va_P (dC, dI) cls (ME h g ss sa_73 so_74 pl_75 si_78 fa_76 li co st_81 rq_82 bl te op_77 wo wz sr le_79 tx_80 ro) H := hP1
      have hD : va_D A (ME h g ss sa_73 so_74 pl_75 si_78 fa_76 li co st_81 rq_82 bl te op_77 wo wz sr le_79 tx_80 ro) := hD1.weaken (fun _ _ _ h9 => hFc _ h9)
      have sk_95 : SI ([]) fa_76 op_77 ro := SI_pr sk_71 p_94.pr
      have rl_96 := uTT rl_72.pt p_94.pt
      refine lv_aload_n hx hb d_M_check_61 rfl (lv_at hl 0 rfl) ?_
      refine lv_bipush (v := 59) hx hb d_M_check_62 (by decide) ?_
      have hc_59 : Int32.toInt 59 = 59 := by decide
      have hFc := va_free (wc := (ME h g ss sa_73 so_74 pl_75 si_78 fa_76 li co st_81 rq_82 bl te op_77 wo wz sr le_79 tx_80 ro)) hD hS hA [0, 1, 2, 3, 4, 5, 6] rfl
      refine va_callv (va_runV (As := [.int 59]) (rest := []) ⟨hx, hb, hml, hown, ht⟩ (c_M_take l dC dI k h g ss sa_73 so_74 pl_75 si_78 fa_76 li co st_81 rq_82 bl te op_77 wo le_79 wz sr tx_80 ro 59 _ (by omega) (by omega) (by omega) (by omega) (by omega) (by omega) (by omega) (by omega) (by omega) (by omega) (by omega) (by omega) (by omega)) (cwV 1 ht (g_V k_791 k_793 k_57 k_80 k_794) rfl rfl rfl (by decide +kernel) ⟨(Nat.le_of_ble_eq_true rfl), (Nat.le_of_ble_eq_true rfl)⟩) ⟨fb_X, va_recv hK hP (ci := 4) (q0 := 0) rfl rfl, pre_X hE hS hFc hP hK hD⟩ rfl rfl hl.1 rfl (lv_room (Nat.le_of_ble_eq_true rfl)) d_M_check_64 ⟨(Nat.le_of_ble_eq_true rfl), (Nat.le_of_ble_eq_true rfl)⟩) hS (fun q _ h9 => hFc q h9) hFc (fun u_105 t H locs het hvm hw hB hz1 hk1 hS => ?_)
      obtain ⟨sa_97, so_98, pl_99, fa_100, op_101, si_102, le_103, tx_104⟩ := u_105
      try dsimp only at hw
      obtain ⟨p_107, p_108, p_109, p_110, p_111, p_112, p_113, p_114, p_115, p_116, p_117⟩ := hw
      obtain ⟨hP1, hK1, hD1⟩ := hB
      rw [het] at hP1
      have hP : va_P (dC, dI) cls (ME h g ss sa_97 so_98 pl_99 si_102 fa_100 li co st_81 rq_82 bl te op_101 wo wz sr le_103 tx_104 ro) H := hP1
      have hD : va_D A (ME h g ss sa_97 so_98 pl_99 si_102 fa_100 li co st_81 rq_82 bl te op_101 wo wz sr le_103 tx_104 ro) := hD1.weaken (fun _ _ _ h9 => hFc _ h9)
      have sk_118 : SI ([]) fa_100 op_101 ro := SI_pr sk_95 p_116.pr
      have rl_119 := uTT rl_96 p_116.pt
      refine lv_goto (tgt := 44) hx hb d_M_check_67 (by decide) ?_
      obtain ⟨ym_120a, ym_120b⟩ := PT.yd rl_119 (by omega)
      exact ih ss sa_97 so_98 pl_99 fa_100 op_101 si_102 le_103 tx_104 st_81 rq_82 co ro te bl li (by omega) (by omega) (by omega) (by omega) (by omega) sk_118 (by omega) (by omega) (by omega) (by omega) (by omega) (by omega) (by omega) (by omega) (by omega) _ _ ls hP hD hS (lv_sub hl [0] rfl)
set_option maxHeartbeats 4000000 in
set_option maxRecDepth 100000 in
theorem bd_M_check_0 {p : Program} {l : Launch} {e : Env} {s : State} {m : MethodId} {args : Array Value} {below : List Frame} {meth : Method} {c : Code} {Q : State → Prop} {A : Nat → Prop} {dC : Nat → ClassId} {dI : Nat → Nat → Nat} {k h : Nat → Nat} {g : Nat → ClassId} {wo : Nat → Int64} {wz : Nat → Int32} {sr : Nat → Int32} (hx : p.tables.exec = Jvm.exec) (hb : c.code = b_M_check) (hml : c.maxLocals = 2) (hown : s.vm.findClass "SieveDeskModel" = some m.cls) (ht : ∀ w ∈ TT, w.before args s = true) (hE : KE k A s s.heap) (hA : ∀ q : Nat, s.heap.size ≤ q → A q) (hK : va_K (dC, dI) cls (TM g) s)   (fin : ∀ (r : Int32) (u : Int32 × Int32 × Int32 × Int32 × Int32 × Int32 × Int32 × (Nat → Int64) × (Nat → Int32) × Int32 × Int32 × Int32 × (Nat → Int32) × Int32 × Int32 × Int32) (H : Heap) (locs : List Loc) (pc : Nat) (ls : Array Slot), decode b_M_check pc = .ok (.ireturn, 1) → (0 ≤ Int32.toInt u.1 ∧ Int32.toInt u.1 ≤ 400 ∧ 0 ≤ Int32.toInt u.2.2.2.1 ∧ Int32.toInt u.2.2.2.1 ≤ 400 ∧ -1 ≤ Int32.toInt u.2.2.2.2.1 ∧ Int32.toInt u.2.2.2.2.1 ≤ 400 ∧ 0 ≤ Int32.toInt u.2.2.2.2.2.2.1 ∧ Int32.toInt u.2.2.2.2.2.2.1 ≤ 400 ∧ u.1 = 0) → va_P (dC, dI) cls (ME h g u.1 u.2.1 u.2.2.1 u.2.2.2.1 u.2.2.2.2.2.2.1 u.2.2.2.2.1 u.2.2.2.2.2.2.2.2.2.2.2.2.2.2.2 u.2.2.2.2.2.2.2.2.2.2.2.1 u.2.2.2.2.2.2.2.2.2.1 u.2.2.2.2.2.2.2.2.2.2.1 u.2.2.2.2.2.2.2.2.2.2.2.2.2.2.1 u.2.2.2.2.2.2.2.2.2.2.2.2.2.1 u.2.2.2.2.2.1 wo wz sr u.2.2.2.2.2.2.2.1 u.2.2.2.2.2.2.2.2.1 u.2.2.2.2.2.2.2.2.2.2.2.2.1) H → va_D A (ME h g u.1 u.2.1 u.2.2.1 u.2.2.2.1 u.2.2.2.2.2.2.1 u.2.2.2.2.1 u.2.2.2.2.2.2.2.2.2.2.2.2.2.2.2 u.2.2.2.2.2.2.2.2.2.2.2.1 u.2.2.2.2.2.2.2.2.2.1 u.2.2.2.2.2.2.2.2.2.2.1 u.2.2.2.2.2.2.2.2.2.2.2.2.2.2.1 u.2.2.2.2.2.2.2.2.2.2.2.2.2.1 u.2.2.2.2.2.1 wo wz sr u.2.2.2.2.2.2.2.1 u.2.2.2.2.2.2.2.2.1 u.2.2.2.2.2.2.2.2.2.2.2.2.1) → va_S A s.heap H locs → W p l e ({ frames := 10, cells := 0, slots := 0, locals := 218 } : Room) s m args below meth c H locs 0 0 Q (F0 m pc ls [.int r])) : ∀ (ss : Int32) (sa : Int32) (so : Int32) (pl : Int32) (fa : Int32) (op : Int32) (si : Int32) (le : Nat → Int64) (tx : Nat → Int32) (st : Int32) (rq : Int32) (co : Int32) (ro : Nat → Int32) (te : Int32) (bl : Int32) (li : Int32), 0 ≤ Int32.toInt ss → Int32.toInt ss ≤ 400 → 0 ≤ Int32.toInt pl → Int32.toInt pl ≤ 400 → -1 ≤ Int32.toInt fa → Int32.toInt fa ≤ 400 → 0 ≤ Int32.toInt si → Int32.toInt si ≤ 400 → ∀ (H : Heap) (locs : List Loc) (ls : Array Slot), va_P (dC, dI) cls (ME h g ss sa so pl si fa li co st rq bl te op wo wz sr le tx ro) H → va_D A (ME h g ss sa so pl si fa li co st rq bl te op wo wz sr le tx ro) → va_S A s.heap H locs → lv_has ls 2 [(0, .ref (h 0))] → W p l e ({ frames := 10, cells := 0, slots := 0, locals := 218 } : Room) s m args below meth c H locs 0 0 Q (F0 m 0 ls []) := by
  intro ss sa so pl fa op si le tx st rq co ro te bl li v_0 v_1 v_2 v_3 v_4 v_5 v_6 v_7 H locs ls hP hD hS hl
  refine lv_aload_n hx hb d_M_check_0 rfl (lv_at hl 0 rfl) ?_
  refine lv_iconst (v := (-1)) hx hb d_M_check_1 (by decide) ?_
  refine va_put (D := (dC, dI)) (ci := 4) (v := .int (-1)) (ty := .int) (C := "SieveDeskModel") (T := F_M) (N := 19) hx hb ht i_M ty_M ty_M_ok n_M hown hK hP hD hS 0 rfl rfl 10 (by decide) (ht _ k_637) (fun _ h9 => h9) rfl (ty_M_ok 10 (by decide)) rfl rfl (Nat.le_of_ble_eq_true rfl) d_M_check_2 (fun H locs hP hD hS => ?_)
  have hP : va_P (dC, dI) cls (ME h g ss sa so pl si (-1) li co st rq bl te op wo wz sr le tx ro) H := hP
  have hD : va_D A (ME h g ss sa so pl si (-1) li co st rq bl te op wo wz sr le tx ro) := hD
  refine lv_aload_n hx hb d_M_check_5 rfl (lv_at hl 0 rfl) ?_
  refine lv_iconst (v := 0) hx hb d_M_check_6 (by decide) ?_
  refine va_put (D := (dC, dI)) (ci := 4) (v := .int 0) (ty := .int) (C := "SieveDeskModel") (T := F_M) (N := 19) hx hb ht i_M ty_M ty_M_ok n_M hown hK hP hD hS 0 rfl rfl 4 (by decide) (ht _ k_631) (fun _ h9 => h9) rfl (ty_M_ok 4 (by decide)) rfl rfl (Nat.le_of_ble_eq_true rfl) d_M_check_7 (fun H locs hP hD hS => ?_)
  have hP : va_P (dC, dI) cls (ME h g ss 0 so pl si (-1) li co st rq bl te op wo wz sr le tx ro) H := hP
  have hD : va_D A (ME h g ss 0 so pl si (-1) li co st rq bl te op wo wz sr le tx ro) := hD
  refine lv_aload_n hx hb d_M_check_10 rfl (lv_at hl 0 rfl) ?_
  refine lv_iconst (v := 0) hx hb d_M_check_11 (by decide) ?_
  refine va_put (D := (dC, dI)) (ci := 4) (v := .int 0) (ty := .int) (C := "SieveDeskModel") (T := F_M) (N := 19) hx hb ht i_M ty_M ty_M_ok n_M hown hK hP hD hS 0 rfl rfl 12 (by decide) (ht _ k_639) (fun _ h9 => h9) rfl (ty_M_ok 12 (by decide)) rfl rfl (Nat.le_of_ble_eq_true rfl) d_M_check_12 (fun H locs hP hD hS => ?_)
  have hP : va_P (dC, dI) cls (ME h g ss 0 so pl si (-1) li 0 st rq bl te op wo wz sr le tx ro) H := hP
  have hD : va_D A (ME h g ss 0 so pl si (-1) li 0 st rq bl te op wo wz sr le tx ro) := hD
  refine lv_aload_n hx hb d_M_check_15 rfl (lv_at hl 0 rfl) ?_
  refine lv_iconst (v := 0) hx hb d_M_check_16 (by decide) ?_
  refine va_put (D := (dC, dI)) (ci := 4) (v := .int 0) (ty := .int) (C := "SieveDeskModel") (T := F_M) (N := 19) hx hb ht i_M ty_M ty_M_ok n_M hown hK hP hD hS 0 rfl rfl 13 (by decide) (ht _ k_640) (fun _ h9 => h9) rfl (ty_M_ok 13 (by decide)) rfl rfl (Nat.le_of_ble_eq_true rfl) d_M_check_17 (fun H locs hP hD hS => ?_)
  have hP : va_P (dC, dI) cls (ME h g ss 0 so pl si (-1) li 0 0 rq bl te op wo wz sr le tx ro) H := hP
  have hD : va_D A (ME h g ss 0 so pl si (-1) li 0 0 rq bl te op wo wz sr le tx ro) := hD
  refine lv_aload_n hx hb d_M_check_20 rfl (lv_at hl 0 rfl) ?_
  refine lv_iconst (v := 0) hx hb d_M_check_21 (by decide) ?_
  refine va_put (D := (dC, dI)) (ci := 4) (v := .int 0) (ty := .int) (C := "SieveDeskModel") (T := F_M) (N := 19) hx hb ht i_M ty_M ty_M_ok n_M hown hK hP hD hS 0 rfl rfl 14 (by decide) (ht _ k_641) (fun _ h9 => h9) rfl (ty_M_ok 14 (by decide)) rfl rfl (Nat.le_of_ble_eq_true rfl) d_M_check_22 (fun H locs hP hD hS => ?_)
  have hP : va_P (dC, dI) cls (ME h g ss 0 so pl si (-1) li 0 0 0 bl te op wo wz sr le tx ro) H := hP
  have hD : va_D A (ME h g ss 0 so pl si (-1) li 0 0 0 bl te op wo wz sr le tx ro) := hD
  refine lv_aload_n hx hb d_M_check_25 rfl (lv_at hl 0 rfl) ?_
  refine lv_iconst (v := 0) hx hb d_M_check_26 (by decide) ?_
  refine va_put (D := (dC, dI)) (ci := 4) (v := .int 0) (ty := .int) (C := "SieveDeskModel") (T := F_M) (N := 19) hx hb ht i_M ty_M ty_M_ok n_M hown hK hP hD hS 0 rfl rfl 15 (by decide) (ht _ k_642) (fun _ h9 => h9) rfl (ty_M_ok 15 (by decide)) rfl rfl (Nat.le_of_ble_eq_true rfl) d_M_check_27 (fun H locs hP hD hS => ?_)
  have hP : va_P (dC, dI) cls (ME h g ss 0 so pl si (-1) li 0 0 0 0 te op wo wz sr le tx ro) H := hP
  have hD : va_D A (ME h g ss 0 so pl si (-1) li 0 0 0 0 te op wo wz sr le tx ro) := hD
  refine lv_aload_n hx hb d_M_check_30 rfl (lv_at hl 0 rfl) ?_
  refine lv_iconst (v := 0) hx hb d_M_check_31 (by decide) ?_
  refine va_put (D := (dC, dI)) (ci := 4) (v := .int 0) (ty := .int) (C := "SieveDeskModel") (T := F_M) (N := 19) hx hb ht i_M ty_M ty_M_ok n_M hown hK hP hD hS 0 rfl rfl 16 (by decide) (ht _ k_643) (fun _ h9 => h9) rfl (ty_M_ok 16 (by decide)) rfl rfl (Nat.le_of_ble_eq_true rfl) d_M_check_32 (fun H locs hP hD hS => ?_)
  have hP : va_P (dC, dI) cls (ME h g ss 0 so pl si (-1) li 0 0 0 0 0 op wo wz sr le tx ro) H := hP
  have hD : va_D A (ME h g ss 0 so pl si (-1) li 0 0 0 0 0 op wo wz sr le tx ro) := hD
  refine lv_aload_n hx hb d_M_check_35 rfl (lv_at hl 0 rfl) ?_
  refine lv_iconst (v := 0) hx hb d_M_check_36 (by decide) ?_
  refine va_put (D := (dC, dI)) (ci := 4) (v := .int 0) (ty := .int) (C := "SieveDeskModel") (T := F_M) (N := 19) hx hb ht i_M ty_M ty_M_ok n_M hown hK hP hD hS 0 rfl rfl 17 (by decide) (ht _ k_644) (fun _ h9 => h9) rfl (ty_M_ok 17 (by decide)) rfl rfl (Nat.le_of_ble_eq_true rfl) d_M_check_37 (fun H locs hP hD hS => ?_)
  have hP : va_P (dC, dI) cls (ME h g ss 0 so pl si (-1) li 0 0 0 0 0 0 wo wz sr le tx ro) H := hP
  have hD : va_D A (ME h g ss 0 so pl si (-1) li 0 0 0 0 0 0 wo wz sr le tx ro) := hD
  have sk0 : SI [] (-1) 0 ro := fun _ => ⟨trivial, by decide, fun j hj => absurd hj (Nat.not_lt_zero j)⟩
  have hc_0 : Int32.toInt 0 = 0 := by decide
  have hc_m1 : Int32.toInt (-1) = (-1) := by decide
  refine lv_aload_n hx hb d_M_check_40 rfl (lv_at hl 0 rfl) ?_
  have hFc := va_free (wc := (ME h g ss 0 so pl si (-1) li 0 0 0 0 0 0 wo wz sr le tx ro)) hD hS hA [0, 1, 2, 3, 4, 5, 6] rfl
  refine va_callv (va_runV (As := []) (rest := []) ⟨hx, hb, hml, hown, ht⟩ (c_M_next l dC dI k h g ss 0 so pl si (-1) li 0 0 0 0 0 0 wo le wz sr tx ro  _ (by omega) (by omega) (by omega) (by omega) (by omega) (by omega) (by omega) (by omega) (by omega) (by omega) (by omega)) (cwV 0 ht (g_V k_694 k_696 k_37 k_80 k_697) rfl rfl rfl (by decide +kernel) ⟨(Nat.le_of_ble_eq_true rfl), (Nat.le_of_ble_eq_true rfl)⟩) ⟨fb_X, va_recv hK hP (ci := 4) (q0 := 0) rfl rfl, pre_X hE hS hFc hP hK hD⟩ rfl rfl hl.1 rfl (lv_room (Nat.le_of_ble_eq_true rfl)) d_M_check_41 ⟨(Nat.le_of_ble_eq_true rfl), (Nat.le_of_ble_eq_true rfl)⟩) hS (fun q _ h9 => hFc q h9) hFc (fun u_129 t H locs het hvm hw hB hz1 hk1 hS => ?_)
  obtain ⟨sa_121, so_122, pl_123, fa_124, op_125, si_126, le_127, tx_128⟩ := u_129
  try dsimp only at hw
  obtain ⟨p_131, p_132, p_133, p_134, p_135, p_136, p_137, p_138, p_139, p_140, p_141⟩ := hw
  obtain ⟨hP1, hK1, hD1⟩ := hB
  rw [het] at hP1
  have hP : va_P (dC, dI) cls (ME h g ss sa_121 so_122 pl_123 si_126 fa_124 li 0 0 0 0 0 op_125 wo wz sr le_127 tx_128 ro) H := hP1
  have hD : va_D A (ME h g ss sa_121 so_122 pl_123 si_126 fa_124 li 0 0 0 0 0 op_125 wo wz sr le_127 tx_128 ro) := hD1.weaken (fun _ _ _ h9 => hFc _ h9)
  have sk_142 : SI ([]) fa_124 op_125 ro := SI_pr sk0 p_140
  exact (lp_M_check_44  hx hb hml hown ht hE hA hK  fin _) ss sa_121 so_122 pl_123 fa_124 op_125 si_126 le_127 tx_128 0 0 0 ro 0 0 li (by omega) (by omega) (by omega) (by omega) (by omega) sk_142 (by omega) (by omega) (by omega) (by omega) (by omega) (by omega) (by omega) (by omega) (Nat.lt_succ_self _) _ _ ls hP hD hS (lv_sub hl [0] rfl)
set_option maxHeartbeats 4000000 in
set_option maxRecDepth 100000 in
theorem c_M_check (l : Launch) (dC : Nat → ClassId) (dI : Nat → Nat → Nat) (k : Nat → Nat) (h : Nat → Nat) (g : Nat → ClassId) (ss : Int32) (sa : Int32) (so : Int32) (pl : Int32) (si : Int32) (fa : Int32) (li : Int32) (co : Int32) (st : Int32) (rq : Int32) (bl : Int32) (te : Int32) (op : Int32) (wo : Nat → Int64) (le : Nat → Int64) (wz : Nat → Int32) (sr : Nat → Int32) (tx : Nat → Int32) (ro : Nat → Int32)  (sz : Nat)  (v_0 : 0 ≤ Int32.toInt ss) (v_1 : Int32.toInt ss ≤ 400) (v_2 : 0 ≤ Int32.toInt pl) (v_3 : Int32.toInt pl ≤ 400) (v_4 : -1 ≤ Int32.toInt fa) (v_5 : Int32.toInt fa ≤ 400) (v_6 : 0 ≤ Int32.toInt si) (v_7 : Int32.toInt si ≤ 400) : Met l y_M_check (.code y_M_check b_M_check 2 (some .int) :: TT) ({ frames := 10, cells := 0, slots := 0, locals := 218 }) (va_Pc [.ref (h 0)] (PX dC dI k (TM g) (ME h g ss sa so pl si fa li co st rq bl te op wo wz sr le tx ro) sz)) (va_Qi (fun (r : Int32) (u : Int32 × Int32 × Int32 × Int32 × Int32 × Int32 × Int32 × (Nat → Int64) × (Nat → Int32) × Int32 × Int32 × Int32 × (Nat → Int32) × Int32 × Int32 × Int32) => 0 ≤ Int32.toInt u.1 ∧ Int32.toInt u.1 ≤ 400 ∧ 0 ≤ Int32.toInt u.2.2.2.1 ∧ Int32.toInt u.2.2.2.1 ≤ 400 ∧ -1 ≤ Int32.toInt u.2.2.2.2.1 ∧ Int32.toInt u.2.2.2.2.1 ≤ 400 ∧ 0 ≤ Int32.toInt u.2.2.2.2.2.2.1 ∧ Int32.toInt u.2.2.2.2.2.2.1 ≤ 400 ∧ u.1 = 0) (fun u t => BX dC dI (TM g) (va_A (ME h g ss sa so pl si fa li co st rq bl te op wo wz sr le tx ro) sz) (ME h g u.1 u.2.1 u.2.2.1 u.2.2.2.1 u.2.2.2.2.2.2.1 u.2.2.2.2.1 u.2.2.2.2.2.2.2.2.2.2.2.2.2.2.2 u.2.2.2.2.2.2.2.2.2.2.2.1 u.2.2.2.2.2.2.2.2.2.1 u.2.2.2.2.2.2.2.2.2.2.1 u.2.2.2.2.2.2.2.2.2.2.2.2.2.2.1 u.2.2.2.2.2.2.2.2.2.2.2.2.2.1 u.2.2.2.2.2.1 wo wz sr u.2.2.2.2.2.2.2.1 u.2.2.2.2.2.2.2.2.1 u.2.2.2.2.2.2.2.2.2.2.2.2.1) t) (va_A (ME h g ss sa so pl si fa li co st rq bl te op wo wz sr le tx ro) sz)) 0 0 (va_A (ME h g ss sa so pl si fa li co st rq bl te op wo wz sr le tx ro) sz) := by
  refine Met.ofW (cc := b_M_check) (maxL := 2) (ret := (some .int)) (by decide) rfl ?_
  intro p e s m args below meth c s₁ B hml hv
  obtain ⟨rfl, hsz, hE, hP, hK, hD0⟩ := hv
  have hx := B.exec
  have hb := B.bytes
  have hr := B.returns
  have ht : ∀ w ∈ TT, w.before _ s = true := fun w hw => atoms_spec (ws := .code y_M_check b_M_check 2 (some .int) :: TT) B.pre w (List.mem_cons_of_mem _ hw)
  have hown : s.vm.findClass "SieveDeskModel" = some m.cls := findClass_of_methodNamed B.named
  have hlocks := B.notSynchronized
  subst hsz
  have hD := hD0.self (sz := s.heap.size)
  generalize hAe : va_A (ME h g ss sa so pl si fa li co st rq bl te op wo wz sr le tx ro) s.heap.size = A at hE hD ⊢
  have hA : ∀ q : Nat, s.heap.size ≤ q → A q := fun q h9 => by rw [← hAe]; exact Or.inr h9
  have hS : va_S A s.heap s.heap [] := va_S.rf
  have hl := lv_entry ([.ref (h 0)]) (n := 2) (Nat.le_of_ble_eq_true rfl)
  rw [lg_entry_eq]
  generalize (lg_sl ([.ref (h 0)]) ++ List.replicate (2 - (lg_sl ([.ref (h 0)])).length) Slot.unset).toArray = ls at hl ⊢
  have hl : lv_has ls 2 [(0, .ref (h 0))] := hl
  exact bd_M_check_0  hx hb hml hown ht hE hA hK  (fun r u H locs pc ls hd hp hP hD hS => W.iret hx hb hr (fun t het hW => ⟨⟨r, u, rfl, hp, by rw [het]; exact hP, va_K.moved hW.alike hK, hD⟩, hS.F het⟩) hS.2.2 hd) ss sa so pl fa op si le tx st rq co ro te bl li v_0 v_1 v_2 v_3 v_4 v_5 v_6 v_7 _ _ ls hP hD hS hl

/-! THE CLAIM OUT OF ONE WALK OF THE LAW'S BODY. Your part is whole_start (and what it stands on); all else here is the same for every law, but numbers. -/
def R_law : String := "SieveDeskLaw"
def lw_P (b : Addr) (xs : List Int32) (args : Array Value) (s : State) : Prop := args = #[.ref b] ∧ s.IntsAt b xs ∧ xs.length ≤ 4 ∧ (Jvm.Cond.and given_1 narrow_1).before args s = true
def lw_Q (_ : Array Value) (s : State) (o : Outcome) (t : State) : Prop := o = .returned (some (.int 1)) ∧ Framed s o t [] 18 4222
def lw_Z (below : List Frame) (a : Array Value) (s : State) : State → Prop := fun t => ∃ o, t.status = .running ∧ Ended t below o ∧ lw_Q a s o t
/-- the law's own end, with 1 on the stack, nothing written that was there before, its room as the claim has it -/
theorem lw_ret {p : Program} {l : Launch} {e : Env} {s : State} {m : MethodId} {below : List Frame} {meth : Method} {c : Code} {b : Nat} (hx : p.tables.exec = Jvm.exec) (hb : c.code = code) (hr : meth.sig.returnType = ret) (hlocks : meth.locks = false) {pc : Nat} {H : Heap} {ls : Array Slot} (hdg : decode code pc = .ok (.ireturn, 1)) : W p l e room_1 s m #[Value.ref b] below meth c H [] 18 4222 (lw_Z below #[Value.ref b] s) (F0 m pc ls [.int 1]) := by
  intro T hT X
  obtain ⟨fs, hret, hrun, hended, hW, hframe⟩ := X.leave (v := some (.int 1)) (hlocks := hlocks) (fun h => by rw [hr] at h; cases h)
  have hmeth' : T.vm.method? m = some meth := X.method'
  refine ⟨T.setFrames fs, ?_, .returned (some (.int 1)), hrun, hended, rfl, ⟨_, rfl⟩, hW, hframe⟩
  jvm_step X.here [X.here.top, hx, hb, hdg, hmeth', hr, ret, narrow_b1]
  (try refine ⟨rfl, ?_⟩); (try refine ⟨rfl, ?_⟩)
  first | (intro acts; rw [hret _ acts rfl rfl rfl]) | rw [hret _ _ rfl rfl rfl]
  exact Steps.refl _
/-- what holds at the law's entry: the machine, the code, the tables' words (any of lw_tbl by 'hts w (by decide +kernel)'), the script of L ints xs at the cell b, what the Statement gives of the start (any of its parts by flat_of_before) -/
def lw_At (p : Program) (s : State) (m : MethodId) (meth : Method) (c : Code) (b L : Nat) (xs : Nat → Int32) : Prop :=
  p.tables.exec = Jvm.exec ∧ c.code = code ∧ meth.sig.returnType = ret ∧ c.maxLocals = 4 ∧ s.vm.findClass R_law = some m.cls ∧ (∀ w ∈ lw_tbl, w.before #[Value.ref b] s = true) ∧ va_X b L xs s s.heap ∧ b < s.heap.size ∧ meth.locks = false ∧ (Jvm.Cond.and given_1 narrow_1).before #[Value.ref b] s = true
theorem put_eq {L : Nat} {n r1 r2 : Int32} {a b : Nat} (h1 : (r1 = 1 ∧ okP L n a) ∨ (r1 = 0 ∧ a = L ∧ ∀ L1, ¬ okP L n L1)) (h2 : (r2 = 1 ∧ okP L n b) ∨ (r2 = 0 ∧ b = L ∧ ∀ L1, ¬ okP L n L1)) : r1 = r2 := by
  rcases h1 with ⟨rfl, p1⟩ | ⟨rfl, _, p1⟩ <;> rcases h2 with ⟨rfl, p2⟩ | ⟨rfl, _, p2⟩
  · rfl
  · exact absurd p1 (p2 _)
  · exact absurd p2 (p1 _)
  · rfl
set_option maxHeartbeats 4000000 in
set_option maxRecDepth 100000 in
theorem whole_start {p : Program} {e : Env} {s : State} {m : MethodId} {below : List Frame} {meth : Method} {c : Code} (l : Launch) {b L : Nat} {xs : Nat → Int32} (hL : L ≤ 4) (C0 : lw_At p s m meth c b L xs) : W p l e room_1 s m #[Value.ref b] below meth c s.heap [] 0 0 (lw_Z below #[Value.ref b] s) (entryFrame m ([Value.ref b] : List Value).toArray 4) := by
  obtain ⟨hx, hb, hr, hml, hown, hts, hX, hbl, hlocks, hgv⟩ := id C0
  have ht : ∀ w ∈ TT, w.before #[Value.ref b] s = true := fun w h9 => hts w (tt_tbl h9)
  obtain ⟨k, hE⟩ := ke_start hts hgv
  have hA : ∀ q : Nat, s.heap.size ≤ q → (fun q : Nat => s.heap.size ≤ q) q := fun _ h9 => h9
  have hbA : ¬ (fun q : Nat => s.heap.size ≤ q) b := Nat.not_le.mpr hbl
  obtain ⟨c0, iS0, hKn0⟩ := u_known (C := "SieveDesk") (T := F_S) (N := 5) (n := 5) ht i_S (ht _ k_89)
  obtain ⟨c1, iS1, hKn1⟩ := u_known (C := "SieveDesk$Tokens") (T := F_T) (N := 9) (n := 9) ht i_T (ht _ k_97)
  obtain ⟨c2, iS2, hKn2⟩ := u_known (C := "SieveDesk$Quoted") (T := F_Q) (N := 2) (n := 2) ht i_Q (ht _ k_105)
  obtain ⟨c3, iS3, hKn3⟩ := u_known (C := "SieveDesk$Grammar") (T := F_G) (N := 14) (n := 14) ht i_G (ht _ k_153)
  obtain ⟨c4, iS4, hKn4⟩ := u_known (C := "SieveDeskModel") (T := F_M) (N := 19) (n := 19) ht i_M (ht _ k_558)
  obtain ⟨dC, dI, hKc⟩ : ∃ (dC : Nat → ClassId) (dI : Nat → Nat → Nat), ∀ (k : Nat) (q : vw_C), cls[k]? = some q → u_Kn s q.1 q.2.1 q.2.2 (dC k) (dI k) := by
    refine ⟨fun k => match k with | 0 => c0 | 1 => c1 | 2 => c2 | 3 => c3 | _ => c4, fun k => match k with | 0 => iS0 | 1 => iS1 | 2 => iS2 | 3 => iS3 | _ => iS4, ?_⟩
    intro k q hq
    match k, hq with
    | 0, hq => cases hq; exact hKn0
    | 1, hq => cases hq; exact hKn1
    | 2, hq => cases hq; exact hKn2
    | 3, hq => cases hq; exact hKn3
    | 4, hq => cases hq; exact hKn4
    | k + 5, hq => simp [cls] at hq
  have hS : va_S (fun q : Nat => s.heap.size ≤ q) s.heap s.heap [] := va_S.rf
  have hK : va_K (dC, dI) cls [] s := ⟨hKc, fun k q h9 => by simp at h9⟩
  have hP : va_P (dC, dI) cls [] s.heap := fun k q h9 => by simp at h9
  have hD : va_D (fun q : Nat => s.heap.size ≤ q) [] := ⟨fun i j p q h9 => by simp at h9, fun k q h9 => by simp at h9⟩
  have hl := lv_entry ([.ref b]) (n := 4) (Nat.le_of_ble_eq_true rfl)
  rw [lg_entry_eq]
  generalize (lg_sl ([.ref b]) ++ List.replicate (4 - (lg_sl ([.ref b])).length) Slot.unset).toArray = ls at hl ⊢
  have hl : lv_has ls 4 [(0, .ref b)] := hl
  refine va_new (ci := 0) (fs := [.null, .null, .null, .int 0, .int 0]) (C := "SieveDesk") (T := F_S) (N := 5) hx hb ht i_S ty_S ty_S_ok hown (ht _ k_88) (ht _ k_89) (ht _ k_74) hK hP hD hS hA rfl (by decide +kernel) (Nat.le_of_ble_eq_true rfl) (Nat.le_of_ble_eq_true rfl) d_L_law_0 (fun q_1 H hP hD hS => ?_)
  have hP : va_P (dC, dI) cls [(q_1, .inr (0, [.null, .null, .null, .int 0, .int 0]))] H := hP
  have hD : va_D (fun q : Nat => s.heap.size ≤ q) [(q_1, .inr (0, [.null, .null, .null, .int 0, .int 0]))] := hD
  refine W.widen (k := 1) (n := 5) (by decide) (by decide) ?_
  refine lv_dup hx hb d_L_law_3 rfl ?_
  have hPc := hP.sub (ws' := [(q_1, .inr (0, [.null, .null, .null, .int 0, .int 0]))]) [0] rfl
  have hDc := hD.sub (ws' := [(q_1, .inr (0, [.null, .null, .null, .int 0, .int 0]))]) [0] (by decide) rfl
  have hKc := hK.sub (tys' := []) [] rfl
  have hFc := va_free (wc := [(q_1, .inr (0, [.null, .null, .null, .int 0, .int 0]))]) hD hS hA [0] rfl
  refine va_callv (va_runI (As := []) (rest := [.ref q_1]) ⟨hx, hb, hml, hown, ht⟩ (c_S_init l dC dI k q_1 H.size) (cwI 0 ht (g_C k_92) rfl rfl rfl (ht _ k_74) (ht _ k_90) (ht _ k_91) rfl (by decide +kernel) ⟨(Nat.le_of_ble_eq_true rfl), (Nat.le_of_ble_eq_true rfl)⟩) ⟨fb_X, pre_X hE hS hFc hPc hKc hDc⟩ rfl rfl hl.1 rfl (lv_room (Nat.le_of_ble_eq_true rfl)) d_L_law_4 ⟨(Nat.le_of_ble_eq_true rfl), (Nat.le_of_ble_eq_true rfl)⟩) hS (fun q _ h9 => hFc q h9) hFc (fun u t H1 locs het hvm hw hB hz1 hk1 hS => ?_)
  obtain ⟨h, g⟩ := u
  obtain ⟨hP1, hK1, hD1⟩ := hB
  rw [het] at hP1
  have hK1 := va_K.moved hvm.symm hK1
  obtain rfl : h 0 = q_1 := hw
  obtain ⟨hP, hD⟩ := va_join (wr := []) (w1 := (WE h g 0 (-1) 0 0 0 0 0 0 0 (.ref (k 0)) (.ref (k 0)) 0 0 0 0 0 0 0 (fun _ => 0) (fun _ => 0) (fun _ => 0) (fun _ => none) (fun _ => 0) (fun _ => 0) (fun _ => 0))) hP hD [0] [] rfl rfl (by decide) (by decide) hk1 hFc hP1 hD1
  have hK := hK.app hK1
  generalize H1 = H at hP hS ⊢
  have hP : va_P (dC, dI) cls (WE h g 0 (-1) 0 0 0 0 0 0 0 (.ref (k 0)) (.ref (k 0)) 0 0 0 0 0 0 0 (fun _ => 0) (fun _ => 0) (fun _ => 0) (fun _ => none) (fun _ => 0) (fun _ => 0) (fun _ => 0)) H := hP
  have hD : va_D (fun q : Nat => s.heap.size ≤ q) (WE h g 0 (-1) 0 0 0 0 0 0 0 (.ref (k 0)) (.ref (k 0)) 0 0 0 0 0 0 0 (fun _ => 0) (fun _ => 0) (fun _ => 0) (fun _ => none) (fun _ => 0) (fun _ => 0) (fun _ => 0)) := hD
  have hK : va_K (dC, dI) cls (TE g) s := hK
  refine W.widen (k := 11) (n := 2434) (by decide) (by decide) ?_
  refine lv_astore_n (lv' := [(1, .ref (h 0)), (0, .ref b)]) hx hb d_L_law_7 rfl hl (by decide) rfl (fun ls hl => ?_)
  refine va_new (ci := 4) (fs := [.null, .null, .null, .int 0, .int 0, .int 0, .int 0, .int 0, .null, .null, .int 0, .int 0, .int 0, .int 0, .int 0, .int 0, .int 0, .int 0, .null]) (C := "SieveDeskModel") (T := F_M) (N := 19) hx hb ht i_M ty_M ty_M_ok hown (ht _ k_557) (ht _ k_558) (ht _ k_80) hK hP hD hS hA rfl (by decide +kernel) (Nat.le_of_ble_eq_true rfl) (Nat.le_of_ble_eq_true rfl) d_L_law_8 (fun q_9 H hP hD hS => ?_)
  have hP : va_P (dC, dI) cls ((WE h g 0 (-1) 0 0 0 0 0 0 0 (.ref (k 0)) (.ref (k 0)) 0 0 0 0 0 0 0 (fun _ => 0) (fun _ => 0) (fun _ => 0) (fun _ => none) (fun _ => 0) (fun _ => 0) (fun _ => 0)) ++ [(q_9, .inr (4, [.null, .null, .null, .int 0, .int 0, .int 0, .int 0, .int 0, .null, .null, .int 0, .int 0, .int 0, .int 0, .int 0, .int 0, .int 0, .int 0, .null]))]) H := hP
  have hD : va_D (fun q : Nat => s.heap.size ≤ q) ((WE h g 0 (-1) 0 0 0 0 0 0 0 (.ref (k 0)) (.ref (k 0)) 0 0 0 0 0 0 0 (fun _ => 0) (fun _ => 0) (fun _ => 0) (fun _ => none) (fun _ => 0) (fun _ => 0) (fun _ => 0)) ++ [(q_9, .inr (4, [.null, .null, .null, .int 0, .int 0, .int 0, .int 0, .int 0, .null, .null, .int 0, .int 0, .int 0, .int 0, .int 0, .int 0, .int 0, .int 0, .null]))]) := hD
  refine W.widen (k := 12) (n := 2453) (by decide) (by decide) ?_
  refine lv_dup hx hb d_L_law_11 rfl ?_
  have hPc := hP.sub (ws' := [(q_9, .inr (4, [.null, .null, .null, .int 0, .int 0, .int 0, .int 0, .int 0, .null, .null, .int 0, .int 0, .int 0, .int 0, .int 0, .int 0, .int 0, .int 0, .null]))]) [11] rfl
  have hDc := hD.sub (ws' := [(q_9, .inr (4, [.null, .null, .null, .int 0, .int 0, .int 0, .int 0, .int 0, .null, .null, .int 0, .int 0, .int 0, .int 0, .int 0, .int 0, .int 0, .int 0, .null]))]) [11] (by decide) rfl
  have hKc := hK.sub (tys' := []) [] rfl
  have hFc := va_free (wc := [(q_9, .inr (4, [.null, .null, .null, .int 0, .int 0, .int 0, .int 0, .int 0, .null, .null, .int 0, .int 0, .int 0, .int 0, .int 0, .int 0, .int 0, .int 0, .null]))]) hD hS hA [11] rfl
  refine va_callv (va_runI (As := []) (rest := [.ref q_9]) ⟨hx, hb, hml, hown, ht⟩ (c_M_init l dC dI k q_9 H.size) (cwI 0 ht (g_C k_561) rfl rfl rfl (ht _ k_80) (ht _ k_559) (ht _ k_560) rfl (by decide +kernel) ⟨(Nat.le_of_ble_eq_true rfl), (Nat.le_of_ble_eq_true rfl)⟩) ⟨fb_X, pre_X hE hS hFc hPc hKc hDc⟩ rfl rfl hl.1 rfl (lv_room (Nat.le_of_ble_eq_true rfl)) d_L_law_12 ⟨(Nat.le_of_ble_eq_true rfl), (Nat.le_of_ble_eq_true rfl)⟩) hS (fun q _ h9 => hFc q h9) hFc (fun u t H1 locs het hvm hw hB hz1 hk1 hS => ?_)
  obtain ⟨⟨h2, g2⟩, ⟨wo, wz⟩⟩ := u
  obtain ⟨hP1, hK1, hD1⟩ := hB
  rw [het] at hP1
  have hK1 := va_K.moved hvm.symm hK1
  obtain rfl : h2 0 = q_9 := hw
  obtain ⟨hP, hD⟩ := va_join (wr := (WE h g 0 (-1) 0 0 0 0 0 0 0 (.ref (k 0)) (.ref (k 0)) 0 0 0 0 0 0 0 (fun _ => 0) (fun _ => 0) (fun _ => 0) (fun _ => none) (fun _ => 0) (fun _ => 0) (fun _ => 0))) (w1 := (ME h2 g2 0 0 0 0 0 (-1) 0 0 0 0 0 0 0 wo wz (fun _ => 0) (fun _ => 0) (fun _ => 0) (fun _ => 0))) hP hD [11] [0, 1, 2, 3, 4, 5, 6, 7, 8, 9, 10] rfl rfl (by decide) (by decide) hk1 hFc hP1 hD1
  have hK := hK.app hK1
  generalize H1 = H at hP hS ⊢
  have hP : va_P (dC, dI) cls ((WE h g 0 (-1) 0 0 0 0 0 0 0 (.ref (k 0)) (.ref (k 0)) 0 0 0 0 0 0 0 (fun _ => 0) (fun _ => 0) (fun _ => 0) (fun _ => none) (fun _ => 0) (fun _ => 0) (fun _ => 0)) ++ (ME h2 g2 0 0 0 0 0 (-1) 0 0 0 0 0 0 0 wo wz (fun _ => 0) (fun _ => 0) (fun _ => 0) (fun _ => 0))) H := hP
  have hD : va_D (fun q : Nat => s.heap.size ≤ q) ((WE h g 0 (-1) 0 0 0 0 0 0 0 (.ref (k 0)) (.ref (k 0)) 0 0 0 0 0 0 0 (fun _ => 0) (fun _ => 0) (fun _ => 0) (fun _ => none) (fun _ => 0) (fun _ => 0) (fun _ => 0)) ++ (ME h2 g2 0 0 0 0 0 (-1) 0 0 0 0 0 0 0 wo wz (fun _ => 0) (fun _ => 0) (fun _ => 0) (fun _ => 0))) := hD
  have hK : va_K (dC, dI) cls ((TE g) ++ (TM g2)) s := hK
  refine W.widen (k := 18) (n := 4222) (by decide) (by decide) ?_
  refine lv_astore_n (lv' := [(2, .ref (h2 0)), (1, .ref (h 0)), (0, .ref b)]) hx hb d_L_law_15 rfl hl (by decide) rfl (fun ls hl => ?_)
  refine lv_iconst (v := 0) hx hb d_L_law_16 (by decide) ?_
  refine lv_istore_n (lv' := [(3, .int 0), (2, .ref (h2 0)), (1, .ref (h 0)), (0, .ref b)]) hx hb d_L_law_17 rfl hl (by decide) rfl (fun ls hl => ?_)
  by_cases hL4 : L = 4
  · subst hL4
    refine lv_iload_n hx hb d_L_law_18 rfl (lv_at hl 0 rfl) ?_
    refine lv_aload_n hx hb d_L_law_19 rfl (lv_at hl 3 rfl) ?_
    refine va_slen hx hb hX hbl hbA hS d_L_law_20 ?_
    refine lv_iconst (v := 4) hx hb d_L_law_21 (by decide) ?_
    refine lv_isub hx hb d_L_law_22 ?_
    refine lv_ev (show Int32.ofNat 4 - 4 = 0 by decide) ?_
    refine lv_icmp_gt (tgt := 178) hx hb d_L_law_23 (by decide) (fun cn => absurd cn (by decide)) (fun _ => ?_)
    refine lv_aload_n hx hb d_L_law_26 rfl (lv_at hl 3 rfl) ?_
    refine lv_iload_n hx hb d_L_law_27 rfl (lv_at hl 0 rfl) ?_
    refine va_sld hx hb hX hbl hbA hS (by unfold vp_in; decide) d_L_law_28 ?_
    refine lv_iconst (v := 3) hx hb d_L_law_29 (by decide) ?_
    refine lv_iand hx hb d_L_law_30 ?_
    obtain ⟨j, hj, ej⟩ := pk_andE (xs (Int32.toNatClampNeg 0)) (m := 3) 2 (by decide)
    refine lv_ev ej ?_
    rcases (show j = 0 ∨ j = 1 ∨ j = 2 ∨ j = 3 by have : j < 4 := hj; omega) with rfl | rfl | rfl | rfl
    · refine lv_ev (show nI 0 = 0 from rfl) ?_
      refine lv_tableIn (off := 29) (tgt := 60) hx hb d_L_law_31 (by decide) (by decide) (by decide) (by decide) ?_
      refine lv_aload_n hx hb d_L_law_60 rfl (lv_at hl 2 rfl) ?_
      refine lv_aload_n hx hb d_L_law_61 rfl (lv_at hl 3 rfl) ?_
      refine lv_iload_n hx hb d_L_law_62 rfl (lv_at hl 0 rfl) ?_
      refine lv_iconst (v := 1) hx hb d_L_law_63 (by decide) ?_
      refine lv_iadd hx hb d_L_law_64 ?_
      refine lv_ev (show (0 : Int32) + 1 = 1 by decide) ?_
      refine va_sld hx hb hX hbl hbA hS (by unfold vp_in; decide) d_L_law_65 ?_
      refine lv_i2l (v := (Int32.toInt64 (xs (Int32.toNatClampNeg 1)))) hx hb d_L_law_66 rfl ?_
      refine lv_bipush (v := 32) hx hb d_L_law_67 (by decide) ?_
      refine lv_lshl (v := ((Int32.toInt64 (xs (Int32.toNatClampNeg 1))) <<< ((Int32.toInt64 32) &&& 63))) hx hb d_L_law_69 rfl ?_
      refine lv_aload_n hx hb d_L_law_70 rfl (lv_at hl 3 rfl) ?_
      refine lv_iload_n hx hb d_L_law_71 rfl (lv_at hl 0 rfl) ?_
      refine lv_iconst (v := 2) hx hb d_L_law_72 (by decide) ?_
      refine lv_iadd hx hb d_L_law_73 ?_
      refine lv_ev (show (0 : Int32) + 2 = 2 by decide) ?_
      refine va_sld hx hb hX hbl hbA hS (by unfold vp_in; decide) d_L_law_74 ?_
      refine lv_i2l (v := (Int32.toInt64 (xs (Int32.toNatClampNeg 2)))) hx hb d_L_law_75 rfl ?_
      refine lv_ldc2 (v := 4294967295) hx hb hown (ht _ k_866) d_L_law_76 ?_
      refine lv_land hx hb d_L_law_79 ?_
      refine lv_lor hx hb d_L_law_80 ?_
      refine lv_aload_n hx hb d_L_law_81 rfl (lv_at hl 3 rfl) ?_
      refine lv_iload_n hx hb d_L_law_82 rfl (lv_at hl 0 rfl) ?_
      refine lv_iconst (v := 3) hx hb d_L_law_83 (by decide) ?_
      refine lv_iadd hx hb d_L_law_84 ?_
      refine lv_ev (show (0 : Int32) + 3 = 3 by decide) ?_
      refine va_sld hx hb hX hbl hbA hS (by unfold vp_in; decide) d_L_law_85 ?_
      have hPc := hP.sub (ws' := (WE h g 0 (-1) 0 0 0 0 0 0 0 (.ref (k 0)) (.ref (k 0)) 0 0 0 0 0 0 0 (fun _ => 0) (fun _ => 0) (fun _ => 0) (fun _ => none) (fun _ => 0) (fun _ => 0) (fun _ => 0))) [0, 1, 2, 3, 4, 5, 6, 7, 8, 9, 10] rfl
      have hDc := hD.sub (ws' := (WE h g 0 (-1) 0 0 0 0 0 0 0 (.ref (k 0)) (.ref (k 0)) 0 0 0 0 0 0 0 (fun _ => 0) (fun _ => 0) (fun _ => 0) (fun _ => none) (fun _ => 0) (fun _ => 0) (fun _ => 0))) [0, 1, 2, 3, 4, 5, 6, 7, 8, 9, 10] (by decide) rfl
      have hKc := hK.sub (tys' := (TE g)) [0, 1, 2, 3, 4, 5, 6] rfl
      have hFc := va_free (wc := (WE h g 0 (-1) 0 0 0 0 0 0 0 (.ref (k 0)) (.ref (k 0)) 0 0 0 0 0 0 0 (fun _ => 0) (fun _ => 0) (fun _ => 0) (fun _ => none) (fun _ => 0) (fun _ => 0) (fun _ => 0))) hD hS hA [0, 1, 2, 3, 4, 5, 6, 7, 8, 9, 10] rfl
      refine va_calli (va_runV (As := [.long (((Int32.toInt64 (xs (Int32.toNatClampNeg 1))) <<< ((Int32.toInt64 32) &&& 63)) ||| ((Int32.toInt64 (xs (Int32.toNatClampNeg 2))) &&& 4294967295)), .int (xs (Int32.toNatClampNeg 3))]) (rest := []) ⟨hx, hb, hml, hown, ht⟩ (c_S_put l dC dI k h g 0 (-1) 0 0 0 0 0 0 0 0 0 0 0 0 0 0 (.ref (k 0)) (.ref (k 0)) (fun _ => 0) (fun _ => 0) (fun _ => 0) (fun _ => 0) (fun _ => 0) (fun _ => 0) (fun _ => none) (((Int32.toInt64 (xs (Int32.toNatClampNeg 1))) <<< ((Int32.toInt64 32) &&& 63)) ||| ((Int32.toInt64 (xs (Int32.toNatClampNeg 2))) &&& 4294967295)) (xs (Int32.toNatClampNeg 3)) H.size (by decide)) (cwV 2 ht (g_V k_223 k_224 k_225 k_74 k_226) rfl rfl rfl (by decide +kernel) ⟨(Nat.le_of_ble_eq_true rfl), (Nat.le_of_ble_eq_true rfl)⟩) ⟨fb_X, va_recv hKc hPc (ci := 0) (q0 := 0) rfl rfl, pre_X hE hS hFc hPc hKc hDc⟩ rfl rfl hl.1 rfl (lv_room (Nat.le_of_ble_eq_true rfl)) d_L_law_86 ⟨(Nat.le_of_ble_eq_true rfl), (Nat.le_of_ble_eq_true rfl)⟩) hS (fun q _ h9 => hFc q h9) hFc (fun r_2 u_3 t H1 locs het hvm hw hB hz1 hk1 hS => ?_)
      obtain ⟨hP1, hK1, hD1⟩ := hB
      rw [het] at hP1
      have hx1 := hw
      obtain ⟨hP, hD⟩ := va_join (wr := (ME h2 g2 0 0 0 0 0 (-1) 0 0 0 0 0 0 0 wo wz (fun _ => 0) (fun _ => 0) (fun _ => 0) (fun _ => 0))) (w1 := (WE h g (nI u_3.1) (-1) 0 0 0 0 0 0 0 (.ref (k 0)) (.ref (k 0)) 0 0 0 0 0 0 0 u_3.2 (fun _ => 0) (fun _ => 0) (fun _ => none) (fun _ => 0) (fun _ => 0) (fun _ => 0))) hP hD [0, 1, 2, 3, 4, 5, 6, 7, 8, 9, 10] [11, 12, 13, 14, 15, 16, 17] rfl rfl (by decide) (by decide) hk1 hFc hP1 hD1
      have hK1 := va_K.moved hvm.symm hK1
      have hK := (hK.sub (tys' := (TM g2)) [7, 8, 9, 10, 11, 12] rfl).app hK1
      generalize H1 = H at hP hS ⊢
      have hP : va_P (dC, dI) cls ((ME h2 g2 0 0 0 0 0 (-1) 0 0 0 0 0 0 0 wo wz (fun _ => 0) (fun _ => 0) (fun _ => 0) (fun _ => 0)) ++ (WE h g (nI u_3.1) (-1) 0 0 0 0 0 0 0 (.ref (k 0)) (.ref (k 0)) 0 0 0 0 0 0 0 u_3.2 (fun _ => 0) (fun _ => 0) (fun _ => none) (fun _ => 0) (fun _ => 0) (fun _ => 0))) H := hP
      have hD : va_D (fun q : Nat => s.heap.size ≤ q) ((ME h2 g2 0 0 0 0 0 (-1) 0 0 0 0 0 0 0 wo wz (fun _ => 0) (fun _ => 0) (fun _ => 0) (fun _ => 0)) ++ (WE h g (nI u_3.1) (-1) 0 0 0 0 0 0 0 (.ref (k 0)) (.ref (k 0)) 0 0 0 0 0 0 0 u_3.2 (fun _ => 0) (fun _ => 0) (fun _ => none) (fun _ => 0) (fun _ => 0) (fun _ => 0))) := hD
      have hK : va_K (dC, dI) cls ((TM g2) ++ (TE g)) s := hK
      refine lv_aload_n hx hb d_L_law_89 rfl (lv_at hl 1 rfl) ?_
      refine lv_aload_n hx hb d_L_law_90 rfl (lv_at hl 3 rfl) ?_
      refine lv_iload_n hx hb d_L_law_91 rfl (lv_at hl 0 rfl) ?_
      refine lv_iconst (v := 1) hx hb d_L_law_92 (by decide) ?_
      refine lv_iadd hx hb d_L_law_93 ?_
      refine lv_ev (show (0 : Int32) + 1 = 1 by decide) ?_
      refine va_sld hx hb hX hbl hbA hS (by unfold vp_in; decide) d_L_law_94 ?_
      refine lv_i2l (v := (Int32.toInt64 (xs (Int32.toNatClampNeg 1)))) hx hb d_L_law_95 rfl ?_
      refine lv_bipush (v := 32) hx hb d_L_law_96 (by decide) ?_
      refine lv_lshl (v := ((Int32.toInt64 (xs (Int32.toNatClampNeg 1))) <<< ((Int32.toInt64 32) &&& 63))) hx hb d_L_law_98 rfl ?_
      refine lv_aload_n hx hb d_L_law_99 rfl (lv_at hl 3 rfl) ?_
      refine lv_iload_n hx hb d_L_law_100 rfl (lv_at hl 0 rfl) ?_
      refine lv_iconst (v := 2) hx hb d_L_law_101 (by decide) ?_
      refine lv_iadd hx hb d_L_law_102 ?_
      refine lv_ev (show (0 : Int32) + 2 = 2 by decide) ?_
      refine va_sld hx hb hX hbl hbA hS (by unfold vp_in; decide) d_L_law_103 ?_
      refine lv_i2l (v := (Int32.toInt64 (xs (Int32.toNatClampNeg 2)))) hx hb d_L_law_104 rfl ?_
      refine lv_ldc2 (v := 4294967295) hx hb hown (ht _ k_866) d_L_law_105 ?_
      refine lv_land hx hb d_L_law_108 ?_
      refine lv_lor hx hb d_L_law_109 ?_
      refine lv_aload_n hx hb d_L_law_110 rfl (lv_at hl 3 rfl) ?_
      refine lv_iload_n hx hb d_L_law_111 rfl (lv_at hl 0 rfl) ?_
      refine lv_iconst (v := 3) hx hb d_L_law_112 (by decide) ?_
      refine lv_iadd hx hb d_L_law_113 ?_
      refine lv_ev (show (0 : Int32) + 3 = 3 by decide) ?_
      refine va_sld hx hb hX hbl hbA hS (by unfold vp_in; decide) d_L_law_114 ?_
      have hPc := hP.sub (ws' := (ME h2 g2 0 0 0 0 0 (-1) 0 0 0 0 0 0 0 wo wz (fun _ => 0) (fun _ => 0) (fun _ => 0) (fun _ => 0))) [0, 1, 2, 3, 4, 5, 6] rfl
      have hDc := hD.sub (ws' := (ME h2 g2 0 0 0 0 0 (-1) 0 0 0 0 0 0 0 wo wz (fun _ => 0) (fun _ => 0) (fun _ => 0) (fun _ => 0))) [0, 1, 2, 3, 4, 5, 6] (by decide) rfl
      have hKc := hK.sub (tys' := (TM g2)) [0, 1, 2, 3, 4, 5] rfl
      have hFc := va_free (wc := (ME h2 g2 0 0 0 0 0 (-1) 0 0 0 0 0 0 0 wo wz (fun _ => 0) (fun _ => 0) (fun _ => 0) (fun _ => 0))) hD hS hA [0, 1, 2, 3, 4, 5, 6] rfl
      refine va_calli (va_runV (As := [.long (((Int32.toInt64 (xs (Int32.toNatClampNeg 1))) <<< ((Int32.toInt64 32) &&& 63)) ||| ((Int32.toInt64 (xs (Int32.toNatClampNeg 2))) &&& 4294967295)), .int (xs (Int32.toNatClampNeg 3))]) (rest := [.int r_2]) ⟨hx, hb, hml, hown, ht⟩ (c_M_put l dC dI k h2 g2 0 0 0 0 0 (-1) 0 0 0 0 0 0 0 wo (fun _ => 0) wz (fun _ => 0) (fun _ => 0) (fun _ => 0) (((Int32.toInt64 (xs (Int32.toNatClampNeg 1))) <<< ((Int32.toInt64 32) &&& 63)) ||| ((Int32.toInt64 (xs (Int32.toNatClampNeg 2))) &&& 4294967295)) (xs (Int32.toNatClampNeg 3)) H.size (by decide)) (cwV 2 ht (g_V k_686 k_687 k_688 k_80 k_689) rfl rfl rfl (by decide +kernel) ⟨(Nat.le_of_ble_eq_true rfl), (Nat.le_of_ble_eq_true rfl)⟩) ⟨fb_X, va_recv hKc hPc (ci := 4) (q0 := 0) rfl rfl, pre_X hE hS hFc hPc hKc hDc⟩ rfl rfl hl.1 rfl (lv_room (Nat.le_of_ble_eq_true rfl)) d_L_law_115 ⟨(Nat.le_of_ble_eq_true rfl), (Nat.le_of_ble_eq_true rfl)⟩) hS (fun q _ h9 => hFc q h9) hFc (fun r_4 u_5 t H1 locs het hvm hw hB hz1 hk1 hS => ?_)
      obtain ⟨hP1, hK1, hD1⟩ := hB
      rw [het] at hP1
      have heq : r_2 = r_4 := put_eq hx1 hw
      generalize H1 = H at hS ⊢
      refine lv_icmp_eq (tgt := 172) hx hb d_L_law_118 (by decide) (fun _ => ?_) (fun cn => absurd heq cn)
      refine lv_iinc (v := 4) (lv' := [(3, .int 4), (2, .ref (h2 0)), (1, .ref (h 0)), (0, .ref b)]) hx hb d_L_law_172 hl (k := 0) rfl (by decide) (by decide) rfl (fun ls hl => ?_)
      refine lv_goto (tgt := 18) hx hb d_L_law_175 (by decide) ?_
      refine lv_iload_n hx hb d_L_law_18 rfl (lv_at hl 0 rfl) ?_
      refine lv_aload_n hx hb d_L_law_19 rfl (lv_at hl 3 rfl) ?_
      refine va_slen hx hb hX hbl hbA hS d_L_law_20 ?_
      refine lv_iconst (v := 4) hx hb d_L_law_21 (by decide) ?_
      refine lv_isub hx hb d_L_law_22 ?_
      refine lv_ev (show Int32.ofNat 4 - 4 = 0 by decide) ?_
      refine lv_icmp_gt (tgt := 178) hx hb d_L_law_23 (by decide) (fun _ => ?_) (fun cn => absurd (by decide) cn)
      refine lv_iconst (v := 1) hx hb d_L_law_178 (by decide) ?_
      refine va_forget hS.2.2 ?_
      refine W.widen (k := 18) (n := 4222) (by decide) (by decide) ?_
      exact lw_ret hx hb hr hlocks d_L_law_179
    · refine lv_ev (show nI 1 = 1 from rfl) ?_
      refine lv_tableIn (off := 92) (tgt := 123) hx hb d_L_law_31 (by decide) (by decide) (by decide) (by decide) ?_
      refine lv_aload_n hx hb d_L_law_123 rfl (lv_at hl 2 rfl) ?_
      have hPc := hP.sub (ws' := (WE h g 0 (-1) 0 0 0 0 0 0 0 (.ref (k 0)) (.ref (k 0)) 0 0 0 0 0 0 0 (fun _ => 0) (fun _ => 0) (fun _ => 0) (fun _ => none) (fun _ => 0) (fun _ => 0) (fun _ => 0))) [0, 1, 2, 3, 4, 5, 6, 7, 8, 9, 10] rfl
      have hDc := hD.sub (ws' := (WE h g 0 (-1) 0 0 0 0 0 0 0 (.ref (k 0)) (.ref (k 0)) 0 0 0 0 0 0 0 (fun _ => 0) (fun _ => 0) (fun _ => 0) (fun _ => none) (fun _ => 0) (fun _ => 0) (fun _ => 0))) [0, 1, 2, 3, 4, 5, 6, 7, 8, 9, 10] (by decide) rfl
      have hKc := hK.sub (tys' := (TE g)) [0, 1, 2, 3, 4, 5, 6] rfl
      have hFc := va_free (wc := (WE h g 0 (-1) 0 0 0 0 0 0 0 (.ref (k 0)) (.ref (k 0)) 0 0 0 0 0 0 0 (fun _ => 0) (fun _ => 0) (fun _ => 0) (fun _ => none) (fun _ => 0) (fun _ => 0) (fun _ => 0))) hD hS hA [0, 1, 2, 3, 4, 5, 6, 7, 8, 9, 10] rfl
      refine va_calli (va_runV (As := []) (rest := []) ⟨hx, hb, hml, hown, ht⟩ (c_S_check l dC dI k h g _) (cwV 0 ht (g_V k_227 k_228 k_229 k_74 k_230) rfl rfl rfl (by decide +kernel) ⟨(Nat.le_of_ble_eq_true rfl), (Nat.le_of_ble_eq_true rfl)⟩) ⟨fb_X, va_recv hKc hPc (ci := 0) (q0 := 0) rfl rfl, pre_X hE hS hFc hPc hKc hDc⟩ rfl rfl hl.1 rfl (lv_room (Nat.le_of_ble_eq_true rfl)) d_L_law_124 ⟨(Nat.le_of_ble_eq_true rfl), (Nat.le_of_ble_eq_true rfl)⟩) hS (fun q _ h9 => hFc q h9) hFc (fun r_6 u_7 t H1 locs het hvm hw hB hz1 hk1 hS => ?_)
      obtain ⟨hP1, hK1, hD1⟩ := hB
      rw [het] at hP1
      have hx1 := hw
      obtain ⟨hP, hD⟩ := va_join (wr := (ME h2 g2 0 0 0 0 0 (-1) 0 0 0 0 0 0 0 wo wz (fun _ => 0) (fun _ => 0) (fun _ => 0) (fun _ => 0))) (w1 := (WE h g 0 (-1) 1 0 0 0 0 0 5 (.ref (k 0)) (.ref (k 0)) 0 0 0 0 0 0 0 (fun _ => 0) (upd (fun _ => 0) 0 5) (upd (fun _ => 0) 0 0) (va_up (fun _ => none) 0 (some (k 0))) (upd (fun _ => 0) 0 0) (fun _ => 0) (upd (upd (upd (fun _ => 0) 0 (vp_nar .char 46)) 1 (vp_nar .char 99)) 2 (vp_nar .char 113)))) hP hD [0, 1, 2, 3, 4, 5, 6, 7, 8, 9, 10] [11, 12, 13, 14, 15, 16, 17] rfl rfl (by decide) (by decide) hk1 hFc hP1 hD1
      have hK1 := va_K.moved hvm.symm hK1
      have hK := (hK.sub (tys' := (TM g2)) [7, 8, 9, 10, 11, 12] rfl).app hK1
      generalize H1 = H at hP hS ⊢
      have hP : va_P (dC, dI) cls ((ME h2 g2 0 0 0 0 0 (-1) 0 0 0 0 0 0 0 wo wz (fun _ => 0) (fun _ => 0) (fun _ => 0) (fun _ => 0)) ++ (WE h g 0 (-1) 1 0 0 0 0 0 5 (.ref (k 0)) (.ref (k 0)) 0 0 0 0 0 0 0 (fun _ => 0) (upd (fun _ => 0) 0 5) (upd (fun _ => 0) 0 0) (va_up (fun _ => none) 0 (some (k 0))) (upd (fun _ => 0) 0 0) (fun _ => 0) (upd (upd (upd (fun _ => 0) 0 (vp_nar .char 46)) 1 (vp_nar .char 99)) 2 (vp_nar .char 113)))) H := hP
      have hD : va_D (fun q : Nat => s.heap.size ≤ q) ((ME h2 g2 0 0 0 0 0 (-1) 0 0 0 0 0 0 0 wo wz (fun _ => 0) (fun _ => 0) (fun _ => 0) (fun _ => 0)) ++ (WE h g 0 (-1) 1 0 0 0 0 0 5 (.ref (k 0)) (.ref (k 0)) 0 0 0 0 0 0 0 (fun _ => 0) (upd (fun _ => 0) 0 5) (upd (fun _ => 0) 0 0) (va_up (fun _ => none) 0 (some (k 0))) (upd (fun _ => 0) 0 0) (fun _ => 0) (upd (upd (upd (fun _ => 0) 0 (vp_nar .char 46)) 1 (vp_nar .char 99)) 2 (vp_nar .char 113)))) := hD
      have hK : va_K (dC, dI) cls ((TM g2) ++ (TE g)) s := hK
      refine lv_aload_n hx hb d_L_law_127 rfl (lv_at hl 1 rfl) ?_
      have hPc := hP.sub (ws' := (ME h2 g2 0 0 0 0 0 (-1) 0 0 0 0 0 0 0 wo wz (fun _ => 0) (fun _ => 0) (fun _ => 0) (fun _ => 0))) [0, 1, 2, 3, 4, 5, 6] rfl
      have hDc := hD.sub (ws' := (ME h2 g2 0 0 0 0 0 (-1) 0 0 0 0 0 0 0 wo wz (fun _ => 0) (fun _ => 0) (fun _ => 0) (fun _ => 0))) [0, 1, 2, 3, 4, 5, 6] (by decide) rfl
      have hKc := hK.sub (tys' := (TM g2)) [0, 1, 2, 3, 4, 5] rfl
      have hFc := va_free (wc := (ME h2 g2 0 0 0 0 0 (-1) 0 0 0 0 0 0 0 wo wz (fun _ => 0) (fun _ => 0) (fun _ => 0) (fun _ => 0))) hD hS hA [0, 1, 2, 3, 4, 5, 6] rfl
      refine va_calli (va_runV (As := []) (rest := [.int r_6]) ⟨hx, hb, hml, hown, ht⟩ (c_M_check l dC dI k h2 g2 wo wz _) (cwV 0 ht (g_V k_690 k_691 k_692 k_80 k_693) rfl rfl rfl (by decide +kernel) ⟨(Nat.le_of_ble_eq_true rfl), (Nat.le_of_ble_eq_true rfl)⟩) ⟨fb_X, va_recv hKc hPc (ci := 4) (q0 := 0) rfl rfl, pre_X hE hS hFc hPc hKc hDc⟩ rfl rfl hl.1 rfl (lv_room (Nat.le_of_ble_eq_true rfl)) d_L_law_128 ⟨(Nat.le_of_ble_eq_true rfl), (Nat.le_of_ble_eq_true rfl)⟩) hS (fun q _ h9 => hFc q h9) hFc (fun r_8 u_9 t H1 locs het hvm hw hB hz1 hk1 hS => ?_)
      obtain ⟨hP1, hK1, hD1⟩ := hB
      rw [het] at hP1
      have heq : r_6 = r_8 := by rw [hx1, hw]
      generalize H1 = H at hS ⊢
      refine lv_icmp_eq (tgt := 172) hx hb d_L_law_131 (by decide) (fun _ => ?_) (fun cn => absurd heq cn)
      refine lv_iinc (v := 4) (lv' := [(3, .int 4), (2, .ref (h2 0)), (1, .ref (h 0)), (0, .ref b)]) hx hb d_L_law_172 hl (k := 0) rfl (by decide) (by decide) rfl (fun ls hl => ?_)
      refine lv_goto (tgt := 18) hx hb d_L_law_175 (by decide) ?_
      refine lv_iload_n hx hb d_L_law_18 rfl (lv_at hl 0 rfl) ?_
      refine lv_aload_n hx hb d_L_law_19 rfl (lv_at hl 3 rfl) ?_
      refine va_slen hx hb hX hbl hbA hS d_L_law_20 ?_
      refine lv_iconst (v := 4) hx hb d_L_law_21 (by decide) ?_
      refine lv_isub hx hb d_L_law_22 ?_
      refine lv_ev (show Int32.ofNat 4 - 4 = 0 by decide) ?_
      refine lv_icmp_gt (tgt := 178) hx hb d_L_law_23 (by decide) (fun _ => ?_) (fun cn => absurd (by decide) cn)
      refine lv_iconst (v := 1) hx hb d_L_law_178 (by decide) ?_
      refine va_forget hS.2.2 ?_
      refine W.widen (k := 18) (n := 4222) (by decide) (by decide) ?_
      exact lw_ret hx hb hr hlocks d_L_law_179
    · refine lv_ev (show nI 2 = 2 from rfl) ?_
      refine lv_tableIn (off := 105) (tgt := 136) hx hb d_L_law_31 (by decide) (by decide) (by decide) (by decide) ?_
      refine lv_aload_n hx hb d_L_law_136 rfl (lv_at hl 2 rfl) ?_
      have hPc := hP.sub (ws' := (WE h g 0 (-1) 0 0 0 0 0 0 0 (.ref (k 0)) (.ref (k 0)) 0 0 0 0 0 0 0 (fun _ => 0) (fun _ => 0) (fun _ => 0) (fun _ => none) (fun _ => 0) (fun _ => 0) (fun _ => 0))) [0, 1, 2, 3, 4, 5, 6, 7, 8, 9, 10] rfl
      have hDc := hD.sub (ws' := (WE h g 0 (-1) 0 0 0 0 0 0 0 (.ref (k 0)) (.ref (k 0)) 0 0 0 0 0 0 0 (fun _ => 0) (fun _ => 0) (fun _ => 0) (fun _ => none) (fun _ => 0) (fun _ => 0) (fun _ => 0))) [0, 1, 2, 3, 4, 5, 6, 7, 8, 9, 10] (by decide) rfl
      have hKc := hK.sub (tys' := (TE g)) [0, 1, 2, 3, 4, 5, 6] rfl
      have hFc := va_free (wc := (WE h g 0 (-1) 0 0 0 0 0 0 0 (.ref (k 0)) (.ref (k 0)) 0 0 0 0 0 0 0 (fun _ => 0) (fun _ => 0) (fun _ => 0) (fun _ => none) (fun _ => 0) (fun _ => 0) (fun _ => 0))) hD hS hA [0, 1, 2, 3, 4, 5, 6, 7, 8, 9, 10] rfl
      refine va_calli (va_runV (As := []) (rest := []) ⟨hx, hb, hml, hown, ht⟩ (c_S_place l dC dI k h g 0 (-1) 0 0 0 0 0 0 0 0 0 0 0 0 0 0 (.ref (k 0)) (.ref (k 0)) (fun _ => 0) (fun _ => 0) (fun _ => 0) (fun _ => 0) (fun _ => 0) (fun _ => 0) (fun _ => none) H.size) (cwV 0 ht (g_V k_549 k_550 k_551 k_74 k_552) rfl rfl rfl (by decide +kernel) ⟨(Nat.le_of_ble_eq_true rfl), (Nat.le_of_ble_eq_true rfl)⟩) ⟨fb_X, va_recv hKc hPc (ci := 0) (q0 := 0) rfl rfl, pre_X hE hS hFc hPc hKc hDc⟩ rfl rfl hl.1 rfl (lv_room (Nat.le_of_ble_eq_true rfl)) d_L_law_137 ⟨(Nat.le_of_ble_eq_true rfl), (Nat.le_of_ble_eq_true rfl)⟩) hS (fun q _ h9 => hFc q h9) hFc (fun r_10 u_11 t H1 locs het hvm hw hB hz1 hk1 hS => ?_)
      obtain ⟨hP1, hK1, hD1⟩ := hB
      rw [het] at hP1
      have hx1 := hw
      obtain ⟨hP, hD⟩ := va_join (wr := (ME h2 g2 0 0 0 0 0 (-1) 0 0 0 0 0 0 0 wo wz (fun _ => 0) (fun _ => 0) (fun _ => 0) (fun _ => 0))) (w1 := (WE h g 0 (-1) 0 0 0 0 0 0 0 (.ref (k 0)) (.ref (k 0)) 0 0 0 0 0 0 0 (fun _ => 0) (fun _ => 0) (fun _ => 0) (fun _ => none) (fun _ => 0) (fun _ => 0) (fun _ => 0))) hP hD [0, 1, 2, 3, 4, 5, 6, 7, 8, 9, 10] [11, 12, 13, 14, 15, 16, 17] rfl rfl (by decide) (by decide) hk1 hFc hP1 hD1
      have hK1 := va_K.moved hvm.symm hK1
      have hK := (hK.sub (tys' := (TM g2)) [7, 8, 9, 10, 11, 12] rfl).app hK1
      generalize H1 = H at hP hS ⊢
      have hP : va_P (dC, dI) cls ((ME h2 g2 0 0 0 0 0 (-1) 0 0 0 0 0 0 0 wo wz (fun _ => 0) (fun _ => 0) (fun _ => 0) (fun _ => 0)) ++ (WE h g 0 (-1) 0 0 0 0 0 0 0 (.ref (k 0)) (.ref (k 0)) 0 0 0 0 0 0 0 (fun _ => 0) (fun _ => 0) (fun _ => 0) (fun _ => none) (fun _ => 0) (fun _ => 0) (fun _ => 0))) H := hP
      have hD : va_D (fun q : Nat => s.heap.size ≤ q) ((ME h2 g2 0 0 0 0 0 (-1) 0 0 0 0 0 0 0 wo wz (fun _ => 0) (fun _ => 0) (fun _ => 0) (fun _ => 0)) ++ (WE h g 0 (-1) 0 0 0 0 0 0 0 (.ref (k 0)) (.ref (k 0)) 0 0 0 0 0 0 0 (fun _ => 0) (fun _ => 0) (fun _ => 0) (fun _ => none) (fun _ => 0) (fun _ => 0) (fun _ => 0))) := hD
      have hK : va_K (dC, dI) cls ((TM g2) ++ (TE g)) s := hK
      refine lv_aload_n hx hb d_L_law_140 rfl (lv_at hl 1 rfl) ?_
      have hPc := hP.sub (ws' := (ME h2 g2 0 0 0 0 0 (-1) 0 0 0 0 0 0 0 wo wz (fun _ => 0) (fun _ => 0) (fun _ => 0) (fun _ => 0))) [0, 1, 2, 3, 4, 5, 6] rfl
      have hDc := hD.sub (ws' := (ME h2 g2 0 0 0 0 0 (-1) 0 0 0 0 0 0 0 wo wz (fun _ => 0) (fun _ => 0) (fun _ => 0) (fun _ => 0))) [0, 1, 2, 3, 4, 5, 6] (by decide) rfl
      have hKc := hK.sub (tys' := (TM g2)) [0, 1, 2, 3, 4, 5] rfl
      have hFc := va_free (wc := (ME h2 g2 0 0 0 0 0 (-1) 0 0 0 0 0 0 0 wo wz (fun _ => 0) (fun _ => 0) (fun _ => 0) (fun _ => 0))) hD hS hA [0, 1, 2, 3, 4, 5, 6] rfl
      refine va_calli (va_runV (As := []) (rest := [.int r_10]) ⟨hx, hb, hml, hown, ht⟩ (c_M_place l dC dI k h2 g2 0 0 0 0 0 (-1) 0 0 0 0 0 0 0 wo (fun _ => 0) wz (fun _ => 0) (fun _ => 0) (fun _ => 0) H.size) (cwV 0 ht (g_V k_858 k_859 k_860 k_80 k_861) rfl rfl rfl (by decide +kernel) ⟨(Nat.le_of_ble_eq_true rfl), (Nat.le_of_ble_eq_true rfl)⟩) ⟨fb_X, va_recv hKc hPc (ci := 4) (q0 := 0) rfl rfl, pre_X hE hS hFc hPc hKc hDc⟩ rfl rfl hl.1 rfl (lv_room (Nat.le_of_ble_eq_true rfl)) d_L_law_141 ⟨(Nat.le_of_ble_eq_true rfl), (Nat.le_of_ble_eq_true rfl)⟩) hS (fun q _ h9 => hFc q h9) hFc (fun r_12 u_13 t H1 locs het hvm hw hB hz1 hk1 hS => ?_)
      obtain ⟨hP1, hK1, hD1⟩ := hB
      rw [het] at hP1
      have heq : r_10 = r_12 := by rw [hx1, hw]
      generalize H1 = H at hS ⊢
      refine lv_icmp_eq (tgt := 172) hx hb d_L_law_144 (by decide) (fun _ => ?_) (fun cn => absurd heq cn)
      refine lv_iinc (v := 4) (lv' := [(3, .int 4), (2, .ref (h2 0)), (1, .ref (h 0)), (0, .ref b)]) hx hb d_L_law_172 hl (k := 0) rfl (by decide) (by decide) rfl (fun ls hl => ?_)
      refine lv_goto (tgt := 18) hx hb d_L_law_175 (by decide) ?_
      refine lv_iload_n hx hb d_L_law_18 rfl (lv_at hl 0 rfl) ?_
      refine lv_aload_n hx hb d_L_law_19 rfl (lv_at hl 3 rfl) ?_
      refine va_slen hx hb hX hbl hbA hS d_L_law_20 ?_
      refine lv_iconst (v := 4) hx hb d_L_law_21 (by decide) ?_
      refine lv_isub hx hb d_L_law_22 ?_
      refine lv_ev (show Int32.ofNat 4 - 4 = 0 by decide) ?_
      refine lv_icmp_gt (tgt := 178) hx hb d_L_law_23 (by decide) (fun _ => ?_) (fun cn => absurd (by decide) cn)
      refine lv_iconst (v := 1) hx hb d_L_law_178 (by decide) ?_
      refine va_forget hS.2.2 ?_
      refine W.widen (k := 18) (n := 4222) (by decide) (by decide) ?_
      exact lw_ret hx hb hr hlocks d_L_law_179
    · refine lv_ev (show nI 3 = 3 from rfl) ?_
      refine lv_tableIn (off := 118) (tgt := 149) hx hb d_L_law_31 (by decide) (by decide) (by decide) (by decide) ?_
      refine lv_aload_n hx hb d_L_law_149 rfl (lv_at hl 2 rfl) ?_
      refine lv_aload_n hx hb d_L_law_150 rfl (lv_at hl 3 rfl) ?_
      refine lv_iload_n hx hb d_L_law_151 rfl (lv_at hl 0 rfl) ?_
      refine lv_iconst (v := 1) hx hb d_L_law_152 (by decide) ?_
      refine lv_iadd hx hb d_L_law_153 ?_
      refine lv_ev (show (0 : Int32) + 1 = 1 by decide) ?_
      refine va_sld hx hb hX hbl hbA hS (by unfold vp_in; decide) d_L_law_154 ?_
      have hPc := hP.sub (ws' := (WE h g 0 (-1) 0 0 0 0 0 0 0 (.ref (k 0)) (.ref (k 0)) 0 0 0 0 0 0 0 (fun _ => 0) (fun _ => 0) (fun _ => 0) (fun _ => none) (fun _ => 0) (fun _ => 0) (fun _ => 0))) [0, 1, 2, 3, 4, 5, 6, 7, 8, 9, 10] rfl
      have hDc := hD.sub (ws' := (WE h g 0 (-1) 0 0 0 0 0 0 0 (.ref (k 0)) (.ref (k 0)) 0 0 0 0 0 0 0 (fun _ => 0) (fun _ => 0) (fun _ => 0) (fun _ => none) (fun _ => 0) (fun _ => 0) (fun _ => 0))) [0, 1, 2, 3, 4, 5, 6, 7, 8, 9, 10] (by decide) rfl
      have hKc := hK.sub (tys' := (TE g)) [0, 1, 2, 3, 4, 5, 6] rfl
      have hFc := va_free (wc := (WE h g 0 (-1) 0 0 0 0 0 0 0 (.ref (k 0)) (.ref (k 0)) 0 0 0 0 0 0 0 (fun _ => 0) (fun _ => 0) (fun _ => 0) (fun _ => none) (fun _ => 0) (fun _ => 0) (fun _ => 0))) hD hS hA [0, 1, 2, 3, 4, 5, 6, 7, 8, 9, 10] rfl
      refine va_calli (va_runV (As := [.int (xs (Int32.toNatClampNeg 1))]) (rest := []) ⟨hx, hb, hml, hown, ht⟩ (c_S_count l dC dI k h g 0 (-1) 0 0 0 0 0 0 0 0 0 0 0 0 0 0 (.ref (k 0)) (.ref (k 0)) (fun _ => 0) (fun _ => 0) (fun _ => 0) (fun _ => 0) (fun _ => 0) (fun _ => 0) (fun _ => none) (xs (Int32.toNatClampNeg 1)) H.size) (cwV 1 ht (g_V k_553 k_554 k_555 k_74 k_556) rfl rfl rfl (by decide +kernel) ⟨(Nat.le_of_ble_eq_true rfl), (Nat.le_of_ble_eq_true rfl)⟩) ⟨fb_X, va_recv hKc hPc (ci := 0) (q0 := 0) rfl rfl, pre_X hE hS hFc hPc hKc hDc⟩ rfl rfl hl.1 rfl (lv_room (Nat.le_of_ble_eq_true rfl)) d_L_law_155 ⟨(Nat.le_of_ble_eq_true rfl), (Nat.le_of_ble_eq_true rfl)⟩) hS (fun q _ h9 => hFc q h9) hFc (fun r_14 u_15 t H1 locs het hvm hw hB hz1 hk1 hS => ?_)
      obtain ⟨hP1, hK1, hD1⟩ := hB
      rw [het] at hP1
      have hx1 := hw
      obtain ⟨hP, hD⟩ := va_join (wr := (ME h2 g2 0 0 0 0 0 (-1) 0 0 0 0 0 0 0 wo wz (fun _ => 0) (fun _ => 0) (fun _ => 0) (fun _ => 0))) (w1 := (WE h g 0 (-1) 0 0 0 0 0 0 0 (.ref (k 0)) (.ref (k 0)) 0 0 0 0 0 0 0 (fun _ => 0) (fun _ => 0) (fun _ => 0) (fun _ => none) (fun _ => 0) (fun _ => 0) (fun _ => 0))) hP hD [0, 1, 2, 3, 4, 5, 6, 7, 8, 9, 10] [11, 12, 13, 14, 15, 16, 17] rfl rfl (by decide) (by decide) hk1 hFc hP1 hD1
      have hK1 := va_K.moved hvm.symm hK1
      have hK := (hK.sub (tys' := (TM g2)) [7, 8, 9, 10, 11, 12] rfl).app hK1
      generalize H1 = H at hP hS ⊢
      have hP : va_P (dC, dI) cls ((ME h2 g2 0 0 0 0 0 (-1) 0 0 0 0 0 0 0 wo wz (fun _ => 0) (fun _ => 0) (fun _ => 0) (fun _ => 0)) ++ (WE h g 0 (-1) 0 0 0 0 0 0 0 (.ref (k 0)) (.ref (k 0)) 0 0 0 0 0 0 0 (fun _ => 0) (fun _ => 0) (fun _ => 0) (fun _ => none) (fun _ => 0) (fun _ => 0) (fun _ => 0))) H := hP
      have hD : va_D (fun q : Nat => s.heap.size ≤ q) ((ME h2 g2 0 0 0 0 0 (-1) 0 0 0 0 0 0 0 wo wz (fun _ => 0) (fun _ => 0) (fun _ => 0) (fun _ => 0)) ++ (WE h g 0 (-1) 0 0 0 0 0 0 0 (.ref (k 0)) (.ref (k 0)) 0 0 0 0 0 0 0 (fun _ => 0) (fun _ => 0) (fun _ => 0) (fun _ => none) (fun _ => 0) (fun _ => 0) (fun _ => 0))) := hD
      have hK : va_K (dC, dI) cls ((TM g2) ++ (TE g)) s := hK
      refine lv_aload_n hx hb d_L_law_158 rfl (lv_at hl 1 rfl) ?_
      refine lv_aload_n hx hb d_L_law_159 rfl (lv_at hl 3 rfl) ?_
      refine lv_iload_n hx hb d_L_law_160 rfl (lv_at hl 0 rfl) ?_
      refine lv_iconst (v := 1) hx hb d_L_law_161 (by decide) ?_
      refine lv_iadd hx hb d_L_law_162 ?_
      refine lv_ev (show (0 : Int32) + 1 = 1 by decide) ?_
      refine va_sld hx hb hX hbl hbA hS (by unfold vp_in; decide) d_L_law_163 ?_
      have hPc := hP.sub (ws' := (ME h2 g2 0 0 0 0 0 (-1) 0 0 0 0 0 0 0 wo wz (fun _ => 0) (fun _ => 0) (fun _ => 0) (fun _ => 0))) [0, 1, 2, 3, 4, 5, 6] rfl
      have hDc := hD.sub (ws' := (ME h2 g2 0 0 0 0 0 (-1) 0 0 0 0 0 0 0 wo wz (fun _ => 0) (fun _ => 0) (fun _ => 0) (fun _ => 0))) [0, 1, 2, 3, 4, 5, 6] (by decide) rfl
      have hKc := hK.sub (tys' := (TM g2)) [0, 1, 2, 3, 4, 5] rfl
      have hFc := va_free (wc := (ME h2 g2 0 0 0 0 0 (-1) 0 0 0 0 0 0 0 wo wz (fun _ => 0) (fun _ => 0) (fun _ => 0) (fun _ => 0))) hD hS hA [0, 1, 2, 3, 4, 5, 6] rfl
      refine va_calli (va_runV (As := [.int (xs (Int32.toNatClampNeg 1))]) (rest := [.int r_14]) ⟨hx, hb, hml, hown, ht⟩ (c_M_count l dC dI k h2 g2 0 0 0 0 0 (-1) 0 0 0 0 0 0 0 wo (fun _ => 0) wz (fun _ => 0) (fun _ => 0) (fun _ => 0) (xs (Int32.toNatClampNeg 1)) H.size) (cwV 1 ht (g_V k_862 k_863 k_864 k_80 k_865) rfl rfl rfl (by decide +kernel) ⟨(Nat.le_of_ble_eq_true rfl), (Nat.le_of_ble_eq_true rfl)⟩) ⟨fb_X, va_recv hKc hPc (ci := 4) (q0 := 0) rfl rfl, pre_X hE hS hFc hPc hKc hDc⟩ rfl rfl hl.1 rfl (lv_room (Nat.le_of_ble_eq_true rfl)) d_L_law_164 ⟨(Nat.le_of_ble_eq_true rfl), (Nat.le_of_ble_eq_true rfl)⟩) hS (fun q _ h9 => hFc q h9) hFc (fun r_16 u_17 t H1 locs het hvm hw hB hz1 hk1 hS => ?_)
      obtain ⟨hP1, hK1, hD1⟩ := hB
      rw [het] at hP1
      have heq : r_14 = r_16 := by rw [hx1, hw]
      generalize H1 = H at hS ⊢
      refine lv_icmp_eq (tgt := 172) hx hb d_L_law_167 (by decide) (fun _ => ?_) (fun cn => absurd heq cn)
      refine lv_iinc (v := 4) (lv' := [(3, .int 4), (2, .ref (h2 0)), (1, .ref (h 0)), (0, .ref b)]) hx hb d_L_law_172 hl (k := 0) rfl (by decide) (by decide) rfl (fun ls hl => ?_)
      refine lv_goto (tgt := 18) hx hb d_L_law_175 (by decide) ?_
      refine lv_iload_n hx hb d_L_law_18 rfl (lv_at hl 0 rfl) ?_
      refine lv_aload_n hx hb d_L_law_19 rfl (lv_at hl 3 rfl) ?_
      refine va_slen hx hb hX hbl hbA hS d_L_law_20 ?_
      refine lv_iconst (v := 4) hx hb d_L_law_21 (by decide) ?_
      refine lv_isub hx hb d_L_law_22 ?_
      refine lv_ev (show Int32.ofNat 4 - 4 = 0 by decide) ?_
      refine lv_icmp_gt (tgt := 178) hx hb d_L_law_23 (by decide) (fun _ => ?_) (fun cn => absurd (by decide) cn)
      refine lv_iconst (v := 1) hx hb d_L_law_178 (by decide) ?_
      refine va_forget hS.2.2 ?_
      refine W.widen (k := 18) (n := 4222) (by decide) (by decide) ?_
      exact lw_ret hx hb hr hlocks d_L_law_179
  · refine lv_iload_n hx hb d_L_law_18 rfl (lv_at hl 0 rfl) ?_
    refine lv_aload_n hx hb d_L_law_19 rfl (lv_at hl 3 rfl) ?_
    refine va_slen hx hb hX hbl hbA hS d_L_law_20 ?_
    refine lv_iconst (v := 4) hx hb d_L_law_21 (by decide) ?_
    refine lv_isub hx hb d_L_law_22 ?_
    refine lv_icmp_gt (tgt := 178) hx hb d_L_law_23 (by decide) (fun _ => ?_) (fun cn => absurd (pk_sneg (a := L) (b := 4) (by decide) (by omega)) cn)
    refine lv_iconst (v := 1) hx hb d_L_law_178 (by decide) ?_
    refine va_forget hS.2.2 ?_
    refine W.widen (k := 18) (n := 4222) (by decide) (by decide) ?_
    exact lw_ret hx hb hr hlocks d_L_law_179

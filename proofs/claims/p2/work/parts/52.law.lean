/-! THE CLAIM OUT OF ONE WALK OF THE LAW'S BODY. Your part is whole_start (and what it stands on); all else here is the same for every law, but numbers. -/
def R_law : String := "SieveDeskLaw"
def lw_P (b : Addr) (xs : List Int32) (args : Array Value) (s : State) : Prop := args = #[.ref b] ∧ s.IntsAt b xs ∧ xs.length ≤ 2048 ∧ (Jvm.Cond.and given_1 narrow_1).before args s = true
def lw_Q (_ : Array Value) (s : State) (o : Outcome) (t : State) : Prop := o = .returned (some (.int 1)) ∧ Framed s o t [] 18 4222
def lw_Z (below : List Frame) (a : Array Value) (s : State) : State → Prop := fun t => ∃ o, t.status = .running ∧ Ended t below o ∧ lw_Q a s o t
/-- the law's own end, with 1 on the stack, nothing written that was there before, its room as the claim has it -/
theorem lw_ret {p : Program} {l : Launch} {e : Env} {s : State} {m : MethodId} {below : List Frame} {meth : Method} {c : Code} {b : Nat} (hx : p.tables.exec = Jvm.exec) (hb : c.code = code) (hr : meth.sig.returnType = ret) (hlocks : meth.locks = false) {pc : Nat} {H : Heap} {ls : Array Slot} (hdg : decode code pc = .ok (.ireturn, 1)) : W p l e room_1 s m #[Value.ref b] below meth c H [] 18 4222 (lw_Z below #[Value.ref b] s) (F0 m pc ls [.int 1]) := by
  intro T hT X
  obtain ⟨fs, hret, hrun, hended, hW, hframe⟩ := X.leave (v := some (.int 1)) (hlocks := hlocks) (fun h => by rw [hr] at h; cases h)
  have hmeth' : T.vm.method? m = some meth := X.method'
  refine ⟨T.setFrames fs, ?_, .returned (some (.int 1)), hrun, hended, rfl, ⟨_, rfl⟩, hW, hframe⟩
  jvm_step X.here [X.here.top, hx, hb, hdg, hmeth', hr, ret, narrow_b1]
  (try refine ⟨rfl, ?_⟩); (try refine ⟨rfl, ?_⟩)
  first | (intro acts; rw [hret _ acts rfl rfl rfl]) | rw [hret _ _ rfl rfl rfl]
  exact Steps.refl _
/-- what holds at the law's entry: the machine, the code, the tables' words (any of lw_tbl by 'hts w (by decide +kernel)'), the script of L ints xs at the cell b, what the Statement gives of the start (any of its parts by flat_of_before) -/
def lw_At (p : Program) (s : State) (m : MethodId) (meth : Method) (c : Code) (b L : Nat) (xs : Nat → Int32) : Prop :=
  p.tables.exec = Jvm.exec ∧ c.code = code ∧ meth.sig.returnType = ret ∧ c.maxLocals = 4 ∧ s.vm.findClass R_law = some m.cls ∧ (∀ w ∈ lw_tbl, w.before #[Value.ref b] s = true) ∧ va_X b L xs s s.heap ∧ b < s.heap.size ∧ meth.locks = false ∧ (Jvm.Cond.and given_1 narrow_1).before #[Value.ref b] s = true
theorem okP_fun {L a b : Nat} {n : Int32} (h1 : okP L n a) (h2 : okP L n b) : a = b := by
  obtain ⟨i, e1, _, b1, _, rfl⟩ := h1
  obtain ⟨j, e2, _, b2, _, rfl⟩ := h2
  have := (nI_eq (by omega) (by omega)).mp (e1.symm.trans e2)
  omega
theorem put_same {L : Nat} {n r1 r2 : Int32} {a b : Nat} (hL : L ≤ 400) (h1 : (r1 = 1 ∧ okP L n a) ∨ (r1 = 0 ∧ a = L ∧ ∀ L1, ¬ okP L n L1)) (h2 : (r2 = 1 ∧ okP L n b) ∨ (r2 = 0 ∧ b = L ∧ ∀ L1, ¬ okP L n L1)) : r1 = r2 ∧ a = b ∧ a ≤ 400 := by
  rcases h1 with ⟨rfl, p1⟩ | ⟨rfl, q1, p1⟩ <;> rcases h2 with ⟨rfl, p2⟩ | ⟨rfl, q2, p2⟩
  · exact ⟨rfl, okP_fun p1 p2, by obtain ⟨j, _, _, _, h, rfl⟩ := p1; exact h⟩
  · exact absurd p1 (p2 _)
  · exact absurd p2 (p1 _)
  · exact ⟨rfl, by omega, by omega⟩
set_option maxHeartbeats 4000000 in
set_option maxRecDepth 100000 in
theorem law_loop {p : Program} {e : Env} {s : State} {m : MethodId} {below : List Frame} {meth : Method} {c : Code} {l : Launch} {b L : Nat} {xs : Nat → Int32} (hL : L ≤ 2048) (C0 : lw_At p s m meth c b L xs) {k : Nat → Nat} (hE : KE k (fun q : Nat => s.heap.size ≤ q) s s.heap) {dC : Nat → ClassId} {dI : Nat → Nat → Nat} {h h2 : Nat → Nat} {g g2 : Nat → ClassId} (hK : va_K (dC, dI) cls (TE g ++ TM g2) s) : ∀ (nn : Nat) (x3 : Int32) (NN : Nat) (fp : Int32) (many : Int32) (tlen : Int32) (tat : Int32) (qlen : Int32) (md : Int32) (gat : Int32) (kind : Int32) (gs : Int32) (th : Int32) (st : Int32) (rq : Int32) (bl : Int32) (te : Int32) (og : Int32) (wi : Nat) (ti : Nat) (sc : Nat → Int32) (kd : Nat → Int32) (sr : Nat → Int32) (sa : Nat → Int32) (qb : Nat → Int32) (du : Nat → Int32) (wo : Nat → Option Nat) (sam : Int32) (som : Int32) (plm : Int32) (sim : Int32) (fam : Int32) (lim : Int32) (com : Int32) (stm : Int32) (rqm : Int32) (blm : Int32) (tem : Int32) (opm : Int32) (wom : Nat → Int64) (lem : Nat → Int64) (wzm : Nat → Int32) (srm : Nat → Int32) (txm : Nat → Int32) (rom : Nat → Int32), (0 ≤ Int32.toInt x3) → (Int32.toInt x3 ≤ 2052) → (NN ≤ 400) → (0 ≤ Int32.toInt many) → (Int32.toInt many ≤ 401) → (0 ≤ Int32.toInt tlen) → (Int32.toInt tlen ≤ 400) → (0 ≤ Int32.toInt tat) → (Int32.toInt tat ≤ Int32.toInt tlen) → (0 ≤ Int32.toInt qlen) → (Int32.toInt qlen ≤ 200) → (0 ≤ Int32.toInt md) → (Int32.toInt md ≤ 200) → (-1 ≤ Int32.toInt gat) → (Int32.toInt gat ≤ 400) → (wi < 43) → (ti < 43) → (WOk k wo) → (0 ≤ Int32.toInt plm) → (Int32.toInt plm ≤ 400) → (-1 ≤ Int32.toInt fam) → (Int32.toInt fam ≤ 400) → (0 ≤ Int32.toInt sim) → (Int32.toInt sim ≤ 400) → (2060 - Int32.toInt x3).toNat < nn → ∀ (H : Heap) (locs : List Loc) (ls : Array Slot), va_P (dC, dI) cls ((WE h g (nI NN) fp many tlen tat qlen md gat kind (.ref (k wi)) (.ref (k ti)) gs th st rq bl te og sc kd sr wo sa qb du) ++ (ME h2 g2 (nI NN) sam som plm sim fam lim com stm rqm blm tem opm wom wzm srm lem txm rom)) H → va_D (fun q : Nat => s.heap.size ≤ q) ((WE h g (nI NN) fp many tlen tat qlen md gat kind (.ref (k wi)) (.ref (k ti)) gs th st rq bl te og sc kd sr wo sa qb du) ++ (ME h2 g2 (nI NN) sam som plm sim fam lim com stm rqm blm tem opm wom wzm srm lem txm rom)) → va_S (fun q : Nat => s.heap.size ≤ q) s.heap H locs → lv_has ls 4 [(3, .int x3), (2, .ref (h2 0)), (1, .ref (h 0)), (0, .ref b)] → W p l e room_1 s m #[Value.ref b] below meth c H locs 18 4222 (lw_Z below #[Value.ref b] s) (F0 m 18 ls []) := by
  obtain ⟨hx, hb, hr, hml, hown, hts, hX, hbl, hlocks, hgv⟩ := id C0
  have ht : ∀ w ∈ TT, w.before #[Value.ref b] s = true := fun w h9 => hts w (tt_tbl h9)
  have hA : ∀ q : Nat, s.heap.size ≤ q → (fun q : Nat => s.heap.size ≤ q) q := fun _ h9 => h9
  have hbA : ¬ (fun q : Nat => s.heap.size ≤ q) b := Nat.not_le.mpr hbl
  intro nn
  induction nn with
  | zero =>
    intro _ _ _ _ _ _ _ _ _ _ _ _ _ _ _ _ _ _ _ _ _ _ _ _ _ _ _ _ _ _ _ _ _ _ _ _ _ _ _ _ _ _ _ _ _ _ _ _ _ _ _ _ _ _ _ _ _ _ _ _ _ _ _ _ _ _ _ _ hm
    exact absurd hm (Nat.not_lt_zero _)
  | succ nn ih =>
    intro x3 NN fp many tlen tat qlen md gat kind gs th st rq bl te og wi ti sc kd sr sa qb du wo sam som plm sim fam lim com stm rqm blm tem opm wom lem wzm srm txm rom v_0 v_1 v_2 v_3 v_4 v_5 v_6 v_7 v_8 v_9 v_10 v_11 v_12 v_13 v_14 v_15 v_16 v_17 v_18 v_19 v_20 v_21 v_22 v_23 hm H locs ls hP hD hS hl
    refine lv_iload_n hx hb d_L_law_18 rfl (lv_at hl 0 rfl) ?_
    refine lv_aload_n hx hb d_L_law_19 rfl (lv_at hl 3 rfl) ?_
    refine va_slen hx hb hX hbl hbA hS d_L_law_20 ?_
    have eL : Int32.toInt (Int32.ofNat L) = (L : Int) := nI_toInt (by omega)
    refine lv_iconst (v := 4) hx hb d_L_law_21 (by decide) ?_
    refine lv_isub hx hb d_L_law_22 ?_
    have e_1 : Int32.toInt ((Int32.ofNat L) - 4) = (L : Int) - 4 := i_sub eL (show Int32.toInt 4 = 4 by decide) (by omega) (by omega)
    refine lv_icmp_gt (tgt := 178) hx hb d_L_law_23 (by decide) (fun c_2 => ?_) (fun c_2 => ?_)
    · have dc_2 := i_lt c_2 e_1 rfl
      refine lv_iconst (v := 1) hx hb d_L_law_178 (by decide) ?_
      refine va_forget hS.2.2 ?_
      exact lw_ret hx hb hr hlocks d_L_law_179
    · have dc_2 := i_nlt c_2 e_1 rfl
      refine lv_aload_n hx hb d_L_law_26 rfl (lv_at hl 3 rfl) ?_
      refine lv_iload_n hx hb d_L_law_27 rfl (lv_at hl 0 rfl) ?_
      refine va_sld hx hb hX hbl hbA hS (i_in rfl (by omega) (by omega)) d_L_law_28 ?_
      refine lv_iconst (v := 3) hx hb d_L_law_29 (by decide) ?_
      refine lv_iand hx hb d_L_law_30 ?_
      obtain ⟨j, hj, ej⟩ := pk_andE (xs (Int32.toNatClampNeg x3)) (m := 3) 2 (by decide)
      refine lv_ev ej ?_
      rcases (show j = 0 ∨ j = 1 ∨ j = 2 ∨ j = 3 by have : j < 4 := hj; omega) with rfl | rfl | rfl | rfl
      · refine lv_ev (show nI 0 = 0 from rfl) ?_
        refine lv_tableIn (off := 29) (tgt := 60) hx hb d_L_law_31 (by decide) (by decide) (by decide) (by decide) ?_
        refine lv_aload_n hx hb d_L_law_60 rfl (lv_at hl 2 rfl) ?_
        refine lv_aload_n hx hb d_L_law_61 rfl (lv_at hl 3 rfl) ?_
        refine lv_iload_n hx hb d_L_law_62 rfl (lv_at hl 0 rfl) ?_
        refine lv_iconst (v := 1) hx hb d_L_law_63 (by decide) ?_
        refine lv_iadd hx hb d_L_law_64 ?_
        have e_3 : Int32.toInt (x3 + 1) = (Int32.toInt x3) + 1 := i_add rfl (show Int32.toInt 1 = 1 by decide) (by omega) (by omega)
        refine va_sld hx hb hX hbl hbA hS (i_in e_3 (by omega) (by omega)) d_L_law_65 ?_
        refine lv_i2l (v := (Int32.toInt64 (xs (Int32.toNatClampNeg (x3 + 1))))) hx hb d_L_law_66 rfl ?_
        refine lv_bipush (v := 32) hx hb d_L_law_67 (by decide) ?_
        refine lv_lshl (v := ((Int32.toInt64 (xs (Int32.toNatClampNeg (x3 + 1)))) <<< ((Int32.toInt64 32) &&& 63))) hx hb d_L_law_69 rfl ?_
        refine lv_aload_n hx hb d_L_law_70 rfl (lv_at hl 3 rfl) ?_
        refine lv_iload_n hx hb d_L_law_71 rfl (lv_at hl 0 rfl) ?_
        refine lv_iconst (v := 2) hx hb d_L_law_72 (by decide) ?_
        refine lv_iadd hx hb d_L_law_73 ?_
        have e_4 : Int32.toInt (x3 + 2) = (Int32.toInt x3) + 2 := i_add rfl (show Int32.toInt 2 = 2 by decide) (by omega) (by omega)
        refine va_sld hx hb hX hbl hbA hS (i_in e_4 (by omega) (by omega)) d_L_law_74 ?_
        refine lv_i2l (v := (Int32.toInt64 (xs (Int32.toNatClampNeg (x3 + 2))))) hx hb d_L_law_75 rfl ?_
        refine lv_ldc2 (v := 4294967295) hx hb hown (ht _ k_866) d_L_law_76 ?_
        refine lv_land hx hb d_L_law_79 ?_
        refine lv_lor hx hb d_L_law_80 ?_
        refine lv_aload_n hx hb d_L_law_81 rfl (lv_at hl 3 rfl) ?_
        refine lv_iload_n hx hb d_L_law_82 rfl (lv_at hl 0 rfl) ?_
        refine lv_iconst (v := 3) hx hb d_L_law_83 (by decide) ?_
        refine lv_iadd hx hb d_L_law_84 ?_
        have e_5 : Int32.toInt (x3 + 3) = (Int32.toInt x3) + 3 := i_add rfl (show Int32.toInt 3 = 3 by decide) (by omega) (by omega)
        refine va_sld hx hb hX hbl hbA hS (i_in e_5 (by omega) (by omega)) d_L_law_85 ?_
        have hPc := hP.sub (ws' := (WE h g (nI NN) fp many tlen tat qlen md gat kind (.ref (k wi)) (.ref (k ti)) gs th st rq bl te og sc kd sr wo sa qb du)) [0, 1, 2, 3, 4, 5, 6, 7, 8, 9, 10] rfl
        have hDc := hD.sub (ws' := (WE h g (nI NN) fp many tlen tat qlen md gat kind (.ref (k wi)) (.ref (k ti)) gs th st rq bl te og sc kd sr wo sa qb du)) [0, 1, 2, 3, 4, 5, 6, 7, 8, 9, 10] (by decide) rfl
        have hKc := hK.sub (tys' := (TE g)) [0, 1, 2, 3, 4, 5, 6] rfl
        have hFc := va_free (wc := (WE h g (nI NN) fp many tlen tat qlen md gat kind (.ref (k wi)) (.ref (k ti)) gs th st rq bl te og sc kd sr wo sa qb du)) hD hS hA [0, 1, 2, 3, 4, 5, 6, 7, 8, 9, 10] rfl
        refine va_calli (va_runV (As := [.long (((Int32.toInt64 (xs (Int32.toNatClampNeg (x3 + 1)))) <<< ((Int32.toInt64 32) &&& 63)) ||| ((Int32.toInt64 (xs (Int32.toNatClampNeg (x3 + 2)))) &&& 4294967295)), .int (xs (Int32.toNatClampNeg (x3 + 3)))]) (rest := []) ⟨hx, hb, hml, hown, ht⟩ (c_S_put l dC dI k h g NN fp many tlen tat qlen md gat kind gs th st rq bl te og (.ref (k wi)) (.ref (k ti)) sc kd sr sa qb du wo (((Int32.toInt64 (xs (Int32.toNatClampNeg (x3 + 1)))) <<< ((Int32.toInt64 32) &&& 63)) ||| ((Int32.toInt64 (xs (Int32.toNatClampNeg (x3 + 2)))) &&& 4294967295)) (xs (Int32.toNatClampNeg (x3 + 3))) _ v_2) (cwV 2 ht (g_V k_223 k_224 k_225 k_74 k_226) rfl rfl rfl (by decide +kernel) ⟨(Nat.le_of_ble_eq_true rfl), (Nat.le_of_ble_eq_true rfl)⟩) ⟨fb_X, va_recv hKc hPc (ci := 0) (q0 := 0) rfl rfl, pre_X hE hS hFc hPc hKc hDc⟩ rfl rfl hl.1 rfl (lv_room (Nat.le_of_ble_eq_true rfl)) d_L_law_86 ⟨(Nat.le_of_ble_eq_true rfl), (Nat.le_of_ble_eq_true rfl)⟩) hS (fun q _ h9 => hFc q h9) hFc (fun r_6 u_7 t H1 locs het hvm hw hB hz1 hk1 hS => ?_)
        obtain ⟨hP1, hK1, hD1⟩ := hB
        rw [het] at hP1
        have hx1 := hw
        obtain ⟨hP, hD⟩ := va_join (wr := (ME h2 g2 (nI NN) sam som plm sim fam lim com stm rqm blm tem opm wom wzm srm lem txm rom)) (w1 := (WE h g (nI u_7.1) fp many tlen tat qlen md gat kind (.ref (k wi)) (.ref (k ti)) gs th st rq bl te og u_7.2 kd sr wo sa qb du)) hP hD [0, 1, 2, 3, 4, 5, 6, 7, 8, 9, 10] [11, 12, 13, 14, 15, 16, 17] rfl rfl (by decide) (by decide) hk1 hFc hP1 hD1
        have hK1 := va_K.moved hvm.symm hK1
        have hK := (hK.sub (tys' := (TM g2)) [7, 8, 9, 10, 11, 12] rfl).app hK1
        generalize H1 = H at hP hS ⊢
        have hP : va_P (dC, dI) cls ((ME h2 g2 (nI NN) sam som plm sim fam lim com stm rqm blm tem opm wom wzm srm lem txm rom) ++ (WE h g (nI u_7.1) fp many tlen tat qlen md gat kind (.ref (k wi)) (.ref (k ti)) gs th st rq bl te og u_7.2 kd sr wo sa qb du)) H := hP
        have hD : va_D (fun q : Nat => s.heap.size ≤ q) ((ME h2 g2 (nI NN) sam som plm sim fam lim com stm rqm blm tem opm wom wzm srm lem txm rom) ++ (WE h g (nI u_7.1) fp many tlen tat qlen md gat kind (.ref (k wi)) (.ref (k ti)) gs th st rq bl te og u_7.2 kd sr wo sa qb du)) := hD
        have hK : va_K (dC, dI) cls ((TM g2) ++ (TE g)) s := hK
        refine lv_aload_n hx hb d_L_law_89 rfl (lv_at hl 1 rfl) ?_
        refine lv_aload_n hx hb d_L_law_90 rfl (lv_at hl 3 rfl) ?_
        refine lv_iload_n hx hb d_L_law_91 rfl (lv_at hl 0 rfl) ?_
        refine lv_iconst (v := 1) hx hb d_L_law_92 (by decide) ?_
        refine lv_iadd hx hb d_L_law_93 ?_
        have e_8 : Int32.toInt (x3 + 1) = (Int32.toInt x3) + 1 := i_add rfl (show Int32.toInt 1 = 1 by decide) (by omega) (by omega)
        refine va_sld hx hb hX hbl hbA hS (i_in e_8 (by omega) (by omega)) d_L_law_94 ?_
        refine lv_i2l (v := (Int32.toInt64 (xs (Int32.toNatClampNeg (x3 + 1))))) hx hb d_L_law_95 rfl ?_
        refine lv_bipush (v := 32) hx hb d_L_law_96 (by decide) ?_
        refine lv_lshl (v := ((Int32.toInt64 (xs (Int32.toNatClampNeg (x3 + 1)))) <<< ((Int32.toInt64 32) &&& 63))) hx hb d_L_law_98 rfl ?_
        refine lv_aload_n hx hb d_L_law_99 rfl (lv_at hl 3 rfl) ?_
        refine lv_iload_n hx hb d_L_law_100 rfl (lv_at hl 0 rfl) ?_
        refine lv_iconst (v := 2) hx hb d_L_law_101 (by decide) ?_
        refine lv_iadd hx hb d_L_law_102 ?_
        have e_9 : Int32.toInt (x3 + 2) = (Int32.toInt x3) + 2 := i_add rfl (show Int32.toInt 2 = 2 by decide) (by omega) (by omega)
        refine va_sld hx hb hX hbl hbA hS (i_in e_9 (by omega) (by omega)) d_L_law_103 ?_
        refine lv_i2l (v := (Int32.toInt64 (xs (Int32.toNatClampNeg (x3 + 2))))) hx hb d_L_law_104 rfl ?_
        refine lv_ldc2 (v := 4294967295) hx hb hown (ht _ k_866) d_L_law_105 ?_
        refine lv_land hx hb d_L_law_108 ?_
        refine lv_lor hx hb d_L_law_109 ?_
        refine lv_aload_n hx hb d_L_law_110 rfl (lv_at hl 3 rfl) ?_
        refine lv_iload_n hx hb d_L_law_111 rfl (lv_at hl 0 rfl) ?_
        refine lv_iconst (v := 3) hx hb d_L_law_112 (by decide) ?_
        refine lv_iadd hx hb d_L_law_113 ?_
        have e_10 : Int32.toInt (x3 + 3) = (Int32.toInt x3) + 3 := i_add rfl (show Int32.toInt 3 = 3 by decide) (by omega) (by omega)
        refine va_sld hx hb hX hbl hbA hS (i_in e_10 (by omega) (by omega)) d_L_law_114 ?_
        have hPc := hP.sub (ws' := (ME h2 g2 (nI NN) sam som plm sim fam lim com stm rqm blm tem opm wom wzm srm lem txm rom)) [0, 1, 2, 3, 4, 5, 6] rfl
        have hDc := hD.sub (ws' := (ME h2 g2 (nI NN) sam som plm sim fam lim com stm rqm blm tem opm wom wzm srm lem txm rom)) [0, 1, 2, 3, 4, 5, 6] (by decide) rfl
        have hKc := hK.sub (tys' := (TM g2)) [0, 1, 2, 3, 4, 5] rfl
        have hFc := va_free (wc := (ME h2 g2 (nI NN) sam som plm sim fam lim com stm rqm blm tem opm wom wzm srm lem txm rom)) hD hS hA [0, 1, 2, 3, 4, 5, 6] rfl
        refine va_calli (va_runV (As := [.long (((Int32.toInt64 (xs (Int32.toNatClampNeg (x3 + 1)))) <<< ((Int32.toInt64 32) &&& 63)) ||| ((Int32.toInt64 (xs (Int32.toNatClampNeg (x3 + 2)))) &&& 4294967295)), .int (xs (Int32.toNatClampNeg (x3 + 3)))]) (rest := [.int r_6]) ⟨hx, hb, hml, hown, ht⟩ (c_M_put l dC dI k h2 g2 NN sam som plm sim fam lim com stm rqm blm tem opm wom lem wzm srm txm rom (((Int32.toInt64 (xs (Int32.toNatClampNeg (x3 + 1)))) <<< ((Int32.toInt64 32) &&& 63)) ||| ((Int32.toInt64 (xs (Int32.toNatClampNeg (x3 + 2)))) &&& 4294967295)) (xs (Int32.toNatClampNeg (x3 + 3))) _ v_2) (cwV 2 ht (g_V k_686 k_687 k_688 k_80 k_689) rfl rfl rfl (by decide +kernel) ⟨(Nat.le_of_ble_eq_true rfl), (Nat.le_of_ble_eq_true rfl)⟩) ⟨fb_X, va_recv hKc hPc (ci := 4) (q0 := 0) rfl rfl, pre_X hE hS hFc hPc hKc hDc⟩ rfl rfl hl.1 rfl (lv_room (Nat.le_of_ble_eq_true rfl)) d_L_law_115 ⟨(Nat.le_of_ble_eq_true rfl), (Nat.le_of_ble_eq_true rfl)⟩) hS (fun q _ h9 => hFc q h9) hFc (fun r_11 u_12 t H1 locs het hvm hw hB hz1 hk1 hS => ?_)
        obtain ⟨hP1, hK1, hD1⟩ := hB
        rw [het] at hP1
        obtain ⟨heq, hss, hle⟩ := put_same v_2 hx1 hw
        obtain ⟨hP, hD⟩ := va_join (wr := (WE h g (nI u_7.1) fp many tlen tat qlen md gat kind (.ref (k wi)) (.ref (k ti)) gs th st rq bl te og u_7.2 kd sr wo sa qb du)) (w1 := (ME h2 g2 (nI u_12.1) sam som plm sim fam lim com stm rqm blm tem opm wom wzm u_12.2 lem txm rom)) hP hD [0, 1, 2, 3, 4, 5, 6] [7, 8, 9, 10, 11, 12, 13, 14, 15, 16, 17] rfl rfl (by decide) (by decide) hk1 hFc hP1 hD1
        have hK1 := va_K.moved hvm.symm hK1
        have hK := (hK.sub (tys' := (TE g)) [6, 7, 8, 9, 10, 11, 12] rfl).app hK1
        generalize H1 = H at hP hS ⊢
        have hP : va_P (dC, dI) cls ((WE h g (nI u_7.1) fp many tlen tat qlen md gat kind (.ref (k wi)) (.ref (k ti)) gs th st rq bl te og u_7.2 kd sr wo sa qb du) ++ (ME h2 g2 (nI u_12.1) sam som plm sim fam lim com stm rqm blm tem opm wom wzm u_12.2 lem txm rom)) H := hP
        have hD : va_D (fun q : Nat => s.heap.size ≤ q) ((WE h g (nI u_7.1) fp many tlen tat qlen md gat kind (.ref (k wi)) (.ref (k ti)) gs th st rq bl te og u_7.2 kd sr wo sa qb du) ++ (ME h2 g2 (nI u_12.1) sam som plm sim fam lim com stm rqm blm tem opm wom wzm u_12.2 lem txm rom)) := hD
        have hK : va_K (dC, dI) cls ((TE g) ++ (TM g2)) s := hK
        rw [← hss] at hP hD
        refine lv_icmp_eq (tgt := 172) hx hb d_L_law_118 (by decide) (fun _ => ?_) (fun cn => absurd heq cn)
        refine lv_iinc (v := (x3 + 4)) (lv' := [(3, .int (x3 + 4)), (2, .ref (h2 0)), (1, .ref (h 0)), (0, .ref b)]) hx hb d_L_law_172 hl (k := 0) rfl rfl (by decide) rfl (fun ls hl => ?_)
        have e_13 : Int32.toInt (x3 + 4) = (Int32.toInt x3) + 4 := i_add rfl (show Int32.toInt 4 = 4 by decide) (by omega) (by omega)
        refine lv_goto (tgt := 18) hx hb d_L_law_175 (by decide) ?_
        exact ih (x3 + 4) u_7.1 fp many tlen tat qlen md gat kind gs th st rq bl te og wi ti u_7.2 kd sr sa qb du wo sam som plm sim fam lim com stm rqm blm tem opm wom lem wzm u_12.2 txm rom (by omega) (by omega) (by omega) (by omega) (by omega) (by omega) (by omega) (by omega) (by omega) (by omega) (by omega) (by omega) (by omega) (by omega) (by omega) (by omega) (by omega) v_17 (by omega) (by omega) (by omega) (by omega) (by omega) (by omega) (by omega) _ _ ls hP hD hS (lv_sub hl [0, 1, 2, 3] rfl)
      · refine lv_ev (show nI 1 = 1 from rfl) ?_
        refine lv_tableIn (off := 92) (tgt := 123) hx hb d_L_law_31 (by decide) (by decide) (by decide) (by decide) ?_
        refine lv_aload_n hx hb d_L_law_123 rfl (lv_at hl 2 rfl) ?_
        have eN : Int32.toInt (nI NN) = (NN : Int) := nI_toInt (by omega)
        have hPc := hP.sub (ws' := (WE h g (nI NN) fp many tlen tat qlen md gat kind (.ref (k wi)) (.ref (k ti)) gs th st rq bl te og sc kd sr wo sa qb du)) [0, 1, 2, 3, 4, 5, 6, 7, 8, 9, 10] rfl
        have hDc := hD.sub (ws' := (WE h g (nI NN) fp many tlen tat qlen md gat kind (.ref (k wi)) (.ref (k ti)) gs th st rq bl te og sc kd sr wo sa qb du)) [0, 1, 2, 3, 4, 5, 6, 7, 8, 9, 10] (by decide) rfl
        have hKc := hK.sub (tys' := (TE g)) [0, 1, 2, 3, 4, 5, 6] rfl
        have hFc := va_free (wc := (WE h g (nI NN) fp many tlen tat qlen md gat kind (.ref (k wi)) (.ref (k ti)) gs th st rq bl te og sc kd sr wo sa qb du)) hD hS hA [0, 1, 2, 3, 4, 5, 6, 7, 8, 9, 10] rfl
        refine va_calli (va_runV (As := []) (rest := []) ⟨hx, hb, hml, hown, ht⟩ (c_S_check l dC dI k h g (nI NN) fp many tlen tat qlen md gat kind gs th st rq bl te og wi ti sc kd sr sa qb du wo _  (by omega) (by omega) (by omega) (by omega) (by omega) (by omega) (by omega) (by omega) (by omega) (by omega) (by omega) (by omega) (by omega) (by omega) v_17 (by omega) (by omega)) (cwV 0 ht (g_V k_227 k_228 k_229 k_74 k_230) rfl rfl rfl (by decide +kernel) ⟨(Nat.le_of_ble_eq_true rfl), (Nat.le_of_ble_eq_true rfl)⟩) ⟨fb_X, va_recv hKc hPc (ci := 0) (q0 := 0) rfl rfl, pre_X hE hS hFc hPc hKc hDc⟩ rfl rfl hl.1 rfl (lv_room (Nat.le_of_ble_eq_true rfl)) d_L_law_124 ⟨(Nat.le_of_ble_eq_true rfl), (Nat.le_of_ble_eq_true rfl)⟩) hS (fun q _ h9 => hFc q h9) hFc (fun r_14 u_15 t H1 locs het hvm hw hB hz1 hk1 hS => ?_)
        obtain ⟨hP1, hK1, hD1⟩ := hB
        rw [het] at hP1
        obtain ⟨len_16, fp_17, many_18, tlen_19, tat_20, kd_21, sr_22, wo_23, sa_24, qlen_25, qb_26, md_27, du_28, gat_29, kind_30, wi_31, ti_32, gs_33, th_34, st_35, rq_36, bl_37, te_38, og_39⟩ := u_15
        try dsimp only at hw
        obtain ⟨p_40, p_41, p_42, p_43, p_44, p_45, p_46, p_47, p_48, p_49, p_50, p_51, p_52, p_53, p_54, p_55⟩ := hw
        subst p_55
        obtain ⟨hP, hD⟩ := va_join (wr := (ME h2 g2 (nI NN) sam som plm sim fam lim com stm rqm blm tem opm wom wzm srm lem txm rom)) (w1 := (WE h g 0 fp_17 many_18 tlen_19 tat_20 qlen_25 md_27 gat_29 kind_30 (.ref (k wi_31)) (.ref (k ti_32)) gs_33 th_34 st_35 rq_36 bl_37 te_38 og_39 sc kd_21 sr_22 wo_23 sa_24 qb_26 du_28)) hP hD [0, 1, 2, 3, 4, 5, 6, 7, 8, 9, 10] [11, 12, 13, 14, 15, 16, 17] rfl rfl (by decide) (by decide) hk1 hFc hP1 hD1
        have hK1 := va_K.moved hvm.symm hK1
        have hK := (hK.sub (tys' := (TM g2)) [7, 8, 9, 10, 11, 12] rfl).app hK1
        generalize H1 = H at hP hS ⊢
        have hP : va_P (dC, dI) cls ((ME h2 g2 (nI NN) sam som plm sim fam lim com stm rqm blm tem opm wom wzm srm lem txm rom) ++ (WE h g 0 fp_17 many_18 tlen_19 tat_20 qlen_25 md_27 gat_29 kind_30 (.ref (k wi_31)) (.ref (k ti_32)) gs_33 th_34 st_35 rq_36 bl_37 te_38 og_39 sc kd_21 sr_22 wo_23 sa_24 qb_26 du_28)) H := hP
        have hD : va_D (fun q : Nat => s.heap.size ≤ q) ((ME h2 g2 (nI NN) sam som plm sim fam lim com stm rqm blm tem opm wom wzm srm lem txm rom) ++ (WE h g 0 fp_17 many_18 tlen_19 tat_20 qlen_25 md_27 gat_29 kind_30 (.ref (k wi_31)) (.ref (k ti_32)) gs_33 th_34 st_35 rq_36 bl_37 te_38 og_39 sc kd_21 sr_22 wo_23 sa_24 qb_26 du_28)) := hD
        have hK : va_K (dC, dI) cls ((TM g2) ++ (TE g)) s := hK
        refine lv_pop hx hb d_L_law_127 rfl ?_
        refine lv_aload_n hx hb d_L_law_128 rfl (lv_at hl 1 rfl) ?_
        have hPc := hP.sub (ws' := (ME h2 g2 (nI NN) sam som plm sim fam lim com stm rqm blm tem opm wom wzm srm lem txm rom)) [0, 1, 2, 3, 4, 5, 6] rfl
        have hDc := hD.sub (ws' := (ME h2 g2 (nI NN) sam som plm sim fam lim com stm rqm blm tem opm wom wzm srm lem txm rom)) [0, 1, 2, 3, 4, 5, 6] (by decide) rfl
        have hKc := hK.sub (tys' := (TM g2)) [0, 1, 2, 3, 4, 5] rfl
        have hFc := va_free (wc := (ME h2 g2 (nI NN) sam som plm sim fam lim com stm rqm blm tem opm wom wzm srm lem txm rom)) hD hS hA [0, 1, 2, 3, 4, 5, 6] rfl
        refine va_calli (va_runV (As := []) (rest := []) ⟨hx, hb, hml, hown, ht⟩ (c_M_check l dC dI k h2 g2 (nI NN) sam som plm sim fam lim com stm rqm blm tem opm wom lem wzm srm txm rom _  (by omega) (by omega) (by omega) (by omega) (by omega) (by omega) (by omega) (by omega)) (cwV 0 ht (g_V k_690 k_691 k_692 k_80 k_693) rfl rfl rfl (by decide +kernel) ⟨(Nat.le_of_ble_eq_true rfl), (Nat.le_of_ble_eq_true rfl)⟩) ⟨fb_X, va_recv hKc hPc (ci := 4) (q0 := 0) rfl rfl, pre_X hE hS hFc hPc hKc hDc⟩ rfl rfl hl.1 rfl (lv_room (Nat.le_of_ble_eq_true rfl)) d_L_law_129 ⟨(Nat.le_of_ble_eq_true rfl), (Nat.le_of_ble_eq_true rfl)⟩) hS (fun q _ h9 => hFc q h9) hFc (fun r_56 u_57 t H1 locs het hvm hw hB hz1 hk1 hS => ?_)
        obtain ⟨hP1, hK1, hD1⟩ := hB
        rw [het] at hP1
        obtain ⟨ssm_58, sam_59, som_60, plm_61, fam_62, opm_63, sim_64, lem_65, txm_66, stm_67, rqm_68, com_69, rom_70, tem_71, blm_72, lim_73⟩ := u_57
        try dsimp only at hw
        obtain ⟨p_74, p_75, p_76, p_77, p_78, p_79, p_80, p_81, p_82⟩ := hw
        subst p_82
        obtain ⟨hP, hD⟩ := va_join (wr := (WE h g 0 fp_17 many_18 tlen_19 tat_20 qlen_25 md_27 gat_29 kind_30 (.ref (k wi_31)) (.ref (k ti_32)) gs_33 th_34 st_35 rq_36 bl_37 te_38 og_39 sc kd_21 sr_22 wo_23 sa_24 qb_26 du_28)) (w1 := (ME h2 g2 0 sam_59 som_60 plm_61 sim_64 fam_62 lim_73 com_69 stm_67 rqm_68 blm_72 tem_71 opm_63 wom wzm srm lem_65 txm_66 rom_70)) hP hD [0, 1, 2, 3, 4, 5, 6] [7, 8, 9, 10, 11, 12, 13, 14, 15, 16, 17] rfl rfl (by decide) (by decide) hk1 hFc hP1 hD1
        have hK1 := va_K.moved hvm.symm hK1
        have hK := (hK.sub (tys' := (TE g)) [6, 7, 8, 9, 10, 11, 12] rfl).app hK1
        generalize H1 = H at hP hS ⊢
        have hP : va_P (dC, dI) cls ((WE h g 0 fp_17 many_18 tlen_19 tat_20 qlen_25 md_27 gat_29 kind_30 (.ref (k wi_31)) (.ref (k ti_32)) gs_33 th_34 st_35 rq_36 bl_37 te_38 og_39 sc kd_21 sr_22 wo_23 sa_24 qb_26 du_28) ++ (ME h2 g2 0 sam_59 som_60 plm_61 sim_64 fam_62 lim_73 com_69 stm_67 rqm_68 blm_72 tem_71 opm_63 wom wzm srm lem_65 txm_66 rom_70)) H := hP
        have hD : va_D (fun q : Nat => s.heap.size ≤ q) ((WE h g 0 fp_17 many_18 tlen_19 tat_20 qlen_25 md_27 gat_29 kind_30 (.ref (k wi_31)) (.ref (k ti_32)) gs_33 th_34 st_35 rq_36 bl_37 te_38 og_39 sc kd_21 sr_22 wo_23 sa_24 qb_26 du_28) ++ (ME h2 g2 0 sam_59 som_60 plm_61 sim_64 fam_62 lim_73 com_69 stm_67 rqm_68 blm_72 tem_71 opm_63 wom wzm srm lem_65 txm_66 rom_70)) := hD
        have hK : va_K (dC, dI) cls ((TE g) ++ (TM g2)) s := hK
        refine lv_pop hx hb d_L_law_132 rfl ?_
        refine lv_goto (tgt := 172) hx hb d_L_law_133 (by decide) ?_
        refine lv_iinc (v := (x3 + 4)) (lv' := [(3, .int (x3 + 4)), (2, .ref (h2 0)), (1, .ref (h 0)), (0, .ref b)]) hx hb d_L_law_172 hl (k := 0) rfl rfl (by decide) rfl (fun ls hl => ?_)
        have e_83 : Int32.toInt (x3 + 4) = (Int32.toInt x3) + 4 := i_add rfl (show Int32.toInt 4 = 4 by decide) (by omega) (by omega)
        refine lv_goto (tgt := 18) hx hb d_L_law_175 (by decide) ?_
        exact ih (x3 + 4) 0 fp_17 many_18 tlen_19 tat_20 qlen_25 md_27 gat_29 kind_30 gs_33 th_34 st_35 rq_36 bl_37 te_38 og_39 wi_31 ti_32 sc kd_21 sr_22 sa_24 qb_26 du_28 wo_23 sam_59 som_60 plm_61 sim_64 fam_62 lim_73 com_69 stm_67 rqm_68 blm_72 tem_71 opm_63 wom lem_65 wzm srm txm_66 rom_70 (by omega) (by omega) (by omega) (by omega) (by omega) (by omega) (by omega) (by omega) (by omega) (by omega) (by omega) (by omega) (by omega) (by omega) (by omega) (by omega) (by omega) p_46 (by omega) (by omega) (by omega) (by omega) (by omega) (by omega) (by omega) _ _ ls hP hD hS (lv_sub hl [0, 1, 2, 3] rfl)
      · refine lv_ev (show nI 2 = 2 from rfl) ?_
        refine lv_tableIn (off := 105) (tgt := 136) hx hb d_L_law_31 (by decide) (by decide) (by decide) (by decide) ?_
        refine lv_aload_n hx hb d_L_law_136 rfl (lv_at hl 2 rfl) ?_
        have hPc := hP.sub (ws' := (WE h g (nI NN) fp many tlen tat qlen md gat kind (.ref (k wi)) (.ref (k ti)) gs th st rq bl te og sc kd sr wo sa qb du)) [0, 1, 2, 3, 4, 5, 6, 7, 8, 9, 10] rfl
        have hDc := hD.sub (ws' := (WE h g (nI NN) fp many tlen tat qlen md gat kind (.ref (k wi)) (.ref (k ti)) gs th st rq bl te og sc kd sr wo sa qb du)) [0, 1, 2, 3, 4, 5, 6, 7, 8, 9, 10] (by decide) rfl
        have hKc := hK.sub (tys' := (TE g)) [0, 1, 2, 3, 4, 5, 6] rfl
        have hFc := va_free (wc := (WE h g (nI NN) fp many tlen tat qlen md gat kind (.ref (k wi)) (.ref (k ti)) gs th st rq bl te og sc kd sr wo sa qb du)) hD hS hA [0, 1, 2, 3, 4, 5, 6, 7, 8, 9, 10] rfl
        refine va_calli (va_runV (As := []) (rest := []) ⟨hx, hb, hml, hown, ht⟩ (c_S_place l dC dI k h g (nI NN) fp many tlen tat qlen md gat kind gs th st rq bl te og (.ref (k wi)) (.ref (k ti)) sc kd sr sa qb du wo _) (cwV 0 ht (g_V k_549 k_550 k_551 k_74 k_552) rfl rfl rfl (by decide +kernel) ⟨(Nat.le_of_ble_eq_true rfl), (Nat.le_of_ble_eq_true rfl)⟩) ⟨fb_X, va_recv hKc hPc (ci := 0) (q0 := 0) rfl rfl, pre_X hE hS hFc hPc hKc hDc⟩ rfl rfl hl.1 rfl (lv_room (Nat.le_of_ble_eq_true rfl)) d_L_law_137 ⟨(Nat.le_of_ble_eq_true rfl), (Nat.le_of_ble_eq_true rfl)⟩) hS (fun q _ h9 => hFc q h9) hFc (fun r_84 u_85 t H1 locs het hvm hw hB hz1 hk1 hS => ?_)
        obtain ⟨hP1, hK1, hD1⟩ := hB
        rw [het] at hP1
        obtain ⟨hP, hD⟩ := va_join (wr := (ME h2 g2 (nI NN) sam som plm sim fam lim com stm rqm blm tem opm wom wzm srm lem txm rom)) (w1 := (WE h g (nI NN) fp many tlen tat qlen md gat kind (.ref (k wi)) (.ref (k ti)) gs th st rq bl te og sc kd sr wo sa qb du)) hP hD [0, 1, 2, 3, 4, 5, 6, 7, 8, 9, 10] [11, 12, 13, 14, 15, 16, 17] rfl rfl (by decide) (by decide) hk1 hFc hP1 hD1
        have hK1 := va_K.moved hvm.symm hK1
        have hK := (hK.sub (tys' := (TM g2)) [7, 8, 9, 10, 11, 12] rfl).app hK1
        generalize H1 = H at hP hS ⊢
        have hP : va_P (dC, dI) cls ((ME h2 g2 (nI NN) sam som plm sim fam lim com stm rqm blm tem opm wom wzm srm lem txm rom) ++ (WE h g (nI NN) fp many tlen tat qlen md gat kind (.ref (k wi)) (.ref (k ti)) gs th st rq bl te og sc kd sr wo sa qb du)) H := hP
        have hD : va_D (fun q : Nat => s.heap.size ≤ q) ((ME h2 g2 (nI NN) sam som plm sim fam lim com stm rqm blm tem opm wom wzm srm lem txm rom) ++ (WE h g (nI NN) fp many tlen tat qlen md gat kind (.ref (k wi)) (.ref (k ti)) gs th st rq bl te og sc kd sr wo sa qb du)) := hD
        have hK : va_K (dC, dI) cls ((TM g2) ++ (TE g)) s := hK
        refine lv_pop hx hb d_L_law_140 rfl ?_
        refine lv_aload_n hx hb d_L_law_141 rfl (lv_at hl 1 rfl) ?_
        have hPc := hP.sub (ws' := (ME h2 g2 (nI NN) sam som plm sim fam lim com stm rqm blm tem opm wom wzm srm lem txm rom)) [0, 1, 2, 3, 4, 5, 6] rfl
        have hDc := hD.sub (ws' := (ME h2 g2 (nI NN) sam som plm sim fam lim com stm rqm blm tem opm wom wzm srm lem txm rom)) [0, 1, 2, 3, 4, 5, 6] (by decide) rfl
        have hKc := hK.sub (tys' := (TM g2)) [0, 1, 2, 3, 4, 5] rfl
        have hFc := va_free (wc := (ME h2 g2 (nI NN) sam som plm sim fam lim com stm rqm blm tem opm wom wzm srm lem txm rom)) hD hS hA [0, 1, 2, 3, 4, 5, 6] rfl
        refine va_calli (va_runV (As := []) (rest := []) ⟨hx, hb, hml, hown, ht⟩ (c_M_place l dC dI k h2 g2 (nI NN) sam som plm sim fam lim com stm rqm blm tem opm wom lem wzm srm txm rom _) (cwV 0 ht (g_V k_858 k_859 k_860 k_80 k_861) rfl rfl rfl (by decide +kernel) ⟨(Nat.le_of_ble_eq_true rfl), (Nat.le_of_ble_eq_true rfl)⟩) ⟨fb_X, va_recv hKc hPc (ci := 4) (q0 := 0) rfl rfl, pre_X hE hS hFc hPc hKc hDc⟩ rfl rfl hl.1 rfl (lv_room (Nat.le_of_ble_eq_true rfl)) d_L_law_142 ⟨(Nat.le_of_ble_eq_true rfl), (Nat.le_of_ble_eq_true rfl)⟩) hS (fun q _ h9 => hFc q h9) hFc (fun r_86 u_87 t H1 locs het hvm hw hB hz1 hk1 hS => ?_)
        obtain ⟨hP1, hK1, hD1⟩ := hB
        rw [het] at hP1
        obtain ⟨hP, hD⟩ := va_join (wr := (WE h g (nI NN) fp many tlen tat qlen md gat kind (.ref (k wi)) (.ref (k ti)) gs th st rq bl te og sc kd sr wo sa qb du)) (w1 := (ME h2 g2 (nI NN) sam som plm sim fam lim com stm rqm blm tem opm wom wzm srm lem txm rom)) hP hD [0, 1, 2, 3, 4, 5, 6] [7, 8, 9, 10, 11, 12, 13, 14, 15, 16, 17] rfl rfl (by decide) (by decide) hk1 hFc hP1 hD1
        have hK1 := va_K.moved hvm.symm hK1
        have hK := (hK.sub (tys' := (TE g)) [6, 7, 8, 9, 10, 11, 12] rfl).app hK1
        generalize H1 = H at hP hS ⊢
        have hP : va_P (dC, dI) cls ((WE h g (nI NN) fp many tlen tat qlen md gat kind (.ref (k wi)) (.ref (k ti)) gs th st rq bl te og sc kd sr wo sa qb du) ++ (ME h2 g2 (nI NN) sam som plm sim fam lim com stm rqm blm tem opm wom wzm srm lem txm rom)) H := hP
        have hD : va_D (fun q : Nat => s.heap.size ≤ q) ((WE h g (nI NN) fp many tlen tat qlen md gat kind (.ref (k wi)) (.ref (k ti)) gs th st rq bl te og sc kd sr wo sa qb du) ++ (ME h2 g2 (nI NN) sam som plm sim fam lim com stm rqm blm tem opm wom wzm srm lem txm rom)) := hD
        have hK : va_K (dC, dI) cls ((TE g) ++ (TM g2)) s := hK
        refine lv_pop hx hb d_L_law_145 rfl ?_
        refine lv_goto (tgt := 172) hx hb d_L_law_146 (by decide) ?_
        refine lv_iinc (v := (x3 + 4)) (lv' := [(3, .int (x3 + 4)), (2, .ref (h2 0)), (1, .ref (h 0)), (0, .ref b)]) hx hb d_L_law_172 hl (k := 0) rfl rfl (by decide) rfl (fun ls hl => ?_)
        have e_88 : Int32.toInt (x3 + 4) = (Int32.toInt x3) + 4 := i_add rfl (show Int32.toInt 4 = 4 by decide) (by omega) (by omega)
        refine lv_goto (tgt := 18) hx hb d_L_law_175 (by decide) ?_
        exact ih (x3 + 4) NN fp many tlen tat qlen md gat kind gs th st rq bl te og wi ti sc kd sr sa qb du wo sam som plm sim fam lim com stm rqm blm tem opm wom lem wzm srm txm rom (by omega) (by omega) (by omega) (by omega) (by omega) (by omega) (by omega) (by omega) (by omega) (by omega) (by omega) (by omega) (by omega) (by omega) (by omega) (by omega) (by omega) v_17 (by omega) (by omega) (by omega) (by omega) (by omega) (by omega) (by omega) _ _ ls hP hD hS (lv_sub hl [0, 1, 2, 3] rfl)
      · refine lv_ev (show nI 3 = 3 from rfl) ?_
        refine lv_tableIn (off := 118) (tgt := 149) hx hb d_L_law_31 (by decide) (by decide) (by decide) (by decide) ?_
        refine lv_aload_n hx hb d_L_law_149 rfl (lv_at hl 2 rfl) ?_
        refine lv_aload_n hx hb d_L_law_150 rfl (lv_at hl 3 rfl) ?_
        refine lv_iload_n hx hb d_L_law_151 rfl (lv_at hl 0 rfl) ?_
        refine lv_iconst (v := 1) hx hb d_L_law_152 (by decide) ?_
        refine lv_iadd hx hb d_L_law_153 ?_
        have e_89 : Int32.toInt (x3 + 1) = (Int32.toInt x3) + 1 := i_add rfl (show Int32.toInt 1 = 1 by decide) (by omega) (by omega)
        refine va_sld hx hb hX hbl hbA hS (i_in e_89 (by omega) (by omega)) d_L_law_154 ?_
        have hPc := hP.sub (ws' := (WE h g (nI NN) fp many tlen tat qlen md gat kind (.ref (k wi)) (.ref (k ti)) gs th st rq bl te og sc kd sr wo sa qb du)) [0, 1, 2, 3, 4, 5, 6, 7, 8, 9, 10] rfl
        have hDc := hD.sub (ws' := (WE h g (nI NN) fp many tlen tat qlen md gat kind (.ref (k wi)) (.ref (k ti)) gs th st rq bl te og sc kd sr wo sa qb du)) [0, 1, 2, 3, 4, 5, 6, 7, 8, 9, 10] (by decide) rfl
        have hKc := hK.sub (tys' := (TE g)) [0, 1, 2, 3, 4, 5, 6] rfl
        have hFc := va_free (wc := (WE h g (nI NN) fp many tlen tat qlen md gat kind (.ref (k wi)) (.ref (k ti)) gs th st rq bl te og sc kd sr wo sa qb du)) hD hS hA [0, 1, 2, 3, 4, 5, 6, 7, 8, 9, 10] rfl
        refine va_calli (va_runV (As := [.int (xs (Int32.toNatClampNeg (x3 + 1)))]) (rest := []) ⟨hx, hb, hml, hown, ht⟩ (c_S_count l dC dI k h g (nI NN) fp many tlen tat qlen md gat kind gs th st rq bl te og (.ref (k wi)) (.ref (k ti)) sc kd sr sa qb du wo (xs (Int32.toNatClampNeg (x3 + 1))) _) (cwV 1 ht (g_V k_553 k_554 k_555 k_74 k_556) rfl rfl rfl (by decide +kernel) ⟨(Nat.le_of_ble_eq_true rfl), (Nat.le_of_ble_eq_true rfl)⟩) ⟨fb_X, va_recv hKc hPc (ci := 0) (q0 := 0) rfl rfl, pre_X hE hS hFc hPc hKc hDc⟩ rfl rfl hl.1 rfl (lv_room (Nat.le_of_ble_eq_true rfl)) d_L_law_155 ⟨(Nat.le_of_ble_eq_true rfl), (Nat.le_of_ble_eq_true rfl)⟩) hS (fun q _ h9 => hFc q h9) hFc (fun r_90 u_91 t H1 locs het hvm hw hB hz1 hk1 hS => ?_)
        obtain ⟨hP1, hK1, hD1⟩ := hB
        rw [het] at hP1
        obtain ⟨hP, hD⟩ := va_join (wr := (ME h2 g2 (nI NN) sam som plm sim fam lim com stm rqm blm tem opm wom wzm srm lem txm rom)) (w1 := (WE h g (nI NN) fp many tlen tat qlen md gat kind (.ref (k wi)) (.ref (k ti)) gs th st rq bl te og sc kd sr wo sa qb du)) hP hD [0, 1, 2, 3, 4, 5, 6, 7, 8, 9, 10] [11, 12, 13, 14, 15, 16, 17] rfl rfl (by decide) (by decide) hk1 hFc hP1 hD1
        have hK1 := va_K.moved hvm.symm hK1
        have hK := (hK.sub (tys' := (TM g2)) [7, 8, 9, 10, 11, 12] rfl).app hK1
        generalize H1 = H at hP hS ⊢
        have hP : va_P (dC, dI) cls ((ME h2 g2 (nI NN) sam som plm sim fam lim com stm rqm blm tem opm wom wzm srm lem txm rom) ++ (WE h g (nI NN) fp many tlen tat qlen md gat kind (.ref (k wi)) (.ref (k ti)) gs th st rq bl te og sc kd sr wo sa qb du)) H := hP
        have hD : va_D (fun q : Nat => s.heap.size ≤ q) ((ME h2 g2 (nI NN) sam som plm sim fam lim com stm rqm blm tem opm wom wzm srm lem txm rom) ++ (WE h g (nI NN) fp many tlen tat qlen md gat kind (.ref (k wi)) (.ref (k ti)) gs th st rq bl te og sc kd sr wo sa qb du)) := hD
        have hK : va_K (dC, dI) cls ((TM g2) ++ (TE g)) s := hK
        refine lv_pop hx hb d_L_law_158 rfl ?_
        refine lv_aload_n hx hb d_L_law_159 rfl (lv_at hl 1 rfl) ?_
        refine lv_aload_n hx hb d_L_law_160 rfl (lv_at hl 3 rfl) ?_
        refine lv_iload_n hx hb d_L_law_161 rfl (lv_at hl 0 rfl) ?_
        refine lv_iconst (v := 1) hx hb d_L_law_162 (by decide) ?_
        refine lv_iadd hx hb d_L_law_163 ?_
        have e_92 : Int32.toInt (x3 + 1) = (Int32.toInt x3) + 1 := i_add rfl (show Int32.toInt 1 = 1 by decide) (by omega) (by omega)
        refine va_sld hx hb hX hbl hbA hS (i_in e_92 (by omega) (by omega)) d_L_law_164 ?_
        have hPc := hP.sub (ws' := (ME h2 g2 (nI NN) sam som plm sim fam lim com stm rqm blm tem opm wom wzm srm lem txm rom)) [0, 1, 2, 3, 4, 5, 6] rfl
        have hDc := hD.sub (ws' := (ME h2 g2 (nI NN) sam som plm sim fam lim com stm rqm blm tem opm wom wzm srm lem txm rom)) [0, 1, 2, 3, 4, 5, 6] (by decide) rfl
        have hKc := hK.sub (tys' := (TM g2)) [0, 1, 2, 3, 4, 5] rfl
        have hFc := va_free (wc := (ME h2 g2 (nI NN) sam som plm sim fam lim com stm rqm blm tem opm wom wzm srm lem txm rom)) hD hS hA [0, 1, 2, 3, 4, 5, 6] rfl
        refine va_calli (va_runV (As := [.int (xs (Int32.toNatClampNeg (x3 + 1)))]) (rest := []) ⟨hx, hb, hml, hown, ht⟩ (c_M_count l dC dI k h2 g2 (nI NN) sam som plm sim fam lim com stm rqm blm tem opm wom lem wzm srm txm rom (xs (Int32.toNatClampNeg (x3 + 1))) _) (cwV 1 ht (g_V k_862 k_863 k_864 k_80 k_865) rfl rfl rfl (by decide +kernel) ⟨(Nat.le_of_ble_eq_true rfl), (Nat.le_of_ble_eq_true rfl)⟩) ⟨fb_X, va_recv hKc hPc (ci := 4) (q0 := 0) rfl rfl, pre_X hE hS hFc hPc hKc hDc⟩ rfl rfl hl.1 rfl (lv_room (Nat.le_of_ble_eq_true rfl)) d_L_law_165 ⟨(Nat.le_of_ble_eq_true rfl), (Nat.le_of_ble_eq_true rfl)⟩) hS (fun q _ h9 => hFc q h9) hFc (fun r_93 u_94 t H1 locs het hvm hw hB hz1 hk1 hS => ?_)
        obtain ⟨hP1, hK1, hD1⟩ := hB
        rw [het] at hP1
        obtain ⟨hP, hD⟩ := va_join (wr := (WE h g (nI NN) fp many tlen tat qlen md gat kind (.ref (k wi)) (.ref (k ti)) gs th st rq bl te og sc kd sr wo sa qb du)) (w1 := (ME h2 g2 (nI NN) sam som plm sim fam lim com stm rqm blm tem opm wom wzm srm lem txm rom)) hP hD [0, 1, 2, 3, 4, 5, 6] [7, 8, 9, 10, 11, 12, 13, 14, 15, 16, 17] rfl rfl (by decide) (by decide) hk1 hFc hP1 hD1
        have hK1 := va_K.moved hvm.symm hK1
        have hK := (hK.sub (tys' := (TE g)) [6, 7, 8, 9, 10, 11, 12] rfl).app hK1
        generalize H1 = H at hP hS ⊢
        have hP : va_P (dC, dI) cls ((WE h g (nI NN) fp many tlen tat qlen md gat kind (.ref (k wi)) (.ref (k ti)) gs th st rq bl te og sc kd sr wo sa qb du) ++ (ME h2 g2 (nI NN) sam som plm sim fam lim com stm rqm blm tem opm wom wzm srm lem txm rom)) H := hP
        have hD : va_D (fun q : Nat => s.heap.size ≤ q) ((WE h g (nI NN) fp many tlen tat qlen md gat kind (.ref (k wi)) (.ref (k ti)) gs th st rq bl te og sc kd sr wo sa qb du) ++ (ME h2 g2 (nI NN) sam som plm sim fam lim com stm rqm blm tem opm wom wzm srm lem txm rom)) := hD
        have hK : va_K (dC, dI) cls ((TE g) ++ (TM g2)) s := hK
        refine lv_pop hx hb d_L_law_168 rfl ?_
        refine lv_goto (tgt := 172) hx hb d_L_law_169 (by decide) ?_
        refine lv_iinc (v := (x3 + 4)) (lv' := [(3, .int (x3 + 4)), (2, .ref (h2 0)), (1, .ref (h 0)), (0, .ref b)]) hx hb d_L_law_172 hl (k := 0) rfl rfl (by decide) rfl (fun ls hl => ?_)
        have e_95 : Int32.toInt (x3 + 4) = (Int32.toInt x3) + 4 := i_add rfl (show Int32.toInt 4 = 4 by decide) (by omega) (by omega)
        refine lv_goto (tgt := 18) hx hb d_L_law_175 (by decide) ?_
        exact ih (x3 + 4) NN fp many tlen tat qlen md gat kind gs th st rq bl te og wi ti sc kd sr sa qb du wo sam som plm sim fam lim com stm rqm blm tem opm wom lem wzm srm txm rom (by omega) (by omega) (by omega) (by omega) (by omega) (by omega) (by omega) (by omega) (by omega) (by omega) (by omega) (by omega) (by omega) (by omega) (by omega) (by omega) (by omega) v_17 (by omega) (by omega) (by omega) (by omega) (by omega) (by omega) (by omega) _ _ ls hP hD hS (lv_sub hl [0, 1, 2, 3] rfl)

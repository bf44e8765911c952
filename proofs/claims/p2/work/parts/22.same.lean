set_option maxHeartbeats 4000000 in
set_option maxRecDepth 100000 in
theorem lp_S_same_s_25 {p : Program} {l : Launch} {e : Env} {s : State} {m : MethodId} {args : Array Value} {below : List Frame} {meth : Method} {c : Code} {Q : State → Prop} {A : Nat → Prop} {dC : Nat → ClassId} {dI : Nat → Nat → Nat} {k h : Nat → Nat} {g : Nat → ClassId} {len : Int32} {fp : Int32} {many : Int32} {tlen : Int32} {tat : Int32} {qlen : Int32} {md : Int32} {gat : Int32} {kind : Int32} {gs : Int32} {th : Int32} {st : Int32} {rq : Int32} {bl : Int32} {te : Int32} {og : Int32} {wi : Nat} {ti : Nat} {sc : Nat → Int32} {kd : Nat → Int32} {sr : Nat → Int32} {sa : Nat → Int32} {qb : Nat → Int32} {du : Nat → Int32} {wo : Nat → Option Nat} (hx : p.tables.exec = Jvm.exec) (hb : c.code = b_S_same) (hml : c.maxLocals = 7) (hown : s.vm.findClass "SieveDesk" = some m.cls) (ht : ∀ w ∈ TT, w.before args s = true) (hE : KE k A s s.heap) (hA : ∀ q : Nat, s.heap.size ≤ q → A q) (hK : va_K (dC, dI) cls (TE g) s) {fr to : Int32} {si : Nat} (h_0 : si < 116) (h_1 : Int32.toInt fr ≤ 1000) (h_2 : -1000 ≤ Int32.toInt to) (h_3 : Int32.toInt to ≤ 1000) (fin : ∀ (r : Int32) (u : Unit) (H : Heap) (locs : List Loc) (pc : Nat) (ls : Array Slot), decode b_S_same pc = .ok (.ireturn, 1) → narrow .boolean (.int r) = .int r → (narrow .boolean (.int r) = .int r) → va_P (dC, dI) cls (WE h g len fp many tlen tat qlen md gat kind (.ref (k wi)) (.ref (k ti)) gs th st rq bl te og sc kd sr wo sa qb du) H → va_D A (WE h g len fp many tlen tat qlen md gat kind (.ref (k wi)) (.ref (k ti)) gs th st rq bl te og sc kd sr wo sa qb du) → va_S A s.heap H locs → W p l e ({ frames := 4, cells := 0, slots := 0, locals := 85 } : Room) s m args below meth c H locs 0 0 Q (F0 m pc ls [.int r])) : ∀ (nn : Nat), ∀ (i : Int32), 0 ≤ Int32.toInt i → Int32.toInt i ≤ 100 → 0 ≤ Int32.toInt fr → Int32.toInt to ≤ 400 → Int32.toInt to - Int32.toInt fr = ((k (500 + si) : Nat) : Int) → (101 - Int32.toInt i).toNat < nn → ∀ (H : Heap) (locs : List Loc) (ls : Array Slot), va_P (dC, dI) cls (WE h g len fp many tlen tat qlen md gat kind (.ref (k wi)) (.ref (k ti)) gs th st rq bl te og sc kd sr wo sa qb du) H → va_D A (WE h g len fp many tlen tat qlen md gat kind (.ref (k wi)) (.ref (k ti)) gs th st rq bl te og sc kd sr wo sa qb du) → va_S A s.heap H locs → lv_has ls 7 [(4, .int i), (0, .ref (h 1)), (1, .int fr), (2, .int to), (3, .ref (k (100 + si)))] → W p l e ({ frames := 4, cells := 0, slots := 0, locals := 85 } : Room) s m args below meth c H locs 0 0 Q (F0 m 25 ls []) := by
  intro nn
  induction nn with
  | zero =>
    intro _ _ _ _ _ _ hm
    exact absurd hm (Nat.not_lt_zero _)
  | succ nn ih =>
    intro i v_0 v_1 v_2 v_3 v_4 hm H locs ls hP hD hS hl
    refine lv_iload hx hb d_S_same_25 (lv_at hl 0 rfl) ?_
    refine lv_aload_n hx hb d_S_same_27 rfl (lv_at hl 4 rfl) ?_
    refine vp_callSi (W.runV (As := []) (rest := [.int i]) ⟨hx, hb, hml, hown, ht⟩ (c_JS_length l k si (by omega)) (cwV 0 ht (g_V k_284 k_285 k_286 k_81 k_287) rfl rfl rfl (by decide +kernel) ⟨(Nat.le_of_ble_eq_true rfl), (Nat.le_of_ble_eq_true rfl)⟩) ⟨fb_J, oo_recv (ke_s hE (i := si) (by omega)).1 hS, pre_J hE hS⟩ rfl rfl hl.1 rfl (lv_room (Nat.le_of_ble_eq_true rfl)) d_S_same_28 ⟨(Nat.le_of_ble_eq_true rfl), (Nat.le_of_ble_eq_true rfl)⟩) (fun r_1 hw => ?_)
    obtain ⟨p_2, p_3, p_4⟩ := hw
    refine lv_icmp_ge (tgt := 85) hx hb d_S_same_31 (by decide) (fun c_5 => ?_) (fun c_5 => ?_)
    · have dc_5 := i_le c_5 rfl rfl
      refine lv_iconst (v := 1) hx hb d_S_same_85 (by decide) ?_
      have hc_1 : Int32.toInt 1 = 1 := by decide
      exact fin 1 () _ _ _ ls d_S_same_86 rfl rfl hP hD hS
    · have dc_5 := i_nle c_5 rfl rfl
      refine lv_aload_n hx hb d_S_same_34 rfl (lv_at hl 1 rfl) ?_
      refine lv_iload_n hx hb d_S_same_35 rfl (lv_at hl 2 rfl) ?_
      refine lv_iload hx hb d_S_same_36 (lv_at hl 0 rfl) ?_
      refine lv_iadd hx hb d_S_same_38 ?_
      have e_6 : Int32.toInt (fr + i) = (Int32.toInt fr) + (Int32.toInt i) := i_add rfl rfl (by omega) (by omega)
      refine va_bald hx hb hK hP 1 0 rfl rfl (i_in e_6 (by omega) (by omega)) d_S_same_39 ?_
      refine lv_sipush (v := 255) hx hb d_S_same_40 (by decide) ?_
      refine lv_iand hx hb d_S_same_43 ?_
      refine lv_istore (lv' := [(5, .int ((sc (Int32.toNatClampNeg (fr + i))) &&& 255)), (4, .int i), (0, .ref (h 1)), (1, .int fr), (2, .int to), (3, .ref (k (100 + si)))]) hx hb d_S_same_44 hl (by decide) rfl (fun ls hl => ?_)
      refine lv_iload hx hb d_S_same_46 (lv_at hl 0 rfl) ?_
      refine vp_callSi (W.runS (As := [.int ((sc (Int32.toNatClampNeg (fr + i))) &&& 255)]) (rest := []) ⟨hx, hb, hml, hown, ht⟩ (c_S_isLetter l k ((sc (Int32.toNatClampNeg (fr + i))) &&& 255) ) (va_cwS 1 ht (g_S k_263 k_264 k_74 k_265) rfl rfl rfl (by decide +kernel) ⟨(Nat.le_of_ble_eq_true rfl), (Nat.le_of_ble_eq_true rfl)⟩) ⟨fb_J, pre_J hE hS⟩ rfl rfl hl.1 rfl (lv_room (Nat.le_of_ble_eq_true rfl)) d_S_same_48 ⟨(Nat.le_of_ble_eq_true rfl), (Nat.le_of_ble_eq_true rfl)⟩) (fun r_7 hw => ?_)
      obtain ⟨p_8, p_9⟩ := hw
      refine lv_if_eq (tgt := 62) hx hb d_S_same_51 (by decide) (fun c_10 => ?_) (fun c_10 => ?_)
      · have dc_10 := i_eq c_10 rfl (show Int32.toInt 0 = 0 by decide)
        refine lv_iload hx hb d_S_same_62 (lv_at hl 0 rfl) ?_
        refine lv_istore (lv' := [(6, .int ((sc (Int32.toNatClampNeg (fr + i))) &&& 255)), (5, .int ((sc (Int32.toNatClampNeg (fr + i))) &&& 255)), (4, .int i), (0, .ref (h 1)), (1, .int fr), (2, .int to), (3, .ref (k (100 + si)))]) hx hb d_S_same_64 hl (by decide) rfl (fun ls hl => ?_)
        refine lv_iload hx hb d_S_same_66 (lv_at hl 0 rfl) ?_
        refine lv_aload_n hx hb d_S_same_68 rfl (lv_at hl 6 rfl) ?_
        refine lv_iload hx hb d_S_same_69 (lv_at hl 2 rfl) ?_
        refine vp_callSi (W.runV (As := [.int i]) (rest := [.int ((sc (Int32.toNatClampNeg (fr + i))) &&& 255)]) ⟨hx, hb, hml, hown, ht⟩ (c_JS_charAt l k si i (by omega) (by omega) (by omega)) (cwV 1 ht (g_V k_294 k_295 k_296 k_81 k_297) rfl rfl rfl (by decide +kernel) ⟨(Nat.le_of_ble_eq_true rfl), (Nat.le_of_ble_eq_true rfl)⟩) ⟨fb_J, oo_recv (ke_s hE (i := si) (by omega)).1 hS, pre_J hE hS⟩ rfl rfl hl.1 rfl (lv_room (Nat.le_of_ble_eq_true rfl)) d_S_same_71 ⟨(Nat.le_of_ble_eq_true rfl), (Nat.le_of_ble_eq_true rfl)⟩) (fun r_11 hw => ?_)
        have p_12 := hw
        refine lv_icmp_eq (tgt := 79) hx hb d_S_same_74 (by decide) (fun c_13 => ?_) (fun c_13 => ?_)
        · refine lv_iinc (v := (i + 1)) (lv' := [(4, .int (i + 1)), (6, .int ((sc (Int32.toNatClampNeg (fr + i))) &&& 255)), (5, .int ((sc (Int32.toNatClampNeg (fr + i))) &&& 255)), (0, .ref (h 1)), (1, .int fr), (2, .int to), (3, .ref (k (100 + si)))]) hx hb d_S_same_79 hl (k := 2) rfl rfl (by decide) rfl (fun ls hl => ?_)
          have e_14 : Int32.toInt (i + 1) = (Int32.toInt i) + 1 := i_add rfl (show Int32.toInt 1 = 1 by decide) (by omega) (by omega)
          refine lv_goto (tgt := 25) hx hb d_S_same_82 (by decide) ?_
          exact ih (i + 1) (by omega) (by omega) (by omega) (by omega) (by omega) (by omega) _ _ ls hP hD hS (lv_sub hl [0, 3, 4, 5, 6] rfl)
        · refine lv_iconst (v := 0) hx hb d_S_same_77 (by decide) ?_
          have hc_0 : Int32.toInt 0 = 0 := by decide
          exact fin 0 () _ _ _ ls d_S_same_78 rfl rfl hP hD hS
      · have dc_10 := i_ne c_10 rfl (show Int32.toInt 0 = 0 by decide)
        refine lv_iload hx hb d_S_same_54 (lv_at hl 0 rfl) ?_
        refine lv_bipush (v := 32) hx hb d_S_same_56 (by decide) ?_
        refine lv_ior hx hb d_S_same_58 ?_
        refine lv_goto (tgt := 64) hx hb d_S_same_59 (by decide) ?_
        refine lv_istore (lv' := [(6, .int (((sc (Int32.toNatClampNeg (fr + i))) &&& 255) ||| 32)), (5, .int ((sc (Int32.toNatClampNeg (fr + i))) &&& 255)), (4, .int i), (0, .ref (h 1)), (1, .int fr), (2, .int to), (3, .ref (k (100 + si)))]) hx hb d_S_same_64 hl (by decide) rfl (fun ls hl => ?_)
        refine lv_iload hx hb d_S_same_66 (lv_at hl 0 rfl) ?_
        refine lv_aload_n hx hb d_S_same_68 rfl (lv_at hl 6 rfl) ?_
        refine lv_iload hx hb d_S_same_69 (lv_at hl 2 rfl) ?_
        refine vp_callSi (W.runV (As := [.int i]) (rest := [.int (((sc (Int32.toNatClampNeg (fr + i))) &&& 255) ||| 32)]) ⟨hx, hb, hml, hown, ht⟩ (c_JS_charAt l k si i (by omega) (by omega) (by omega)) (cwV 1 ht (g_V k_294 k_295 k_296 k_81 k_297) rfl rfl rfl (by decide +kernel) ⟨(Nat.le_of_ble_eq_true rfl), (Nat.le_of_ble_eq_true rfl)⟩) ⟨fb_J, oo_recv (ke_s hE (i := si) (by omega)).1 hS, pre_J hE hS⟩ rfl rfl hl.1 rfl (lv_room (Nat.le_of_ble_eq_true rfl)) d_S_same_71 ⟨(Nat.le_of_ble_eq_true rfl), (Nat.le_of_ble_eq_true rfl)⟩) (fun r_15 hw => ?_)
        have p_16 := hw
        refine lv_icmp_eq (tgt := 79) hx hb d_S_same_74 (by decide) (fun c_17 => ?_) (fun c_17 => ?_)
        · refine lv_iinc (v := (i + 1)) (lv' := [(4, .int (i + 1)), (6, .int (((sc (Int32.toNatClampNeg (fr + i))) &&& 255) ||| 32)), (5, .int ((sc (Int32.toNatClampNeg (fr + i))) &&& 255)), (0, .ref (h 1)), (1, .int fr), (2, .int to), (3, .ref (k (100 + si)))]) hx hb d_S_same_79 hl (k := 2) rfl rfl (by decide) rfl (fun ls hl => ?_)
          have e_18 : Int32.toInt (i + 1) = (Int32.toInt i) + 1 := i_add rfl (show Int32.toInt 1 = 1 by decide) (by omega) (by omega)
          refine lv_goto (tgt := 25) hx hb d_S_same_82 (by decide) ?_
          exact ih (i + 1) (by omega) (by omega) (by omega) (by omega) (by omega) (by omega) _ _ ls hP hD hS (lv_sub hl [0, 3, 4, 5, 6] rfl)
        · refine lv_iconst (v := 0) hx hb d_S_same_77 (by decide) ?_
          have hc_0 : Int32.toInt 0 = 0 := by decide
          exact fin 0 () _ _ _ ls d_S_same_78 rfl rfl hP hD hS
set_option maxHeartbeats 4000000 in
set_option maxRecDepth 100000 in
theorem bd_S_same_s_0 {p : Program} {l : Launch} {e : Env} {s : State} {m : MethodId} {args : Array Value} {below : List Frame} {meth : Method} {c : Code} {Q : State → Prop} {A : Nat → Prop} {dC : Nat → ClassId} {dI : Nat → Nat → Nat} {k h : Nat → Nat} {g : Nat → ClassId} {len : Int32} {fp : Int32} {many : Int32} {tlen : Int32} {tat : Int32} {qlen : Int32} {md : Int32} {gat : Int32} {kind : Int32} {gs : Int32} {th : Int32} {st : Int32} {rq : Int32} {bl : Int32} {te : Int32} {og : Int32} {wi : Nat} {ti : Nat} {sc : Nat → Int32} {kd : Nat → Int32} {sr : Nat → Int32} {sa : Nat → Int32} {qb : Nat → Int32} {du : Nat → Int32} {wo : Nat → Option Nat} (hx : p.tables.exec = Jvm.exec) (hb : c.code = b_S_same) (hml : c.maxLocals = 7) (hown : s.vm.findClass "SieveDesk" = some m.cls) (ht : ∀ w ∈ TT, w.before args s = true) (hE : KE k A s s.heap) (hA : ∀ q : Nat, s.heap.size ≤ q → A q) (hK : va_K (dC, dI) cls (TE g) s) {fr to : Int32} {si : Nat} (h_0 : si < 116) (h_1 : Int32.toInt fr ≤ 1000) (h_2 : -1000 ≤ Int32.toInt to) (h_3 : Int32.toInt to ≤ 1000) (fin : ∀ (r : Int32) (u : Unit) (H : Heap) (locs : List Loc) (pc : Nat) (ls : Array Slot), decode b_S_same pc = .ok (.ireturn, 1) → narrow .boolean (.int r) = .int r → (narrow .boolean (.int r) = .int r) → va_P (dC, dI) cls (WE h g len fp many tlen tat qlen md gat kind (.ref (k wi)) (.ref (k ti)) gs th st rq bl te og sc kd sr wo sa qb du) H → va_D A (WE h g len fp many tlen tat qlen md gat kind (.ref (k wi)) (.ref (k ti)) gs th st rq bl te og sc kd sr wo sa qb du) → va_S A s.heap H locs → W p l e ({ frames := 4, cells := 0, slots := 0, locals := 85 } : Room) s m args below meth c H locs 0 0 Q (F0 m pc ls [.int r])) : ∀ (H : Heap) (locs : List Loc) (ls : Array Slot), va_P (dC, dI) cls (WE h g len fp many tlen tat qlen md gat kind (.ref (k wi)) (.ref (k ti)) gs th st rq bl te og sc kd sr wo sa qb du) H → va_D A (WE h g len fp many tlen tat qlen md gat kind (.ref (k wi)) (.ref (k ti)) gs th st rq bl te og sc kd sr wo sa qb du) → va_S A s.heap H locs → lv_has ls 7 [(0, .ref (h 1)), (1, .int fr), (2, .int to), (3, .ref (k (100 + si)))] → W p l e ({ frames := 4, cells := 0, slots := 0, locals := 85 } : Room) s m args below meth c H locs 0 0 Q (F0 m 0 ls []) := by
  intro H locs ls hP hD hS hl
  refine lv_iload_n hx hb d_S_same_0 rfl (lv_at hl 1 rfl) ?_
  refine lv_if_lt (tgt := 20) hx hb d_S_same_1 (by decide) (fun c_19 => ?_) (fun c_19 => ?_)
  · have dc_19 := i_lt c_19 rfl (show Int32.toInt 0 = 0 by decide)
    refine lv_iconst (v := 0) hx hb d_S_same_20 (by decide) ?_
    have hc_0 : Int32.toInt 0 = 0 := by decide
    exact fin 0 () _ _ _ ls d_S_same_21 rfl rfl hP hD hS
  · have dc_19 := i_nlt c_19 rfl (show Int32.toInt 0 = 0 by decide)
    refine lv_iload_n hx hb d_S_same_4 rfl (lv_at hl 2 rfl) ?_
    refine lv_aload_n hx hb d_S_same_5 rfl (lv_at hl 0 rfl) ?_
    refine va_alen (v := 400) hx hb hK hP 1 0 rfl rfl rfl d_S_same_6 ?_
    refine lv_icmp_gt (tgt := 20) hx hb d_S_same_7 (by decide) (fun c_20 => ?_) (fun c_20 => ?_)
    · have dc_20 := i_lt c_20 (show Int32.toInt 400 = 400 by decide) rfl
      refine lv_iconst (v := 0) hx hb d_S_same_20 (by decide) ?_
      have hc_0 : Int32.toInt 0 = 0 := by decide
      exact fin 0 () _ _ _ ls d_S_same_21 rfl rfl hP hD hS
    · have dc_20 := i_nlt c_20 (show Int32.toInt 400 = 400 by decide) rfl
      refine lv_iload_n hx hb d_S_same_10 rfl (lv_at hl 2 rfl) ?_
      refine lv_iload_n hx hb d_S_same_11 rfl (lv_at hl 1 rfl) ?_
      refine lv_isub hx hb d_S_same_12 ?_
      have e_21 : Int32.toInt (to - fr) = (Int32.toInt to) - (Int32.toInt fr) := i_sub rfl rfl (by omega) (by omega)
      refine lv_aload_n hx hb d_S_same_13 rfl (lv_at hl 3 rfl) ?_
      refine vp_callSi (W.runV (As := []) (rest := [.int (to - fr)]) ⟨hx, hb, hml, hown, ht⟩ (c_JS_length l k si (by omega)) (cwV 0 ht (g_V k_284 k_285 k_286 k_81 k_287) rfl rfl rfl (by decide +kernel) ⟨(Nat.le_of_ble_eq_true rfl), (Nat.le_of_ble_eq_true rfl)⟩) ⟨fb_J, oo_recv (ke_s hE (i := si) (by omega)).1 hS, pre_J hE hS⟩ rfl rfl hl.1 rfl (lv_room (Nat.le_of_ble_eq_true rfl)) d_S_same_14 ⟨(Nat.le_of_ble_eq_true rfl), (Nat.le_of_ble_eq_true rfl)⟩) (fun r_22 hw => ?_)
      obtain ⟨p_23, p_24, p_25⟩ := hw
      refine lv_icmp_eq (tgt := 22) hx hb d_S_same_17 (by decide) (fun c_26 => ?_) (fun c_26 => ?_)
      · have dc_26 := i_eq c_26 e_21 rfl
        refine lv_iconst (v := 0) hx hb d_S_same_22 (by decide) ?_
        refine lv_istore (lv' := [(4, .int 0), (0, .ref (h 1)), (1, .int fr), (2, .int to), (3, .ref (k (100 + si)))]) hx hb d_S_same_23 hl (by decide) rfl (fun ls hl => ?_)
        have hc_0 : Int32.toInt 0 = 0 := by decide
        exact (lp_S_same_s_25 (fr := fr) (to := to) (si := si) hx hb hml hown ht hE hA hK h_0 h_1 h_2 h_3 fin _) 0 (by omega) (by omega) (by omega) (by omega) (by omega) (Nat.lt_succ_self _) _ _ ls hP hD hS (lv_sub hl [0, 1, 2, 3, 4] rfl)
      · have dc_26 := i_ne c_26 e_21 rfl
        refine lv_iconst (v := 0) hx hb d_S_same_20 (by decide) ?_
        have hc_0 : Int32.toInt 0 = 0 := by decide
        exact fin 0 () _ _ _ ls d_S_same_21 rfl rfl hP hD hS
set_option maxHeartbeats 4000000 in
set_option maxRecDepth 100000 in
theorem c_S_same_s (l : Launch) (dC : Nat → ClassId) (dI : Nat → Nat → Nat) (k : Nat → Nat) (h : Nat → Nat) (g : Nat → ClassId) (len : Int32) (fp : Int32) (many : Int32) (tlen : Int32) (tat : Int32) (qlen : Int32) (md : Int32) (gat : Int32) (kind : Int32) (gs : Int32) (th : Int32) (st : Int32) (rq : Int32) (bl : Int32) (te : Int32) (og : Int32) (wi : Nat) (ti : Nat) (sc : Nat → Int32) (kd : Nat → Int32) (sr : Nat → Int32) (sa : Nat → Int32) (qb : Nat → Int32) (du : Nat → Int32) (wo : Nat → Option Nat) (fr to : Int32) (si : Nat) (sz : Nat) (h_0 : si < 116) (h_1 : Int32.toInt fr ≤ 1000) (h_2 : -1000 ≤ Int32.toInt to) (h_3 : Int32.toInt to ≤ 1000)  : Met l y_S_same (.code y_S_same b_S_same 7 (some .boolean) :: TT) ({ frames := 4, cells := 0, slots := 0, locals := 85 }) (va_Pc [.ref (h 1), .int fr, .int to, .ref (k (100 + si))] (PX dC dI k (TE g) (WE h g len fp many tlen tat qlen md gat kind (.ref (k wi)) (.ref (k ti)) gs th st rq bl te og sc kd sr wo sa qb du) sz)) (va_Qi (fun (r : Int32) (u : Unit) => narrow .boolean (.int r) = .int r) (fun u t => BX dC dI (TE g) (va_A (WE h g len fp many tlen tat qlen md gat kind (.ref (k wi)) (.ref (k ti)) gs th st rq bl te og sc kd sr wo sa qb du) sz) (WE h g len fp many tlen tat qlen md gat kind (.ref (k wi)) (.ref (k ti)) gs th st rq bl te og sc kd sr wo sa qb du) t) (va_A (WE h g len fp many tlen tat qlen md gat kind (.ref (k wi)) (.ref (k ti)) gs th st rq bl te og sc kd sr wo sa qb du) sz)) 0 0 (va_A (WE h g len fp many tlen tat qlen md gat kind (.ref (k wi)) (.ref (k ti)) gs th st rq bl te og sc kd sr wo sa qb du) sz) := by
  refine Met.ofW (cc := b_S_same) (maxL := 7) (ret := (some .boolean)) (by decide) rfl ?_
  intro p e s m args below meth c s₁ B hml hv
  obtain ⟨rfl, hsz, hE, hP, hK, hD0⟩ := hv
  have hx := B.exec
  have hb := B.bytes
  have hr := B.returns
  have ht : ∀ w ∈ TT, w.before _ s = true := fun w hw => atoms_spec (ws := .code y_S_same b_S_same 7 (some .boolean) :: TT) B.pre w (List.mem_cons_of_mem _ hw)
  have hown : s.vm.findClass "SieveDesk" = some m.cls := findClass_of_methodNamed B.named
  have hlocks := B.notSynchronized
  subst hsz
  have hD := hD0.self (sz := s.heap.size)
  generalize hAe : va_A (WE h g len fp many tlen tat qlen md gat kind (.ref (k wi)) (.ref (k ti)) gs th st rq bl te og sc kd sr wo sa qb du) s.heap.size = A at hE hD ⊢
  have hA : ∀ q : Nat, s.heap.size ≤ q → A q := fun q h9 => by rw [← hAe]; exact Or.inr h9
  have hS : va_S A s.heap s.heap [] := va_S.rf
  have hl := lv_entry ([.ref (h 1), .int fr, .int to, .ref (k (100 + si))]) (n := 7) (Nat.le_of_ble_eq_true rfl)
  rw [lg_entry_eq]
  generalize (lg_sl ([.ref (h 1), .int fr, .int to, .ref (k (100 + si))]) ++ List.replicate (7 - (lg_sl ([.ref (h 1), .int fr, .int to, .ref (k (100 + si))])).length) Slot.unset).toArray = ls at hl ⊢
  have hl : lv_has ls 7 [(0, .ref (h 1)), (1, .int fr), (2, .int to), (3, .ref (k (100 + si)))] := hl
  exact bd_S_same_s_0 (fr := fr) (to := to) (si := si) hx hb hml hown ht hE hA hK h_0 h_1 h_2 h_3 (fun r u H locs pc ls hd hn hp hP hD hS => W.zret hx hb hr hn (fun t het hW => ⟨⟨r, u, rfl, hp, by rw [het]; exact hP, va_K.moved hW.alike hK, hD⟩, hS.F het⟩) hS.2.2 hd)   _ _ ls hP hD hS hl
set_option maxHeartbeats 4000000 in
set_option maxRecDepth 100000 in
theorem lp_S_same_q_25 {p : Program} {l : Launch} {e : Env} {s : State} {m : MethodId} {args : Array Value} {below : List Frame} {meth : Method} {c : Code} {Q : State → Prop} {A : Nat → Prop} {dC : Nat → ClassId} {dI : Nat → Nat → Nat} {k h : Nat → Nat} {g : Nat → ClassId} {len : Int32} {fp : Int32} {many : Int32} {tlen : Int32} {tat : Int32} {qlen : Int32} {md : Int32} {gat : Int32} {kind : Int32} {gs : Int32} {th : Int32} {st : Int32} {rq : Int32} {bl : Int32} {te : Int32} {og : Int32} {wi : Nat} {ti : Nat} {sc : Nat → Int32} {kd : Nat → Int32} {sr : Nat → Int32} {sa : Nat → Int32} {qb : Nat → Int32} {du : Nat → Int32} {wo : Nat → Option Nat} (hx : p.tables.exec = Jvm.exec) (hb : c.code = b_S_same) (hml : c.maxLocals = 7) (hown : s.vm.findClass "SieveDesk" = some m.cls) (ht : ∀ w ∈ TT, w.before args s = true) (hE : KE k A s s.heap) (hA : ∀ q : Nat, s.heap.size ≤ q → A q) (hK : va_K (dC, dI) cls (TE g) s) {fr to : Int32} {si : Nat} (h_0 : si < 116) (h_1 : Int32.toInt fr ≤ 1000) (h_2 : -1000 ≤ Int32.toInt to) (h_3 : Int32.toInt to ≤ 1000) (fin : ∀ (r : Int32) (u : Unit) (H : Heap) (locs : List Loc) (pc : Nat) (ls : Array Slot), decode b_S_same pc = .ok (.ireturn, 1) → narrow .boolean (.int r) = .int r → (narrow .boolean (.int r) = .int r) → va_P (dC, dI) cls (WE h g len fp many tlen tat qlen md gat kind (.ref (k wi)) (.ref (k ti)) gs th st rq bl te og sc kd sr wo sa qb du) H → va_D A (WE h g len fp many tlen tat qlen md gat kind (.ref (k wi)) (.ref (k ti)) gs th st rq bl te og sc kd sr wo sa qb du) → va_S A s.heap H locs → W p l e ({ frames := 4, cells := 0, slots := 0, locals := 85 } : Room) s m args below meth c H locs 0 0 Q (F0 m pc ls [.int r])) : ∀ (nn : Nat), ∀ (i : Int32), 0 ≤ Int32.toInt i → Int32.toInt i ≤ 100 → 0 ≤ Int32.toInt fr → Int32.toInt to ≤ 200 → Int32.toInt to - Int32.toInt fr = ((k (500 + si) : Nat) : Int) → (101 - Int32.toInt i).toNat < nn → ∀ (H : Heap) (locs : List Loc) (ls : Array Slot), va_P (dC, dI) cls (WE h g len fp many tlen tat qlen md gat kind (.ref (k wi)) (.ref (k ti)) gs th st rq bl te og sc kd sr wo sa qb du) H → va_D A (WE h g len fp many tlen tat qlen md gat kind (.ref (k wi)) (.ref (k ti)) gs th st rq bl te og sc kd sr wo sa qb du) → va_S A s.heap H locs → lv_has ls 7 [(4, .int i), (0, .ref (h 8)), (1, .int fr), (2, .int to), (3, .ref (k (100 + si)))] → W p l e ({ frames := 4, cells := 0, slots := 0, locals := 85 } : Room) s m args below meth c H locs 0 0 Q (F0 m 25 ls []) := by
  intro nn
  induction nn with
  | zero =>
    intro _ _ _ _ _ _ hm
    exact absurd hm (Nat.not_lt_zero _)
  | succ nn ih =>
    intro i v_0 v_1 v_2 v_3 v_4 hm H locs ls hP hD hS hl
    refine lv_iload hx hb d_S_same_25 (lv_at hl 0 rfl) ?_
    refine lv_aload_n hx hb d_S_same_27 rfl (lv_at hl 4 rfl) ?_
    refine vp_callSi (W.runV (As := []) (rest := [.int i]) ⟨hx, hb, hml, hown, ht⟩ (c_JS_length l k si (by omega)) (cwV 0 ht (g_V k_284 k_285 k_286 k_81 k_287) rfl rfl rfl (by decide +kernel) ⟨(Nat.le_of_ble_eq_true rfl), (Nat.le_of_ble_eq_true rfl)⟩) ⟨fb_J, oo_recv (ke_s hE (i := si) (by omega)).1 hS, pre_J hE hS⟩ rfl rfl hl.1 rfl (lv_room (Nat.le_of_ble_eq_true rfl)) d_S_same_28 ⟨(Nat.le_of_ble_eq_true rfl), (Nat.le_of_ble_eq_true rfl)⟩) (fun r_1 hw => ?_)
    obtain ⟨p_2, p_3, p_4⟩ := hw
    refine lv_icmp_ge (tgt := 85) hx hb d_S_same_31 (by decide) (fun c_5 => ?_) (fun c_5 => ?_)
    · have dc_5 := i_le c_5 rfl rfl
      refine lv_iconst (v := 1) hx hb d_S_same_85 (by decide) ?_
      have hc_1 : Int32.toInt 1 = 1 := by decide
      exact fin 1 () _ _ _ ls d_S_same_86 rfl rfl hP hD hS
    · have dc_5 := i_nle c_5 rfl rfl
      refine lv_aload_n hx hb d_S_same_34 rfl (lv_at hl 1 rfl) ?_
      refine lv_iload_n hx hb d_S_same_35 rfl (lv_at hl 2 rfl) ?_
      refine lv_iload hx hb d_S_same_36 (lv_at hl 0 rfl) ?_
      refine lv_iadd hx hb d_S_same_38 ?_
      have e_6 : Int32.toInt (fr + i) = (Int32.toInt fr) + (Int32.toInt i) := i_add rfl rfl (by omega) (by omega)
      refine va_bald hx hb hK hP 8 5 rfl rfl (i_in e_6 (by omega) (by omega)) d_S_same_39 ?_
      refine lv_sipush (v := 255) hx hb d_S_same_40 (by decide) ?_
      refine lv_iand hx hb d_S_same_43 ?_
      refine lv_istore (lv' := [(5, .int ((qb (Int32.toNatClampNeg (fr + i))) &&& 255)), (4, .int i), (0, .ref (h 8)), (1, .int fr), (2, .int to), (3, .ref (k (100 + si)))]) hx hb d_S_same_44 hl (by decide) rfl (fun ls hl => ?_)
      refine lv_iload hx hb d_S_same_46 (lv_at hl 0 rfl) ?_
      refine vp_callSi (W.runS (As := [.int ((qb (Int32.toNatClampNeg (fr + i))) &&& 255)]) (rest := []) ⟨hx, hb, hml, hown, ht⟩ (c_S_isLetter l k ((qb (Int32.toNatClampNeg (fr + i))) &&& 255) ) (va_cwS 1 ht (g_S k_263 k_264 k_74 k_265) rfl rfl rfl (by decide +kernel) ⟨(Nat.le_of_ble_eq_true rfl), (Nat.le_of_ble_eq_true rfl)⟩) ⟨fb_J, pre_J hE hS⟩ rfl rfl hl.1 rfl (lv_room (Nat.le_of_ble_eq_true rfl)) d_S_same_48 ⟨(Nat.le_of_ble_eq_true rfl), (Nat.le_of_ble_eq_true rfl)⟩) (fun r_7 hw => ?_)
      obtain ⟨p_8, p_9⟩ := hw
      refine lv_if_eq (tgt := 62) hx hb d_S_same_51 (by decide) (fun c_10 => ?_) (fun c_10 => ?_)
      · have dc_10 := i_eq c_10 rfl (show Int32.toInt 0 = 0 by decide)
        refine lv_iload hx hb d_S_same_62 (lv_at hl 0 rfl) ?_
        refine lv_istore (lv' := [(6, .int ((qb (Int32.toNatClampNeg (fr + i))) &&& 255)), (5, .int ((qb (Int32.toNatClampNeg (fr + i))) &&& 255)), (4, .int i), (0, .ref (h 8)), (1, .int fr), (2, .int to), (3, .ref (k (100 + si)))]) hx hb d_S_same_64 hl (by decide) rfl (fun ls hl => ?_)
        refine lv_iload hx hb d_S_same_66 (lv_at hl 0 rfl) ?_
        refine lv_aload_n hx hb d_S_same_68 rfl (lv_at hl 6 rfl) ?_
        refine lv_iload hx hb d_S_same_69 (lv_at hl 2 rfl) ?_
        refine vp_callSi (W.runV (As := [.int i]) (rest := [.int ((qb (Int32.toNatClampNeg (fr + i))) &&& 255)]) ⟨hx, hb, hml, hown, ht⟩ (c_JS_charAt l k si i (by omega) (by omega) (by omega)) (cwV 1 ht (g_V k_294 k_295 k_296 k_81 k_297) rfl rfl rfl (by decide +kernel) ⟨(Nat.le_of_ble_eq_true rfl), (Nat.le_of_ble_eq_true rfl)⟩) ⟨fb_J, oo_recv (ke_s hE (i := si) (by omega)).1 hS, pre_J hE hS⟩ rfl rfl hl.1 rfl (lv_room (Nat.le_of_ble_eq_true rfl)) d_S_same_71 ⟨(Nat.le_of_ble_eq_true rfl), (Nat.le_of_ble_eq_true rfl)⟩) (fun r_11 hw => ?_)
        have p_12 := hw
        refine lv_icmp_eq (tgt := 79) hx hb d_S_same_74 (by decide) (fun c_13 => ?_) (fun c_13 => ?_)
        · refine lv_iinc (v := (i + 1)) (lv' := [(4, .int (i + 1)), (6, .int ((qb (Int32.toNatClampNeg (fr + i))) &&& 255)), (5, .int ((qb (Int32.toNatClampNeg (fr + i))) &&& 255)), (0, .ref (h 8)), (1, .int fr), (2, .int to), (3, .ref (k (100 + si)))]) hx hb d_S_same_79 hl (k := 2) rfl rfl (by decide) rfl (fun ls hl => ?_)
          have e_14 : Int32.toInt (i + 1) = (Int32.toInt i) + 1 := i_add rfl (show Int32.toInt 1 = 1 by decide) (by omega) (by omega)
          refine lv_goto (tgt := 25) hx hb d_S_same_82 (by decide) ?_
          exact ih (i + 1) (by omega) (by omega) (by omega) (by omega) (by omega) (by omega) _ _ ls hP hD hS (lv_sub hl [0, 3, 4, 5, 6] rfl)
        · refine lv_iconst (v := 0) hx hb d_S_same_77 (by decide) ?_
          have hc_0 : Int32.toInt 0 = 0 := by decide
          exact fin 0 () _ _ _ ls d_S_same_78 rfl rfl hP hD hS
      · have dc_10 := i_ne c_10 rfl (show Int32.toInt 0 = 0 by decide)
        refine lv_iload hx hb d_S_same_54 (lv_at hl 0 rfl) ?_
        refine lv_bipush (v := 32) hx hb d_S_same_56 (by decide) ?_
        refine lv_ior hx hb d_S_same_58 ?_
        refine lv_goto (tgt := 64) hx hb d_S_same_59 (by decide) ?_
        refine lv_istore (lv' := [(6, .int (((qb (Int32.toNatClampNeg (fr + i))) &&& 255) ||| 32)), (5, .int ((qb (Int32.toNatClampNeg (fr + i))) &&& 255)), (4, .int i), (0, .ref (h 8)), (1, .int fr), (2, .int to), (3, .ref (k (100 + si)))]) hx hb d_S_same_64 hl (by decide) rfl (fun ls hl => ?_)
        refine lv_iload hx hb d_S_same_66 (lv_at hl 0 rfl) ?_
        refine lv_aload_n hx hb d_S_same_68 rfl (lv_at hl 6 rfl) ?_
        refine lv_iload hx hb d_S_same_69 (lv_at hl 2 rfl) ?_
        refine vp_callSi (W.runV (As := [.int i]) (rest := [.int (((qb (Int32.toNatClampNeg (fr + i))) &&& 255) ||| 32)]) ⟨hx, hb, hml, hown, ht⟩ (c_JS_charAt l k si i (by omega) (by omega) (by omega)) (cwV 1 ht (g_V k_294 k_295 k_296 k_81 k_297) rfl rfl rfl (by decide +kernel) ⟨(Nat.le_of_ble_eq_true rfl), (Nat.le_of_ble_eq_true rfl)⟩) ⟨fb_J, oo_recv (ke_s hE (i := si) (by omega)).1 hS, pre_J hE hS⟩ rfl rfl hl.1 rfl (lv_room (Nat.le_of_ble_eq_true rfl)) d_S_same_71 ⟨(Nat.le_of_ble_eq_true rfl), (Nat.le_of_ble_eq_true rfl)⟩) (fun r_15 hw => ?_)
        have p_16 := hw
        refine lv_icmp_eq (tgt := 79) hx hb d_S_same_74 (by decide) (fun c_17 => ?_) (fun c_17 => ?_)
        · refine lv_iinc (v := (i + 1)) (lv' := [(4, .int (i + 1)), (6, .int (((qb (Int32.toNatClampNeg (fr + i))) &&& 255) ||| 32)), (5, .int ((qb (Int32.toNatClampNeg (fr + i))) &&& 255)), (0, .ref (h 8)), (1, .int fr), (2, .int to), (3, .ref (k (100 + si)))]) hx hb d_S_same_79 hl (k := 2) rfl rfl (by decide) rfl (fun ls hl => ?_)
          have e_18 : Int32.toInt (i + 1) = (Int32.toInt i) + 1 := i_add rfl (show Int32.toInt 1 = 1 by decide) (by omega) (by omega)
          refine lv_goto (tgt := 25) hx hb d_S_same_82 (by decide) ?_
          exact ih (i + 1) (by omega) (by omega) (by omega) (by omega) (by omega) (by omega) _ _ ls hP hD hS (lv_sub hl [0, 3, 4, 5, 6] rfl)
        · refine lv_iconst (v := 0) hx hb d_S_same_77 (by decide) ?_
          have hc_0 : Int32.toInt 0 = 0 := by decide
          exact fin 0 () _ _ _ ls d_S_same_78 rfl rfl hP hD hS
set_option maxHeartbeats 4000000 in
set_option maxRecDepth 100000 in
theorem bd_S_same_q_0 {p : Program} {l : Launch} {e : Env} {s : State} {m : MethodId} {args : Array Value} {below : List Frame} {meth : Method} {c : Code} {Q : State → Prop} {A : Nat → Prop} {dC : Nat → ClassId} {dI : Nat → Nat → Nat} {k h : Nat → Nat} {g : Nat → ClassId} {len : Int32} {fp : Int32} {many : Int32} {tlen : Int32} {tat : Int32} {qlen : Int32} {md : Int32} {gat : Int32} {kind : Int32} {gs : Int32} {th : Int32} {st : Int32} {rq : Int32} {bl : Int32} {te : Int32} {og : Int32} {wi : Nat} {ti : Nat} {sc : Nat → Int32} {kd : Nat → Int32} {sr : Nat → Int32} {sa : Nat → Int32} {qb : Nat → Int32} {du : Nat → Int32} {wo : Nat → Option Nat} (hx : p.tables.exec = Jvm.exec) (hb : c.code = b_S_same) (hml : c.maxLocals = 7) (hown : s.vm.findClass "SieveDesk" = some m.cls) (ht : ∀ w ∈ TT, w.before args s = true) (hE : KE k A s s.heap) (hA : ∀ q : Nat, s.heap.size ≤ q → A q) (hK : va_K (dC, dI) cls (TE g) s) {fr to : Int32} {si : Nat} (h_0 : si < 116) (h_1 : Int32.toInt fr ≤ 1000) (h_2 : -1000 ≤ Int32.toInt to) (h_3 : Int32.toInt to ≤ 1000) (fin : ∀ (r : Int32) (u : Unit) (H : Heap) (locs : List Loc) (pc : Nat) (ls : Array Slot), decode b_S_same pc = .ok (.ireturn, 1) → narrow .boolean (.int r) = .int r → (narrow .boolean (.int r) = .int r) → va_P (dC, dI) cls (WE h g len fp many tlen tat qlen md gat kind (.ref (k wi)) (.ref (k ti)) gs th st rq bl te og sc kd sr wo sa qb du) H → va_D A (WE h g len fp many tlen tat qlen md gat kind (.ref (k wi)) (.ref (k ti)) gs th st rq bl te og sc kd sr wo sa qb du) → va_S A s.heap H locs → W p l e ({ frames := 4, cells := 0, slots := 0, locals := 85 } : Room) s m args below meth c H locs 0 0 Q (F0 m pc ls [.int r])) : ∀ (H : Heap) (locs : List Loc) (ls : Array Slot), va_P (dC, dI) cls (WE h g len fp many tlen tat qlen md gat kind (.ref (k wi)) (.ref (k ti)) gs th st rq bl te og sc kd sr wo sa qb du) H → va_D A (WE h g len fp many tlen tat qlen md gat kind (.ref (k wi)) (.ref (k ti)) gs th st rq bl te og sc kd sr wo sa qb du) → va_S A s.heap H locs → lv_has ls 7 [(0, .ref (h 8)), (1, .int fr), (2, .int to), (3, .ref (k (100 + si)))] → W p l e ({ frames := 4, cells := 0, slots := 0, locals := 85 } : Room) s m args below meth c H locs 0 0 Q (F0 m 0 ls []) := by
  intro H locs ls hP hD hS hl
  refine lv_iload_n hx hb d_S_same_0 rfl (lv_at hl 1 rfl) ?_
  refine lv_if_lt (tgt := 20) hx hb d_S_same_1 (by decide) (fun c_19 => ?_) (fun c_19 => ?_)
  · have dc_19 := i_lt c_19 rfl (show Int32.toInt 0 = 0 by decide)
    refine lv_iconst (v := 0) hx hb d_S_same_20 (by decide) ?_
    have hc_0 : Int32.toInt 0 = 0 := by decide
    exact fin 0 () _ _ _ ls d_S_same_21 rfl rfl hP hD hS
  · have dc_19 := i_nlt c_19 rfl (show Int32.toInt 0 = 0 by decide)
    refine lv_iload_n hx hb d_S_same_4 rfl (lv_at hl 2 rfl) ?_
    refine lv_aload_n hx hb d_S_same_5 rfl (lv_at hl 0 rfl) ?_
    refine va_alen (v := 200) hx hb hK hP 8 5 rfl rfl rfl d_S_same_6 ?_
    refine lv_icmp_gt (tgt := 20) hx hb d_S_same_7 (by decide) (fun c_20 => ?_) (fun c_20 => ?_)
    · have dc_20 := i_lt c_20 (show Int32.toInt 200 = 200 by decide) rfl
      refine lv_iconst (v := 0) hx hb d_S_same_20 (by decide) ?_
      have hc_0 : Int32.toInt 0 = 0 := by decide
      exact fin 0 () _ _ _ ls d_S_same_21 rfl rfl hP hD hS
    · have dc_20 := i_nlt c_20 (show Int32.toInt 200 = 200 by decide) rfl
      refine lv_iload_n hx hb d_S_same_10 rfl (lv_at hl 2 rfl) ?_
      refine lv_iload_n hx hb d_S_same_11 rfl (lv_at hl 1 rfl) ?_
      refine lv_isub hx hb d_S_same_12 ?_
      have e_21 : Int32.toInt (to - fr) = (Int32.toInt to) - (Int32.toInt fr) := i_sub rfl rfl (by omega) (by omega)
      refine lv_aload_n hx hb d_S_same_13 rfl (lv_at hl 3 rfl) ?_
      refine vp_callSi (W.runV (As := []) (rest := [.int (to - fr)]) ⟨hx, hb, hml, hown, ht⟩ (c_JS_length l k si (by omega)) (cwV 0 ht (g_V k_284 k_285 k_286 k_81 k_287) rfl rfl rfl (by decide +kernel) ⟨(Nat.le_of_ble_eq_true rfl), (Nat.le_of_ble_eq_true rfl)⟩) ⟨fb_J, oo_recv (ke_s hE (i := si) (by omega)).1 hS, pre_J hE hS⟩ rfl rfl hl.1 rfl (lv_room (Nat.le_of_ble_eq_true rfl)) d_S_same_14 ⟨(Nat.le_of_ble_eq_true rfl), (Nat.le_of_ble_eq_true rfl)⟩) (fun r_22 hw => ?_)
      obtain ⟨p_23, p_24, p_25⟩ := hw
      refine lv_icmp_eq (tgt := 22) hx hb d_S_same_17 (by decide) (fun c_26 => ?_) (fun c_26 => ?_)
      · have dc_26 := i_eq c_26 e_21 rfl
        refine lv_iconst (v := 0) hx hb d_S_same_22 (by decide) ?_
        refine lv_istore (lv' := [(4, .int 0), (0, .ref (h 8)), (1, .int fr), (2, .int to), (3, .ref (k (100 + si)))]) hx hb d_S_same_23 hl (by decide) rfl (fun ls hl => ?_)
        have hc_0 : Int32.toInt 0 = 0 := by decide
        exact (lp_S_same_q_25 (fr := fr) (to := to) (si := si) hx hb hml hown ht hE hA hK h_0 h_1 h_2 h_3 fin _) 0 (by omega) (by omega) (by omega) (by omega) (by omega) (Nat.lt_succ_self _) _ _ ls hP hD hS (lv_sub hl [0, 1, 2, 3, 4] rfl)
      · have dc_26 := i_ne c_26 e_21 rfl
        refine lv_iconst (v := 0) hx hb d_S_same_20 (by decide) ?_
        have hc_0 : Int32.toInt 0 = 0 := by decide
        exact fin 0 () _ _ _ ls d_S_same_21 rfl rfl hP hD hS
set_option maxHeartbeats 4000000 in
set_option maxRecDepth 100000 in
theorem c_S_same_q (l : Launch) (dC : Nat → ClassId) (dI : Nat → Nat → Nat) (k : Nat → Nat) (h : Nat → Nat) (g : Nat → ClassId) (len : Int32) (fp : Int32) (many : Int32) (tlen : Int32) (tat : Int32) (qlen : Int32) (md : Int32) (gat : Int32) (kind : Int32) (gs : Int32) (th : Int32) (st : Int32) (rq : Int32) (bl : Int32) (te : Int32) (og : Int32) (wi : Nat) (ti : Nat) (sc : Nat → Int32) (kd : Nat → Int32) (sr : Nat → Int32) (sa : Nat → Int32) (qb : Nat → Int32) (du : Nat → Int32) (wo : Nat → Option Nat) (fr to : Int32) (si : Nat) (sz : Nat) (h_0 : si < 116) (h_1 : Int32.toInt fr ≤ 1000) (h_2 : -1000 ≤ Int32.toInt to) (h_3 : Int32.toInt to ≤ 1000)  : Met l y_S_same (.code y_S_same b_S_same 7 (some .boolean) :: TT) ({ frames := 4, cells := 0, slots := 0, locals := 85 }) (va_Pc [.ref (h 8), .int fr, .int to, .ref (k (100 + si))] (PX dC dI k (TE g) (WE h g len fp many tlen tat qlen md gat kind (.ref (k wi)) (.ref (k ti)) gs th st rq bl te og sc kd sr wo sa qb du) sz)) (va_Qi (fun (r : Int32) (u : Unit) => narrow .boolean (.int r) = .int r) (fun u t => BX dC dI (TE g) (va_A (WE h g len fp many tlen tat qlen md gat kind (.ref (k wi)) (.ref (k ti)) gs th st rq bl te og sc kd sr wo sa qb du) sz) (WE h g len fp many tlen tat qlen md gat kind (.ref (k wi)) (.ref (k ti)) gs th st rq bl te og sc kd sr wo sa qb du) t) (va_A (WE h g len fp many tlen tat qlen md gat kind (.ref (k wi)) (.ref (k ti)) gs th st rq bl te og sc kd sr wo sa qb du) sz)) 0 0 (va_A (WE h g len fp many tlen tat qlen md gat kind (.ref (k wi)) (.ref (k ti)) gs th st rq bl te og sc kd sr wo sa qb du) sz) := by
  refine Met.ofW (cc := b_S_same) (maxL := 7) (ret := (some .boolean)) (by decide) rfl ?_
  intro p e s m args below meth c s₁ B hml hv
  obtain ⟨rfl, hsz, hE, hP, hK, hD0⟩ := hv
  have hx := B.exec
  have hb := B.bytes
  have hr := B.returns
  have ht : ∀ w ∈ TT, w.before _ s = true := fun w hw => atoms_spec (ws := .code y_S_same b_S_same 7 (some .boolean) :: TT) B.pre w (List.mem_cons_of_mem _ hw)
  have hown : s.vm.findClass "SieveDesk" = some m.cls := findClass_of_methodNamed B.named
  have hlocks := B.notSynchronized
  subst hsz
  have hD := hD0.self (sz := s.heap.size)
  generalize hAe : va_A (WE h g len fp many tlen tat qlen md gat kind (.ref (k wi)) (.ref (k ti)) gs th st rq bl te og sc kd sr wo sa qb du) s.heap.size = A at hE hD ⊢
  have hA : ∀ q : Nat, s.heap.size ≤ q → A q := fun q h9 => by rw [← hAe]; exact Or.inr h9
  have hS : va_S A s.heap s.heap [] := va_S.rf
  have hl := lv_entry ([.ref (h 8), .int fr, .int to, .ref (k (100 + si))]) (n := 7) (Nat.le_of_ble_eq_true rfl)
  rw [lg_entry_eq]
  generalize (lg_sl ([.ref (h 8), .int fr, .int to, .ref (k (100 + si))]) ++ List.replicate (7 - (lg_sl ([.ref (h 8), .int fr, .int to, .ref (k (100 + si))])).length) Slot.unset).toArray = ls at hl ⊢
  have hl : lv_has ls 7 [(0, .ref (h 8)), (1, .int fr), (2, .int to), (3, .ref (k (100 + si)))] := hl
  exact bd_S_same_q_0 (fr := fr) (to := to) (si := si) hx hb hml hown ht hE hA hK h_0 h_1 h_2 h_3 (fun r u H locs pc ls hd hn hp hP hD hS => W.zret hx hb hr hn (fun t het hW => ⟨⟨r, u, rfl, hp, by rw [het]; exact hP, va_K.moved hW.alike hK, hD⟩, hS.F het⟩) hS.2.2 hd)   _ _ ls hP hD hS hl

set_option maxHeartbeats 4000000 in
set_option maxRecDepth 100000 in
theorem bd_M_isLetter_0 {p : Program} {l : Launch} {e : Env} {s : State} {m : MethodId} {args : Array Value} {below : List Frame} {meth : Method} {c : Code} {Q : State → Prop} {k : Nat → Nat} (hx : p.tables.exec = Jvm.exec) (hb : c.code = b_M_isLetter) (hml : c.maxLocals = 1) (hown : s.vm.findClass "SieveDeskModel" = some m.cls) (ht : ∀ w ∈ TT, w.before args s = true) (hE : KE k (fun _ => False) s s.heap) {c1 : Int32}  (fin : ∀ (r : Int32) (pc : Nat) (ls : Array Slot), decode b_M_isLetter pc = .ok (.ireturn, 1) → narrow .boolean (.int r) = .int r → (((Int32.toInt r = 1 ∧ ((97 ≤ Int32.toInt c1 ∧ Int32.toInt c1 ≤ 122) ∨ (65 ≤ Int32.toInt c1 ∧ Int32.toInt c1 ≤ 90))) ∨ (Int32.toInt r = 0 ∧ ((Int32.toInt c1 < 97 ∨ 122 < Int32.toInt c1) ∧ (Int32.toInt c1 < 65 ∨ 90 < Int32.toInt c1)))) ∧ narrow .boolean (.int r) = .int r) → W p l e ({ frames := 0, cells := 0, slots := 0, locals := 0 } : Room) s m args below meth c s.heap [] 0 0 Q (F0 m pc ls [.int r])) : ∀ (ls : Array Slot), lv_has ls 1 [(0, .int c1)] → W p l e ({ frames := 0, cells := 0, slots := 0, locals := 0 } : Room) s m args below meth c s.heap [] 0 0 Q (F0 m 0 ls []) := by
  intro ls hl
  have hS : va_S (fun _ => False) s.heap s.heap [] := va_S.rf
  refine lv_iload_n hx hb d_M_isLetter_0 rfl (lv_at hl 0 rfl) ?_
  refine lv_bipush (v := 97) hx hb d_M_isLetter_1 (by decide) ?_
  refine lv_icmp_lt (tgt := 12) hx hb d_M_isLetter_3 (by decide) (fun c_1 => ?_) (fun c_1 => ?_)
  · have dc_1 := i_lt c_1 rfl (show Int32.toInt 97 = 97 by decide)
    refine lv_iload_n hx hb d_M_isLetter_12 rfl (lv_at hl 0 rfl) ?_
    refine lv_bipush (v := 65) hx hb d_M_isLetter_13 (by decide) ?_
    refine lv_icmp_lt (tgt := 28) hx hb d_M_isLetter_15 (by decide) (fun c_2 => ?_) (fun c_2 => ?_)
    · have dc_2 := i_lt c_2 rfl (show Int32.toInt 65 = 65 by decide)
      refine lv_iconst (v := 0) hx hb d_M_isLetter_28 (by decide) ?_
      have hc_0 : Int32.toInt 0 = 0 := by decide
      exact fin 0 _ ls d_M_isLetter_29 rfl ⟨(by (try dsimp only); omega), rfl⟩
    · have dc_2 := i_nlt c_2 rfl (show Int32.toInt 65 = 65 by decide)
      refine lv_iload_n hx hb d_M_isLetter_18 rfl (lv_at hl 0 rfl) ?_
      refine lv_bipush (v := 90) hx hb d_M_isLetter_19 (by decide) ?_
      refine lv_icmp_gt (tgt := 28) hx hb d_M_isLetter_21 (by decide) (fun c_3 => ?_) (fun c_3 => ?_)
      · have dc_3 := i_lt c_3 (show Int32.toInt 90 = 90 by decide) rfl
        refine lv_iconst (v := 0) hx hb d_M_isLetter_28 (by decide) ?_
        have hc_0 : Int32.toInt 0 = 0 := by decide
        exact fin 0 _ ls d_M_isLetter_29 rfl ⟨(by (try dsimp only); omega), rfl⟩
      · have dc_3 := i_nlt c_3 (show Int32.toInt 90 = 90 by decide) rfl
        refine lv_iconst (v := 1) hx hb d_M_isLetter_24 (by decide) ?_
        refine lv_goto (tgt := 29) hx hb d_M_isLetter_25 (by decide) ?_
        have hc_1 : Int32.toInt 1 = 1 := by decide
        exact fin 1 _ ls d_M_isLetter_29 rfl ⟨(by (try dsimp only); omega), rfl⟩
  · have dc_1 := i_nlt c_1 rfl (show Int32.toInt 97 = 97 by decide)
    refine lv_iload_n hx hb d_M_isLetter_6 rfl (lv_at hl 0 rfl) ?_
    refine lv_bipush (v := 122) hx hb d_M_isLetter_7 (by decide) ?_
    refine lv_icmp_le (tgt := 24) hx hb d_M_isLetter_9 (by decide) (fun c_4 => ?_) (fun c_4 => ?_)
    · have dc_4 := i_le c_4 rfl (show Int32.toInt 122 = 122 by decide)
      refine lv_iconst (v := 1) hx hb d_M_isLetter_24 (by decide) ?_
      refine lv_goto (tgt := 29) hx hb d_M_isLetter_25 (by decide) ?_
      have hc_1 : Int32.toInt 1 = 1 := by decide
      exact fin 1 _ ls d_M_isLetter_29 rfl ⟨(by (try dsimp only); omega), rfl⟩
    · have dc_4 := i_nle c_4 rfl (show Int32.toInt 122 = 122 by decide)
      refine lv_iload_n hx hb d_M_isLetter_12 rfl (lv_at hl 0 rfl) ?_
      refine lv_bipush (v := 65) hx hb d_M_isLetter_13 (by decide) ?_
      refine lv_icmp_lt (tgt := 28) hx hb d_M_isLetter_15 (by decide) (fun c_5 => ?_) (fun c_5 => ?_)
      · have dc_5 := i_lt c_5 rfl (show Int32.toInt 65 = 65 by decide)
        refine lv_iconst (v := 0) hx hb d_M_isLetter_28 (by decide) ?_
        have hc_0 : Int32.toInt 0 = 0 := by decide
        exact fin 0 _ ls d_M_isLetter_29 rfl ⟨(by (try dsimp only); omega), rfl⟩
      · have dc_5 := i_nlt c_5 rfl (show Int32.toInt 65 = 65 by decide)
        refine lv_iload_n hx hb d_M_isLetter_18 rfl (lv_at hl 0 rfl) ?_
        refine lv_bipush (v := 90) hx hb d_M_isLetter_19 (by decide) ?_
        refine lv_icmp_gt (tgt := 28) hx hb d_M_isLetter_21 (by decide) (fun c_6 => ?_) (fun c_6 => ?_)
        · have dc_6 := i_lt c_6 (show Int32.toInt 90 = 90 by decide) rfl
          refine lv_iconst (v := 0) hx hb d_M_isLetter_28 (by decide) ?_
          have hc_0 : Int32.toInt 0 = 0 := by decide
          exact fin 0 _ ls d_M_isLetter_29 rfl ⟨(by (try dsimp only); omega), rfl⟩
        · have dc_6 := i_nlt c_6 (show Int32.toInt 90 = 90 by decide) rfl
          refine lv_iconst (v := 1) hx hb d_M_isLetter_24 (by decide) ?_
          refine lv_goto (tgt := 29) hx hb d_M_isLetter_25 (by decide) ?_
          have hc_1 : Int32.toInt 1 = 1 := by decide
          exact fin 1 _ ls d_M_isLetter_29 rfl ⟨(by (try dsimp only); omega), rfl⟩
set_option maxHeartbeats 4000000 in
set_option maxRecDepth 100000 in
theorem c_M_isLetter (l : Launch) (k : Nat → Nat) (c1 : Int32)  : Met l y_M_isLetter (.code y_M_isLetter b_M_isLetter 1 (some .boolean) :: TT) ({ frames := 0, cells := 0, slots := 0, locals := 0 }) (va_Pc [.int c1] (PJ k)) (vp_Si (fun r => ((Int32.toInt r = 1 ∧ ((97 ≤ Int32.toInt c1 ∧ Int32.toInt c1 ≤ 122) ∨ (65 ≤ Int32.toInt c1 ∧ Int32.toInt c1 ≤ 90))) ∨ (Int32.toInt r = 0 ∧ ((Int32.toInt c1 < 97 ∨ 122 < Int32.toInt c1) ∧ (Int32.toInt c1 < 65 ∨ 90 < Int32.toInt c1)))) ∧ narrow .boolean (.int r) = .int r)) 0 0 (fun _ => False) := by
  refine Met.ofW (cc := b_M_isLetter) (maxL := 1) (ret := (some .boolean)) (by decide) rfl ?_
  intro p e s m args below meth c s₁ B hml hv
  obtain ⟨rfl, hE⟩ := hv
  have hx := B.exec
  have hb := B.bytes
  have hr := B.returns
  have ht : ∀ w ∈ TT, w.before _ s = true := fun w hw => atoms_spec (ws := .code y_M_isLetter b_M_isLetter 1 (some .boolean) :: TT) B.pre w (List.mem_cons_of_mem _ hw)
  have hown : s.vm.findClass "SieveDeskModel" = some m.cls := findClass_of_methodNamed B.named
  have hlocks := B.notSynchronized
  have hS : va_S (fun _ => False) s.heap s.heap [] := va_S.rf
  have hl := lv_entry ([.int c1]) (n := 1) (Nat.le_of_ble_eq_true rfl)
  rw [lg_entry_eq]
  generalize (lg_sl ([.int c1]) ++ List.replicate (1 - (lg_sl ([.int c1])).length) Slot.unset).toArray = ls at hl ⊢
  have hl : lv_has ls 1 [(0, .int c1)] := hl
  exact bd_M_isLetter_0 (c1 := c1) hx hb hml hown ht hE  (fun r pc ls hd hn hp => W.zret hx hb hr hn (fun t het hW => ⟨_, rfl, hp, het⟩) (fun q h9 => by cases h9) hd) ls hl
set_option maxHeartbeats 4000000 in
set_option maxRecDepth 100000 in
theorem bd_M_isDigit_0 {p : Program} {l : Launch} {e : Env} {s : State} {m : MethodId} {args : Array Value} {below : List Frame} {meth : Method} {c : Code} {Q : State → Prop} {k : Nat → Nat} (hx : p.tables.exec = Jvm.exec) (hb : c.code = b_M_isDigit) (hml : c.maxLocals = 1) (hown : s.vm.findClass "SieveDeskModel" = some m.cls) (ht : ∀ w ∈ TT, w.before args s = true) (hE : KE k (fun _ => False) s s.heap) {c1 : Int32}  (fin : ∀ (r : Int32) (pc : Nat) (ls : Array Slot), decode b_M_isDigit pc = .ok (.ireturn, 1) → narrow .boolean (.int r) = .int r → (((Int32.toInt r = 1 ∧ (48 ≤ Int32.toInt c1 ∧ Int32.toInt c1 ≤ 57)) ∨ (Int32.toInt r = 0 ∧ (Int32.toInt c1 < 48 ∨ 57 < Int32.toInt c1))) ∧ narrow .boolean (.int r) = .int r) → W p l e ({ frames := 0, cells := 0, slots := 0, locals := 0 } : Room) s m args below meth c s.heap [] 0 0 Q (F0 m pc ls [.int r])) : ∀ (ls : Array Slot), lv_has ls 1 [(0, .int c1)] → W p l e ({ frames := 0, cells := 0, slots := 0, locals := 0 } : Room) s m args below meth c s.heap [] 0 0 Q (F0 m 0 ls []) := by
  intro ls hl
  have hS : va_S (fun _ => False) s.heap s.heap [] := va_S.rf
  refine lv_iload_n hx hb d_M_isDigit_0 rfl (lv_at hl 0 rfl) ?_
  refine lv_bipush (v := 48) hx hb d_M_isDigit_1 (by decide) ?_
  refine lv_icmp_lt (tgt := 16) hx hb d_M_isDigit_3 (by decide) (fun c_1 => ?_) (fun c_1 => ?_)
  · have dc_1 := i_lt c_1 rfl (show Int32.toInt 48 = 48 by decide)
    refine lv_iconst (v := 0) hx hb d_M_isDigit_16 (by decide) ?_
    have hc_0 : Int32.toInt 0 = 0 := by decide
    exact fin 0 _ ls d_M_isDigit_17 rfl ⟨(by (try dsimp only); omega), rfl⟩
  · have dc_1 := i_nlt c_1 rfl (show Int32.toInt 48 = 48 by decide)
    refine lv_iload_n hx hb d_M_isDigit_6 rfl (lv_at hl 0 rfl) ?_
    refine lv_bipush (v := 57) hx hb d_M_isDigit_7 (by decide) ?_
    refine lv_icmp_gt (tgt := 16) hx hb d_M_isDigit_9 (by decide) (fun c_2 => ?_) (fun c_2 => ?_)
    · have dc_2 := i_lt c_2 (show Int32.toInt 57 = 57 by decide) rfl
      refine lv_iconst (v := 0) hx hb d_M_isDigit_16 (by decide) ?_
      have hc_0 : Int32.toInt 0 = 0 := by decide
      exact fin 0 _ ls d_M_isDigit_17 rfl ⟨(by (try dsimp only); omega), rfl⟩
    · have dc_2 := i_nlt c_2 (show Int32.toInt 57 = 57 by decide) rfl
      refine lv_iconst (v := 1) hx hb d_M_isDigit_12 (by decide) ?_
      refine lv_goto (tgt := 17) hx hb d_M_isDigit_13 (by decide) ?_
      have hc_1 : Int32.toInt 1 = 1 := by decide
      exact fin 1 _ ls d_M_isDigit_17 rfl ⟨(by (try dsimp only); omega), rfl⟩
set_option maxHeartbeats 4000000 in
set_option maxRecDepth 100000 in
theorem c_M_isDigit (l : Launch) (k : Nat → Nat) (c1 : Int32)  : Met l y_M_isDigit (.code y_M_isDigit b_M_isDigit 1 (some .boolean) :: TT) ({ frames := 0, cells := 0, slots := 0, locals := 0 }) (va_Pc [.int c1] (PJ k)) (vp_Si (fun r => ((Int32.toInt r = 1 ∧ (48 ≤ Int32.toInt c1 ∧ Int32.toInt c1 ≤ 57)) ∨ (Int32.toInt r = 0 ∧ (Int32.toInt c1 < 48 ∨ 57 < Int32.toInt c1))) ∧ narrow .boolean (.int r) = .int r)) 0 0 (fun _ => False) := by
  refine Met.ofW (cc := b_M_isDigit) (maxL := 1) (ret := (some .boolean)) (by decide) rfl ?_
  intro p e s m args below meth c s₁ B hml hv
  obtain ⟨rfl, hE⟩ := hv
  have hx := B.exec
  have hb := B.bytes
  have hr := B.returns
  have ht : ∀ w ∈ TT, w.before _ s = true := fun w hw => atoms_spec (ws := .code y_M_isDigit b_M_isDigit 1 (some .boolean) :: TT) B.pre w (List.mem_cons_of_mem _ hw)
  have hown : s.vm.findClass "SieveDeskModel" = some m.cls := findClass_of_methodNamed B.named
  have hlocks := B.notSynchronized
  have hS : va_S (fun _ => False) s.heap s.heap [] := va_S.rf
  have hl := lv_entry ([.int c1]) (n := 1) (Nat.le_of_ble_eq_true rfl)
  rw [lg_entry_eq]
  generalize (lg_sl ([.int c1]) ++ List.replicate (1 - (lg_sl ([.int c1])).length) Slot.unset).toArray = ls at hl ⊢
  have hl : lv_has ls 1 [(0, .int c1)] := hl
  exact bd_M_isDigit_0 (c1 := c1) hx hb hml hown ht hE  (fun r pc ls hd hn hp => W.zret hx hb hr hn (fun t het hW => ⟨_, rfl, hp, het⟩) (fun q h9 => by cases h9) hd) ls hl
set_option maxHeartbeats 4000000 in
set_option maxRecDepth 100000 in
theorem bd_M_isWordByte_0 {p : Program} {l : Launch} {e : Env} {s : State} {m : MethodId} {args : Array Value} {below : List Frame} {meth : Method} {c : Code} {Q : State → Prop} {k : Nat → Nat} (hx : p.tables.exec = Jvm.exec) (hb : c.code = b_M_isWordByte) (hml : c.maxLocals = 1) (hown : s.vm.findClass "SieveDeskModel" = some m.cls) (ht : ∀ w ∈ TT, w.before args s = true) (hE : KE k (fun _ => False) s s.heap) {c1 : Int32}  (fin : ∀ (r : Int32) (pc : Nat) (ls : Array Slot), decode b_M_isWordByte pc = .ok (.ireturn, 1) → narrow .boolean (.int r) = .int r → (((Int32.toInt r = 1 ∧ (((97 ≤ Int32.toInt c1 ∧ Int32.toInt c1 ≤ 122) ∨ (65 ≤ Int32.toInt c1 ∧ Int32.toInt c1 ≤ 90)) ∨ (48 ≤ Int32.toInt c1 ∧ Int32.toInt c1 ≤ 57) ∨ Int32.toInt c1 = 95)) ∨ (Int32.toInt r = 0 ∧ (((Int32.toInt c1 < 97 ∨ 122 < Int32.toInt c1) ∧ (Int32.toInt c1 < 65 ∨ 90 < Int32.toInt c1)) ∧ (Int32.toInt c1 < 48 ∨ 57 < Int32.toInt c1) ∧ Int32.toInt c1 ≠ 95))) ∧ narrow .boolean (.int r) = .int r) → W p l e ({ frames := 1, cells := 0, slots := 0, locals := 20 } : Room) s m args below meth c s.heap [] 0 0 Q (F0 m pc ls [.int r])) : ∀ (ls : Array Slot), lv_has ls 1 [(0, .int c1)] → W p l e ({ frames := 1, cells := 0, slots := 0, locals := 20 } : Room) s m args below meth c s.heap [] 0 0 Q (F0 m 0 ls []) := by
  intro ls hl
  have hS : va_S (fun _ => False) s.heap s.heap [] := va_S.rf
  refine lv_iload_n hx hb d_M_isWordByte_0 rfl (lv_at hl 0 rfl) ?_
  refine vp_callSi (W.runS (As := [.int c1]) (rest := []) ⟨hx, hb, hml, hown, ht⟩ (c_M_isLetter l k c1 ) (va_cwS 1 ht (g_S k_714 k_715 k_80 k_716) rfl rfl rfl (by decide +kernel) ⟨(Nat.le_of_ble_eq_true rfl), (Nat.le_of_ble_eq_true rfl)⟩) ⟨fb_J, pre_J hE hS⟩ rfl rfl hl.1 rfl (lv_room (Nat.le_of_ble_eq_true rfl)) d_M_isWordByte_1 ⟨(Nat.le_of_ble_eq_true rfl), (Nat.le_of_ble_eq_true rfl)⟩) (fun r_1 hw => ?_)
  obtain ⟨p_2, p_3⟩ := hw
  refine lv_if_ne (tgt := 20) hx hb d_M_isWordByte_4 (by decide) (fun c_4 => ?_) (fun c_4 => ?_)
  · have dc_4 := i_ne c_4 rfl (show Int32.toInt 0 = 0 by decide)
    refine lv_iconst (v := 1) hx hb d_M_isWordByte_20 (by decide) ?_
    refine lv_goto (tgt := 25) hx hb d_M_isWordByte_21 (by decide) ?_
    have hc_1 : Int32.toInt 1 = 1 := by decide
    exact fin 1 _ ls d_M_isWordByte_25 rfl ⟨(by (try dsimp only); omega), rfl⟩
  · have dc_4 := i_eq c_4 rfl (show Int32.toInt 0 = 0 by decide)
    refine lv_iload_n hx hb d_M_isWordByte_7 rfl (lv_at hl 0 rfl) ?_
    refine vp_callSi (W.runS (As := [.int c1]) (rest := []) ⟨hx, hb, hml, hown, ht⟩ (c_M_isDigit l k c1 ) (va_cwS 1 ht (g_S k_724 k_725 k_80 k_726) rfl rfl rfl (by decide +kernel) ⟨(Nat.le_of_ble_eq_true rfl), (Nat.le_of_ble_eq_true rfl)⟩) ⟨fb_J, pre_J hE hS⟩ rfl rfl hl.1 rfl (lv_room (Nat.le_of_ble_eq_true rfl)) d_M_isWordByte_8 ⟨(Nat.le_of_ble_eq_true rfl), (Nat.le_of_ble_eq_true rfl)⟩) (fun r_5 hw => ?_)
    obtain ⟨p_6, p_7⟩ := hw
    refine lv_if_ne (tgt := 20) hx hb d_M_isWordByte_11 (by decide) (fun c_8 => ?_) (fun c_8 => ?_)
    · have dc_8 := i_ne c_8 rfl (show Int32.toInt 0 = 0 by decide)
      refine lv_iconst (v := 1) hx hb d_M_isWordByte_20 (by decide) ?_
      refine lv_goto (tgt := 25) hx hb d_M_isWordByte_21 (by decide) ?_
      have hc_1 : Int32.toInt 1 = 1 := by decide
      exact fin 1 _ ls d_M_isWordByte_25 rfl ⟨(by (try dsimp only); omega), rfl⟩
    · have dc_8 := i_eq c_8 rfl (show Int32.toInt 0 = 0 by decide)
      refine lv_iload_n hx hb d_M_isWordByte_14 rfl (lv_at hl 0 rfl) ?_
      refine lv_bipush (v := 95) hx hb d_M_isWordByte_15 (by decide) ?_
      refine lv_icmp_ne (tgt := 24) hx hb d_M_isWordByte_17 (by decide) (fun c_9 => ?_) (fun c_9 => ?_)
      · have dc_9 := i_ne c_9 rfl (show Int32.toInt 95 = 95 by decide)
        refine lv_iconst (v := 0) hx hb d_M_isWordByte_24 (by decide) ?_
        have hc_0 : Int32.toInt 0 = 0 := by decide
        exact fin 0 _ ls d_M_isWordByte_25 rfl ⟨(by (try dsimp only); omega), rfl⟩
      · have dc_9 := i_eq c_9 rfl (show Int32.toInt 95 = 95 by decide)
        refine lv_iconst (v := 1) hx hb d_M_isWordByte_20 (by decide) ?_
        refine lv_goto (tgt := 25) hx hb d_M_isWordByte_21 (by decide) ?_
        have hc_1 : Int32.toInt 1 = 1 := by decide
        exact fin 1 _ ls d_M_isWordByte_25 rfl ⟨(by (try dsimp only); omega), rfl⟩
set_option maxHeartbeats 4000000 in
set_option maxRecDepth 100000 in
theorem c_M_isWordByte (l : Launch) (k : Nat → Nat) (c1 : Int32)  : Met l y_M_isWordByte (.code y_M_isWordByte b_M_isWordByte 1 (some .boolean) :: TT) ({ frames := 1, cells := 0, slots := 0, locals := 20 }) (va_Pc [.int c1] (PJ k)) (vp_Si (fun r => ((Int32.toInt r = 1 ∧ (((97 ≤ Int32.toInt c1 ∧ Int32.toInt c1 ≤ 122) ∨ (65 ≤ Int32.toInt c1 ∧ Int32.toInt c1 ≤ 90)) ∨ (48 ≤ Int32.toInt c1 ∧ Int32.toInt c1 ≤ 57) ∨ Int32.toInt c1 = 95)) ∨ (Int32.toInt r = 0 ∧ (((Int32.toInt c1 < 97 ∨ 122 < Int32.toInt c1) ∧ (Int32.toInt c1 < 65 ∨ 90 < Int32.toInt c1)) ∧ (Int32.toInt c1 < 48 ∨ 57 < Int32.toInt c1) ∧ Int32.toInt c1 ≠ 95))) ∧ narrow .boolean (.int r) = .int r)) 0 0 (fun _ => False) := by
  refine Met.ofW (cc := b_M_isWordByte) (maxL := 1) (ret := (some .boolean)) (by decide) rfl ?_
  intro p e s m args below meth c s₁ B hml hv
  obtain ⟨rfl, hE⟩ := hv
  have hx := B.exec
  have hb := B.bytes
  have hr := B.returns
  have ht : ∀ w ∈ TT, w.before _ s = true := fun w hw => atoms_spec (ws := .code y_M_isWordByte b_M_isWordByte 1 (some .boolean) :: TT) B.pre w (List.mem_cons_of_mem _ hw)
  have hown : s.vm.findClass "SieveDeskModel" = some m.cls := findClass_of_methodNamed B.named
  have hlocks := B.notSynchronized
  have hS : va_S (fun _ => False) s.heap s.heap [] := va_S.rf
  have hl := lv_entry ([.int c1]) (n := 1) (Nat.le_of_ble_eq_true rfl)
  rw [lg_entry_eq]
  generalize (lg_sl ([.int c1]) ++ List.replicate (1 - (lg_sl ([.int c1])).length) Slot.unset).toArray = ls at hl ⊢
  have hl : lv_has ls 1 [(0, .int c1)] := hl
  exact bd_M_isWordByte_0 (c1 := c1) hx hb hml hown ht hE  (fun r pc ls hd hn hp => W.zret hx hb hr hn (fun t het hW => ⟨_, rfl, hp, het⟩) (fun q h9 => by cases h9) hd) ls hl
set_option maxHeartbeats 4000000 in
set_option maxRecDepth 100000 in
theorem bd_M_low_0 {p : Program} {l : Launch} {e : Env} {s : State} {m : MethodId} {args : Array Value} {below : List Frame} {meth : Method} {c : Code} {Q : State → Prop} {k : Nat → Nat} (hx : p.tables.exec = Jvm.exec) (hb : c.code = b_M_low) (hml : c.maxLocals = 1) (hown : s.vm.findClass "SieveDeskModel" = some m.cls) (ht : ∀ w ∈ TT, w.before args s = true) (hE : KE k (fun _ => False) s s.heap) {c1 : Int32}  (fin : ∀ (r : Int32) (pc : Nat) (ls : Array Slot), decode b_M_low pc = .ok (.ireturn, 1) → ((Int32.toInt r = Int32.toInt c1 ∨ (65 ≤ Int32.toInt c1 ∧ Int32.toInt r = Int32.toInt c1 + 32))) → W p l e ({ frames := 0, cells := 0, slots := 0, locals := 0 } : Room) s m args below meth c s.heap [] 0 0 Q (F0 m pc ls [.int r])) : ∀ (ls : Array Slot), lv_has ls 1 [(0, .int c1)] → W p l e ({ frames := 0, cells := 0, slots := 0, locals := 0 } : Room) s m args below meth c s.heap [] 0 0 Q (F0 m 0 ls []) := by
  intro ls hl
  have hS : va_S (fun _ => False) s.heap s.heap [] := va_S.rf
  refine lv_iload_n hx hb d_M_low_0 rfl (lv_at hl 0 rfl) ?_
  refine lv_bipush (v := 65) hx hb d_M_low_1 (by decide) ?_
  refine lv_icmp_lt (tgt := 19) hx hb d_M_low_3 (by decide) (fun c_1 => ?_) (fun c_1 => ?_)
  · have dc_1 := i_lt c_1 rfl (show Int32.toInt 65 = 65 by decide)
    refine lv_iload_n hx hb d_M_low_19 rfl (lv_at hl 0 rfl) ?_
    exact fin c1 _ ls d_M_low_20 (by (try dsimp only); omega)
  · have dc_1 := i_nlt c_1 rfl (show Int32.toInt 65 = 65 by decide)
    refine lv_iload_n hx hb d_M_low_6 rfl (lv_at hl 0 rfl) ?_
    refine lv_bipush (v := 90) hx hb d_M_low_7 (by decide) ?_
    refine lv_icmp_gt (tgt := 19) hx hb d_M_low_9 (by decide) (fun c_2 => ?_) (fun c_2 => ?_)
    · have dc_2 := i_lt c_2 (show Int32.toInt 90 = 90 by decide) rfl
      refine lv_iload_n hx hb d_M_low_19 rfl (lv_at hl 0 rfl) ?_
      exact fin c1 _ ls d_M_low_20 (by (try dsimp only); omega)
    · have dc_2 := i_nlt c_2 (show Int32.toInt 90 = 90 by decide) rfl
      refine lv_iload_n hx hb d_M_low_12 rfl (lv_at hl 0 rfl) ?_
      refine lv_bipush (v := 32) hx hb d_M_low_13 (by decide) ?_
      refine lv_iadd hx hb d_M_low_15 ?_
      have e_3 : Int32.toInt (c1 + 32) = (Int32.toInt c1) + 32 := i_add rfl (show Int32.toInt 32 = 32 by decide) (by omega) (by omega)
      refine lv_goto (tgt := 20) hx hb d_M_low_16 (by decide) ?_
      exact fin (c1 + 32) _ ls d_M_low_20 (by (try dsimp only); omega)
set_option maxHeartbeats 4000000 in
set_option maxRecDepth 100000 in
theorem c_M_low (l : Launch) (k : Nat → Nat) (c1 : Int32)  : Met l y_M_low (.code y_M_low b_M_low 1 (some .int) :: TT) ({ frames := 0, cells := 0, slots := 0, locals := 0 }) (va_Pc [.int c1] (PJ k)) (vp_Si (fun r => (Int32.toInt r = Int32.toInt c1 ∨ (65 ≤ Int32.toInt c1 ∧ Int32.toInt r = Int32.toInt c1 + 32)))) 0 0 (fun _ => False) := by
  refine Met.ofW (cc := b_M_low) (maxL := 1) (ret := (some .int)) (by decide) rfl ?_
  intro p e s m args below meth c s₁ B hml hv
  obtain ⟨rfl, hE⟩ := hv
  have hx := B.exec
  have hb := B.bytes
  have hr := B.returns
  have ht : ∀ w ∈ TT, w.before _ s = true := fun w hw => atoms_spec (ws := .code y_M_low b_M_low 1 (some .int) :: TT) B.pre w (List.mem_cons_of_mem _ hw)
  have hown : s.vm.findClass "SieveDeskModel" = some m.cls := findClass_of_methodNamed B.named
  have hlocks := B.notSynchronized
  have hS : va_S (fun _ => False) s.heap s.heap [] := va_S.rf
  have hl := lv_entry ([.int c1]) (n := 1) (Nat.le_of_ble_eq_true rfl)
  rw [lg_entry_eq]
  generalize (lg_sl ([.int c1]) ++ List.replicate (1 - (lg_sl ([.int c1])).length) Slot.unset).toArray = ls at hl ⊢
  have hl : lv_has ls 1 [(0, .int c1)] := hl
  exact bd_M_low_0 (c1 := c1) hx hb hml hown ht hE  (fun r pc ls hd hp => W.iret hx hb hr (fun t het hW => ⟨_, rfl, hp, het⟩) (fun q h9 => by cases h9) hd) ls hl
set_option maxHeartbeats 4000000 in
set_option maxRecDepth 100000 in
theorem lp_M_isLocal_84 {p : Program} {l : Launch} {e : Env} {s : State} {m : MethodId} {args : Array Value} {below : List Frame} {meth : Method} {c : Code} {Q : State → Prop} {k : Nat → Nat} (hx : p.tables.exec = Jvm.exec) (hb : c.code = b_M_isLocal) (hml : c.maxLocals = 2) (hown : s.vm.findClass "SieveDeskModel" = some m.cls) (ht : ∀ w ∈ TT, w.before args s = true) (hE : KE k (fun _ => False) s s.heap) {c1 : Int32}  (fin : ∀ (r : Int32) (pc : Nat) (ls : Array Slot), decode b_M_isLocal pc = .ok (.ireturn, 1) → narrow .boolean (.int r) = .int r → (narrow .boolean (.int r) = .int r) → W p l e ({ frames := 1, cells := 0, slots := 0, locals := 20 } : Room) s m args below meth c s.heap [] 0 0 Q (F0 m pc ls [.int r])) : ∀ (sg : Int32), ∀ (ls : Array Slot), lv_has ls 2 [(1, .int sg), (0, .int c1)] → W p l e ({ frames := 1, cells := 0, slots := 0, locals := 20 } : Room) s m args below meth c s.heap [] 0 0 Q (F0 m 84 ls []) := by
  intro sg ls hl
  have hS : va_S (fun _ => False) s.heap s.heap [] := va_S.rf
  refine lv_iload_n hx hb d_M_isLocal_84 rfl (lv_at hl 1 rfl) ?_
  refine vp_callSi (W.runS (As := [.int c1]) (rest := []) ⟨hx, hb, hml, hown, ht⟩ (c_M_isLetter l k c1 ) (va_cwS 1 ht (g_S k_714 k_715 k_80 k_716) rfl rfl rfl (by decide +kernel) ⟨(Nat.le_of_ble_eq_true rfl), (Nat.le_of_ble_eq_true rfl)⟩) ⟨fb_J, pre_J hE hS⟩ rfl rfl hl.1 rfl (lv_room (Nat.le_of_ble_eq_true rfl)) d_M_isLocal_85 ⟨(Nat.le_of_ble_eq_true rfl), (Nat.le_of_ble_eq_true rfl)⟩) (fun r_1 hw => ?_)
  obtain ⟨p_2, p_3⟩ := hw
  refine lv_if_ne (tgt := 102) hx hb d_M_isLocal_88 (by decide) (fun c_4 => ?_) (fun c_4 => ?_)
  · have dc_4 := i_ne c_4 rfl (show Int32.toInt 0 = 0 by decide)
    refine lv_iconst (v := 1) hx hb d_M_isLocal_102 (by decide) ?_
    refine lv_goto (tgt := 107) hx hb d_M_isLocal_103 (by decide) ?_
    have hc_1 : Int32.toInt 1 = 1 := by decide
    exact fin 1 _ ls d_M_isLocal_107 rfl rfl
  · have dc_4 := i_eq c_4 rfl (show Int32.toInt 0 = 0 by decide)
    refine lv_iload_n hx hb d_M_isLocal_91 rfl (lv_at hl 1 rfl) ?_
    refine vp_callSi (W.runS (As := [.int c1]) (rest := []) ⟨hx, hb, hml, hown, ht⟩ (c_M_isDigit l k c1 ) (va_cwS 1 ht (g_S k_724 k_725 k_80 k_726) rfl rfl rfl (by decide +kernel) ⟨(Nat.le_of_ble_eq_true rfl), (Nat.le_of_ble_eq_true rfl)⟩) ⟨fb_J, pre_J hE hS⟩ rfl rfl hl.1 rfl (lv_room (Nat.le_of_ble_eq_true rfl)) d_M_isLocal_92 ⟨(Nat.le_of_ble_eq_true rfl), (Nat.le_of_ble_eq_true rfl)⟩) (fun r_5 hw => ?_)
    obtain ⟨p_6, p_7⟩ := hw
    refine lv_if_ne (tgt := 102) hx hb d_M_isLocal_95 (by decide) (fun c_8 => ?_) (fun c_8 => ?_)
    · have dc_8 := i_ne c_8 rfl (show Int32.toInt 0 = 0 by decide)
      refine lv_iconst (v := 1) hx hb d_M_isLocal_102 (by decide) ?_
      refine lv_goto (tgt := 107) hx hb d_M_isLocal_103 (by decide) ?_
      have hc_1 : Int32.toInt 1 = 1 := by decide
      exact fin 1 _ ls d_M_isLocal_107 rfl rfl
    · have dc_8 := i_eq c_8 rfl (show Int32.toInt 0 = 0 by decide)
      refine lv_iload_n hx hb d_M_isLocal_98 rfl (lv_at hl 0 rfl) ?_
      refine lv_if_eq (tgt := 106) hx hb d_M_isLocal_99 (by decide) (fun c_9 => ?_) (fun c_9 => ?_)
      · refine lv_iconst (v := 0) hx hb d_M_isLocal_106 (by decide) ?_
        have hc_0 : Int32.toInt 0 = 0 := by decide
        exact fin 0 _ ls d_M_isLocal_107 rfl rfl
      · refine lv_iconst (v := 1) hx hb d_M_isLocal_102 (by decide) ?_
        refine lv_goto (tgt := 107) hx hb d_M_isLocal_103 (by decide) ?_
        have hc_1 : Int32.toInt 1 = 1 := by decide
        exact fin 1 _ ls d_M_isLocal_107 rfl rfl
set_option maxHeartbeats 4000000 in
set_option maxRecDepth 100000 in
theorem bd_M_isLocal_0 {p : Program} {l : Launch} {e : Env} {s : State} {m : MethodId} {args : Array Value} {below : List Frame} {meth : Method} {c : Code} {Q : State → Prop} {k : Nat → Nat} (hx : p.tables.exec = Jvm.exec) (hb : c.code = b_M_isLocal) (hml : c.maxLocals = 2) (hown : s.vm.findClass "SieveDeskModel" = some m.cls) (ht : ∀ w ∈ TT, w.before args s = true) (hE : KE k (fun _ => False) s s.heap) {c1 : Int32}  (fin : ∀ (r : Int32) (pc : Nat) (ls : Array Slot), decode b_M_isLocal pc = .ok (.ireturn, 1) → narrow .boolean (.int r) = .int r → (narrow .boolean (.int r) = .int r) → W p l e ({ frames := 1, cells := 0, slots := 0, locals := 20 } : Room) s m args below meth c s.heap [] 0 0 Q (F0 m pc ls [.int r])) : ∀ (ls : Array Slot), lv_has ls 2 [(0, .int c1)] → W p l e ({ frames := 1, cells := 0, slots := 0, locals := 20 } : Room) s m args below meth c s.heap [] 0 0 Q (F0 m 0 ls []) := by
  intro ls hl
  have hS : va_S (fun _ => False) s.heap s.heap [] := va_S.rf
  refine lv_iload_n hx hb d_M_isLocal_0 rfl (lv_at hl 0 rfl) ?_
  refine lv_bipush (v := 33) hx hb d_M_isLocal_1 (by decide) ?_
  refine lv_icmp_eq (tgt := 78) hx hb d_M_isLocal_3 (by decide) (fun c_10 => ?_) (fun c_10 => ?_)
  · refine lv_iconst (v := 1) hx hb d_M_isLocal_78 (by decide) ?_
    refine lv_goto (tgt := 83) hx hb d_M_isLocal_79 (by decide) ?_
    refine lv_istore_n (lv' := [(1, .int 1), (0, .int c1)]) hx hb d_M_isLocal_83 rfl hl (by decide) rfl (fun ls hl => ?_)
    have hc_1 : Int32.toInt 1 = 1 := by decide
    exact lp_M_isLocal_84 (c1 := c1) hx hb hml hown ht hE  fin 1  ls (lv_sub hl [0, 1] rfl)
  · refine lv_iload_n hx hb d_M_isLocal_6 rfl (lv_at hl 0 rfl) ?_
    refine lv_bipush (v := 35) hx hb d_M_isLocal_7 (by decide) ?_
    refine lv_icmp_lt (tgt := 18) hx hb d_M_isLocal_9 (by decide) (fun c_11 => ?_) (fun c_11 => ?_)
    · refine lv_iload_n hx hb d_M_isLocal_18 rfl (lv_at hl 0 rfl) ?_
      refine lv_bipush (v := 42) hx hb d_M_isLocal_19 (by decide) ?_
      refine lv_icmp_eq (tgt := 78) hx hb d_M_isLocal_21 (by decide) (fun c_12 => ?_) (fun c_12 => ?_)
      · refine lv_iconst (v := 1) hx hb d_M_isLocal_78 (by decide) ?_
        refine lv_goto (tgt := 83) hx hb d_M_isLocal_79 (by decide) ?_
        refine lv_istore_n (lv' := [(1, .int 1), (0, .int c1)]) hx hb d_M_isLocal_83 rfl hl (by decide) rfl (fun ls hl => ?_)
        have hc_1 : Int32.toInt 1 = 1 := by decide
        exact lp_M_isLocal_84 (c1 := c1) hx hb hml hown ht hE  fin 1  ls (lv_sub hl [0, 1] rfl)
      · refine lv_iload_n hx hb d_M_isLocal_24 rfl (lv_at hl 0 rfl) ?_
        refine lv_bipush (v := 43) hx hb d_M_isLocal_25 (by decide) ?_
        refine lv_icmp_eq (tgt := 78) hx hb d_M_isLocal_27 (by decide) (fun c_13 => ?_) (fun c_13 => ?_)
        · refine lv_iconst (v := 1) hx hb d_M_isLocal_78 (by decide) ?_
          refine lv_goto (tgt := 83) hx hb d_M_isLocal_79 (by decide) ?_
          refine lv_istore_n (lv' := [(1, .int 1), (0, .int c1)]) hx hb d_M_isLocal_83 rfl hl (by decide) rfl (fun ls hl => ?_)
          have hc_1 : Int32.toInt 1 = 1 := by decide
          exact lp_M_isLocal_84 (c1 := c1) hx hb hml hown ht hE  fin 1  ls (lv_sub hl [0, 1] rfl)
        · refine lv_iload_n hx hb d_M_isLocal_30 rfl (lv_at hl 0 rfl) ?_
          refine lv_bipush (v := 45) hx hb d_M_isLocal_31 (by decide) ?_
          refine lv_icmp_eq (tgt := 78) hx hb d_M_isLocal_33 (by decide) (fun c_14 => ?_) (fun c_14 => ?_)
          · refine lv_iconst (v := 1) hx hb d_M_isLocal_78 (by decide) ?_
            refine lv_goto (tgt := 83) hx hb d_M_isLocal_79 (by decide) ?_
            refine lv_istore_n (lv' := [(1, .int 1), (0, .int c1)]) hx hb d_M_isLocal_83 rfl hl (by decide) rfl (fun ls hl => ?_)
            have hc_1 : Int32.toInt 1 = 1 := by decide
            exact lp_M_isLocal_84 (c1 := c1) hx hb hml hown ht hE  fin 1  ls (lv_sub hl [0, 1] rfl)
          · refine lv_iload_n hx hb d_M_isLocal_36 rfl (lv_at hl 0 rfl) ?_
            refine lv_bipush (v := 47) hx hb d_M_isLocal_37 (by decide) ?_
            refine lv_icmp_eq (tgt := 78) hx hb d_M_isLocal_39 (by decide) (fun c_15 => ?_) (fun c_15 => ?_)
            · refine lv_iconst (v := 1) hx hb d_M_isLocal_78 (by decide) ?_
              refine lv_goto (tgt := 83) hx hb d_M_isLocal_79 (by decide) ?_
              refine lv_istore_n (lv' := [(1, .int 1), (0, .int c1)]) hx hb d_M_isLocal_83 rfl hl (by decide) rfl (fun ls hl => ?_)
              have hc_1 : Int32.toInt 1 = 1 := by decide
              exact lp_M_isLocal_84 (c1 := c1) hx hb hml hown ht hE  fin 1  ls (lv_sub hl [0, 1] rfl)
            · refine lv_iload_n hx hb d_M_isLocal_42 rfl (lv_at hl 0 rfl) ?_
              refine lv_bipush (v := 61) hx hb d_M_isLocal_43 (by decide) ?_
              refine lv_icmp_eq (tgt := 78) hx hb d_M_isLocal_45 (by decide) (fun c_16 => ?_) (fun c_16 => ?_)
              · refine lv_iconst (v := 1) hx hb d_M_isLocal_78 (by decide) ?_
                refine lv_goto (tgt := 83) hx hb d_M_isLocal_79 (by decide) ?_
                refine lv_istore_n (lv' := [(1, .int 1), (0, .int c1)]) hx hb d_M_isLocal_83 rfl hl (by decide) rfl (fun ls hl => ?_)
                have hc_1 : Int32.toInt 1 = 1 := by decide
                exact lp_M_isLocal_84 (c1 := c1) hx hb hml hown ht hE  fin 1  ls (lv_sub hl [0, 1] rfl)
              · refine lv_iload_n hx hb d_M_isLocal_48 rfl (lv_at hl 0 rfl) ?_
                refine lv_bipush (v := 63) hx hb d_M_isLocal_49 (by decide) ?_
                refine lv_icmp_eq (tgt := 78) hx hb d_M_isLocal_51 (by decide) (fun c_17 => ?_) (fun c_17 => ?_)
                · refine lv_iconst (v := 1) hx hb d_M_isLocal_78 (by decide) ?_
                  refine lv_goto (tgt := 83) hx hb d_M_isLocal_79 (by decide) ?_
                  refine lv_istore_n (lv' := [(1, .int 1), (0, .int c1)]) hx hb d_M_isLocal_83 rfl hl (by decide) rfl (fun ls hl => ?_)
                  have hc_1 : Int32.toInt 1 = 1 := by decide
                  exact lp_M_isLocal_84 (c1 := c1) hx hb hml hown ht hE  fin 1  ls (lv_sub hl [0, 1] rfl)
                · refine lv_iload_n hx hb d_M_isLocal_54 rfl (lv_at hl 0 rfl) ?_
                  refine lv_bipush (v := 94) hx hb d_M_isLocal_55 (by decide) ?_
                  refine lv_icmp_lt (tgt := 66) hx hb d_M_isLocal_57 (by decide) (fun c_18 => ?_) (fun c_18 => ?_)
                  · refine lv_iload_n hx hb d_M_isLocal_66 rfl (lv_at hl 0 rfl) ?_
                    refine lv_bipush (v := 123) hx hb d_M_isLocal_67 (by decide) ?_
                    refine lv_icmp_lt (tgt := 82) hx hb d_M_isLocal_69 (by decide) (fun c_19 => ?_) (fun c_19 => ?_)
                    · refine lv_iconst (v := 0) hx hb d_M_isLocal_82 (by decide) ?_
                      refine lv_istore_n (lv' := [(1, .int 0), (0, .int c1)]) hx hb d_M_isLocal_83 rfl hl (by decide) rfl (fun ls hl => ?_)
                      have hc_0 : Int32.toInt 0 = 0 := by decide
                      exact lp_M_isLocal_84 (c1 := c1) hx hb hml hown ht hE  fin 0  ls (lv_sub hl [0, 1] rfl)
                    · refine lv_iload_n hx hb d_M_isLocal_72 rfl (lv_at hl 0 rfl) ?_
                      refine lv_bipush (v := 126) hx hb d_M_isLocal_73 (by decide) ?_
                      refine lv_icmp_gt (tgt := 82) hx hb d_M_isLocal_75 (by decide) (fun c_20 => ?_) (fun c_20 => ?_)
                      · refine lv_iconst (v := 0) hx hb d_M_isLocal_82 (by decide) ?_
                        refine lv_istore_n (lv' := [(1, .int 0), (0, .int c1)]) hx hb d_M_isLocal_83 rfl hl (by decide) rfl (fun ls hl => ?_)
                        have hc_0 : Int32.toInt 0 = 0 := by decide
                        exact lp_M_isLocal_84 (c1 := c1) hx hb hml hown ht hE  fin 0  ls (lv_sub hl [0, 1] rfl)
                      · refine lv_iconst (v := 1) hx hb d_M_isLocal_78 (by decide) ?_
                        refine lv_goto (tgt := 83) hx hb d_M_isLocal_79 (by decide) ?_
                        refine lv_istore_n (lv' := [(1, .int 1), (0, .int c1)]) hx hb d_M_isLocal_83 rfl hl (by decide) rfl (fun ls hl => ?_)
                        have hc_1 : Int32.toInt 1 = 1 := by decide
                        exact lp_M_isLocal_84 (c1 := c1) hx hb hml hown ht hE  fin 1  ls (lv_sub hl [0, 1] rfl)
                  · refine lv_iload_n hx hb d_M_isLocal_60 rfl (lv_at hl 0 rfl) ?_
                    refine lv_bipush (v := 96) hx hb d_M_isLocal_61 (by decide) ?_
                    refine lv_icmp_le (tgt := 78) hx hb d_M_isLocal_63 (by decide) (fun c_21 => ?_) (fun c_21 => ?_)
                    · refine lv_iconst (v := 1) hx hb d_M_isLocal_78 (by decide) ?_
                      refine lv_goto (tgt := 83) hx hb d_M_isLocal_79 (by decide) ?_
                      refine lv_istore_n (lv' := [(1, .int 1), (0, .int c1)]) hx hb d_M_isLocal_83 rfl hl (by decide) rfl (fun ls hl => ?_)
                      have hc_1 : Int32.toInt 1 = 1 := by decide
                      exact lp_M_isLocal_84 (c1 := c1) hx hb hml hown ht hE  fin 1  ls (lv_sub hl [0, 1] rfl)
                    · refine lv_iload_n hx hb d_M_isLocal_66 rfl (lv_at hl 0 rfl) ?_
                      refine lv_bipush (v := 123) hx hb d_M_isLocal_67 (by decide) ?_
                      refine lv_icmp_lt (tgt := 82) hx hb d_M_isLocal_69 (by decide) (fun c_22 => ?_) (fun c_22 => ?_)
                      · refine lv_iconst (v := 0) hx hb d_M_isLocal_82 (by decide) ?_
                        refine lv_istore_n (lv' := [(1, .int 0), (0, .int c1)]) hx hb d_M_isLocal_83 rfl hl (by decide) rfl (fun ls hl => ?_)
                        have hc_0 : Int32.toInt 0 = 0 := by decide
                        exact lp_M_isLocal_84 (c1 := c1) hx hb hml hown ht hE  fin 0  ls (lv_sub hl [0, 1] rfl)
                      · refine lv_iload_n hx hb d_M_isLocal_72 rfl (lv_at hl 0 rfl) ?_
                        refine lv_bipush (v := 126) hx hb d_M_isLocal_73 (by decide) ?_
                        refine lv_icmp_gt (tgt := 82) hx hb d_M_isLocal_75 (by decide) (fun c_23 => ?_) (fun c_23 => ?_)
                        · refine lv_iconst (v := 0) hx hb d_M_isLocal_82 (by decide) ?_
                          refine lv_istore_n (lv' := [(1, .int 0), (0, .int c1)]) hx hb d_M_isLocal_83 rfl hl (by decide) rfl (fun ls hl => ?_)
                          have hc_0 : Int32.toInt 0 = 0 := by decide
                          exact lp_M_isLocal_84 (c1 := c1) hx hb hml hown ht hE  fin 0  ls (lv_sub hl [0, 1] rfl)
                        · refine lv_iconst (v := 1) hx hb d_M_isLocal_78 (by decide) ?_
                          refine lv_goto (tgt := 83) hx hb d_M_isLocal_79 (by decide) ?_
                          refine lv_istore_n (lv' := [(1, .int 1), (0, .int c1)]) hx hb d_M_isLocal_83 rfl hl (by decide) rfl (fun ls hl => ?_)
                          have hc_1 : Int32.toInt 1 = 1 := by decide
                          exact lp_M_isLocal_84 (c1 := c1) hx hb hml hown ht hE  fin 1  ls (lv_sub hl [0, 1] rfl)
    · refine lv_iload_n hx hb d_M_isLocal_12 rfl (lv_at hl 0 rfl) ?_
      refine lv_bipush (v := 39) hx hb d_M_isLocal_13 (by decide) ?_
      refine lv_icmp_le (tgt := 78) hx hb d_M_isLocal_15 (by decide) (fun c_24 => ?_) (fun c_24 => ?_)
      · refine lv_iconst (v := 1) hx hb d_M_isLocal_78 (by decide) ?_
        refine lv_goto (tgt := 83) hx hb d_M_isLocal_79 (by decide) ?_
        refine lv_istore_n (lv' := [(1, .int 1), (0, .int c1)]) hx hb d_M_isLocal_83 rfl hl (by decide) rfl (fun ls hl => ?_)
        have hc_1 : Int32.toInt 1 = 1 := by decide
        exact lp_M_isLocal_84 (c1 := c1) hx hb hml hown ht hE  fin 1  ls (lv_sub hl [0, 1] rfl)
      · refine lv_iload_n hx hb d_M_isLocal_18 rfl (lv_at hl 0 rfl) ?_
        refine lv_bipush (v := 42) hx hb d_M_isLocal_19 (by decide) ?_
        refine lv_icmp_eq (tgt := 78) hx hb d_M_isLocal_21 (by decide) (fun c_25 => ?_) (fun c_25 => ?_)
        · refine lv_iconst (v := 1) hx hb d_M_isLocal_78 (by decide) ?_
          refine lv_goto (tgt := 83) hx hb d_M_isLocal_79 (by decide) ?_
          refine lv_istore_n (lv' := [(1, .int 1), (0, .int c1)]) hx hb d_M_isLocal_83 rfl hl (by decide) rfl (fun ls hl => ?_)
          have hc_1 : Int32.toInt 1 = 1 := by decide
          exact lp_M_isLocal_84 (c1 := c1) hx hb hml hown ht hE  fin 1  ls (lv_sub hl [0, 1] rfl)
        · refine lv_iload_n hx hb d_M_isLocal_24 rfl (lv_at hl 0 rfl) ?_
          refine lv_bipush (v := 43) hx hb d_M_isLocal_25 (by decide) ?_
          refine lv_icmp_eq (tgt := 78) hx hb d_M_isLocal_27 (by decide) (fun c_26 => ?_) (fun c_26 => ?_)
          · refine lv_iconst (v := 1) hx hb d_M_isLocal_78 (by decide) ?_
            refine lv_goto (tgt := 83) hx hb d_M_isLocal_79 (by decide) ?_
            refine lv_istore_n (lv' := [(1, .int 1), (0, .int c1)]) hx hb d_M_isLocal_83 rfl hl (by decide) rfl (fun ls hl => ?_)
            have hc_1 : Int32.toInt 1 = 1 := by decide
            exact lp_M_isLocal_84 (c1 := c1) hx hb hml hown ht hE  fin 1  ls (lv_sub hl [0, 1] rfl)
          · refine lv_iload_n hx hb d_M_isLocal_30 rfl (lv_at hl 0 rfl) ?_
            refine lv_bipush (v := 45) hx hb d_M_isLocal_31 (by decide) ?_
            refine lv_icmp_eq (tgt := 78) hx hb d_M_isLocal_33 (by decide) (fun c_27 => ?_) (fun c_27 => ?_)
            · refine lv_iconst (v := 1) hx hb d_M_isLocal_78 (by decide) ?_
              refine lv_goto (tgt := 83) hx hb d_M_isLocal_79 (by decide) ?_
              refine lv_istore_n (lv' := [(1, .int 1), (0, .int c1)]) hx hb d_M_isLocal_83 rfl hl (by decide) rfl (fun ls hl => ?_)
              have hc_1 : Int32.toInt 1 = 1 := by decide
              exact lp_M_isLocal_84 (c1 := c1) hx hb hml hown ht hE  fin 1  ls (lv_sub hl [0, 1] rfl)
            · refine lv_iload_n hx hb d_M_isLocal_36 rfl (lv_at hl 0 rfl) ?_
              refine lv_bipush (v := 47) hx hb d_M_isLocal_37 (by decide) ?_
              refine lv_icmp_eq (tgt := 78) hx hb d_M_isLocal_39 (by decide) (fun c_28 => ?_) (fun c_28 => ?_)
              · refine lv_iconst (v := 1) hx hb d_M_isLocal_78 (by decide) ?_
                refine lv_goto (tgt := 83) hx hb d_M_isLocal_79 (by decide) ?_
                refine lv_istore_n (lv' := [(1, .int 1), (0, .int c1)]) hx hb d_M_isLocal_83 rfl hl (by decide) rfl (fun ls hl => ?_)
                have hc_1 : Int32.toInt 1 = 1 := by decide
                exact lp_M_isLocal_84 (c1 := c1) hx hb hml hown ht hE  fin 1  ls (lv_sub hl [0, 1] rfl)
              · refine lv_iload_n hx hb d_M_isLocal_42 rfl (lv_at hl 0 rfl) ?_
                refine lv_bipush (v := 61) hx hb d_M_isLocal_43 (by decide) ?_
                refine lv_icmp_eq (tgt := 78) hx hb d_M_isLocal_45 (by decide) (fun c_29 => ?_) (fun c_29 => ?_)
                · refine lv_iconst (v := 1) hx hb d_M_isLocal_78 (by decide) ?_
                  refine lv_goto (tgt := 83) hx hb d_M_isLocal_79 (by decide) ?_
                  refine lv_istore_n (lv' := [(1, .int 1), (0, .int c1)]) hx hb d_M_isLocal_83 rfl hl (by decide) rfl (fun ls hl => ?_)
                  have hc_1 : Int32.toInt 1 = 1 := by decide
                  exact lp_M_isLocal_84 (c1 := c1) hx hb hml hown ht hE  fin 1  ls (lv_sub hl [0, 1] rfl)
                · refine lv_iload_n hx hb d_M_isLocal_48 rfl (lv_at hl 0 rfl) ?_
                  refine lv_bipush (v := 63) hx hb d_M_isLocal_49 (by decide) ?_
                  refine lv_icmp_eq (tgt := 78) hx hb d_M_isLocal_51 (by decide) (fun c_30 => ?_) (fun c_30 => ?_)
                  · refine lv_iconst (v := 1) hx hb d_M_isLocal_78 (by decide) ?_
                    refine lv_goto (tgt := 83) hx hb d_M_isLocal_79 (by decide) ?_
                    refine lv_istore_n (lv' := [(1, .int 1), (0, .int c1)]) hx hb d_M_isLocal_83 rfl hl (by decide) rfl (fun ls hl => ?_)
                    have hc_1 : Int32.toInt 1 = 1 := by decide
                    exact lp_M_isLocal_84 (c1 := c1) hx hb hml hown ht hE  fin 1  ls (lv_sub hl [0, 1] rfl)
                  · refine lv_iload_n hx hb d_M_isLocal_54 rfl (lv_at hl 0 rfl) ?_
                    refine lv_bipush (v := 94) hx hb d_M_isLocal_55 (by decide) ?_
                    refine lv_icmp_lt (tgt := 66) hx hb d_M_isLocal_57 (by decide) (fun c_31 => ?_) (fun c_31 => ?_)
                    · refine lv_iload_n hx hb d_M_isLocal_66 rfl (lv_at hl 0 rfl) ?_
                      refine lv_bipush (v := 123) hx hb d_M_isLocal_67 (by decide) ?_
                      refine lv_icmp_lt (tgt := 82) hx hb d_M_isLocal_69 (by decide) (fun c_32 => ?_) (fun c_32 => ?_)
                      · refine lv_iconst (v := 0) hx hb d_M_isLocal_82 (by decide) ?_
                        refine lv_istore_n (lv' := [(1, .int 0), (0, .int c1)]) hx hb d_M_isLocal_83 rfl hl (by decide) rfl (fun ls hl => ?_)
                        have hc_0 : Int32.toInt 0 = 0 := by decide
                        exact lp_M_isLocal_84 (c1 := c1) hx hb hml hown ht hE  fin 0  ls (lv_sub hl [0, 1] rfl)
                      · refine lv_iload_n hx hb d_M_isLocal_72 rfl (lv_at hl 0 rfl) ?_
                        refine lv_bipush (v := 126) hx hb d_M_isLocal_73 (by decide) ?_
                        refine lv_icmp_gt (tgt := 82) hx hb d_M_isLocal_75 (by decide) (fun c_33 => ?_) (fun c_33 => ?_)
                        · refine lv_iconst (v := 0) hx hb d_M_isLocal_82 (by decide) ?_
                          refine lv_istore_n (lv' := [(1, .int 0), (0, .int c1)]) hx hb d_M_isLocal_83 rfl hl (by decide) rfl (fun ls hl => ?_)
                          have hc_0 : Int32.toInt 0 = 0 := by decide
                          exact lp_M_isLocal_84 (c1 := c1) hx hb hml hown ht hE  fin 0  ls (lv_sub hl [0, 1] rfl)
                        · refine lv_iconst (v := 1) hx hb d_M_isLocal_78 (by decide) ?_
                          refine lv_goto (tgt := 83) hx hb d_M_isLocal_79 (by decide) ?_
                          refine lv_istore_n (lv' := [(1, .int 1), (0, .int c1)]) hx hb d_M_isLocal_83 rfl hl (by decide) rfl (fun ls hl => ?_)
                          have hc_1 : Int32.toInt 1 = 1 := by decide
                          exact lp_M_isLocal_84 (c1 := c1) hx hb hml hown ht hE  fin 1  ls (lv_sub hl [0, 1] rfl)
                    · refine lv_iload_n hx hb d_M_isLocal_60 rfl (lv_at hl 0 rfl) ?_
                      refine lv_bipush (v := 96) hx hb d_M_isLocal_61 (by decide) ?_
                      refine lv_icmp_le (tgt := 78) hx hb d_M_isLocal_63 (by decide) (fun c_34 => ?_) (fun c_34 => ?_)
                      · refine lv_iconst (v := 1) hx hb d_M_isLocal_78 (by decide) ?_
                        refine lv_goto (tgt := 83) hx hb d_M_isLocal_79 (by decide) ?_
                        refine lv_istore_n (lv' := [(1, .int 1), (0, .int c1)]) hx hb d_M_isLocal_83 rfl hl (by decide) rfl (fun ls hl => ?_)
                        have hc_1 : Int32.toInt 1 = 1 := by decide
                        exact lp_M_isLocal_84 (c1 := c1) hx hb hml hown ht hE  fin 1  ls (lv_sub hl [0, 1] rfl)
                      · refine lv_iload_n hx hb d_M_isLocal_66 rfl (lv_at hl 0 rfl) ?_
                        refine lv_bipush (v := 123) hx hb d_M_isLocal_67 (by decide) ?_
                        refine lv_icmp_lt (tgt := 82) hx hb d_M_isLocal_69 (by decide) (fun c_35 => ?_) (fun c_35 => ?_)
                        · refine lv_iconst (v := 0) hx hb d_M_isLocal_82 (by decide) ?_
                          refine lv_istore_n (lv' := [(1, .int 0), (0, .int c1)]) hx hb d_M_isLocal_83 rfl hl (by decide) rfl (fun ls hl => ?_)
                          have hc_0 : Int32.toInt 0 = 0 := by decide
                          exact lp_M_isLocal_84 (c1 := c1) hx hb hml hown ht hE  fin 0  ls (lv_sub hl [0, 1] rfl)
                        · refine lv_iload_n hx hb d_M_isLocal_72 rfl (lv_at hl 0 rfl) ?_
                          refine lv_bipush (v := 126) hx hb d_M_isLocal_73 (by decide) ?_
                          refine lv_icmp_gt (tgt := 82) hx hb d_M_isLocal_75 (by decide) (fun c_36 => ?_) (fun c_36 => ?_)
                          · refine lv_iconst (v := 0) hx hb d_M_isLocal_82 (by decide) ?_
                            refine lv_istore_n (lv' := [(1, .int 0), (0, .int c1)]) hx hb d_M_isLocal_83 rfl hl (by decide) rfl (fun ls hl => ?_)
                            have hc_0 : Int32.toInt 0 = 0 := by decide
                            exact lp_M_isLocal_84 (c1 := c1) hx hb hml hown ht hE  fin 0  ls (lv_sub hl [0, 1] rfl)
                          · refine lv_iconst (v := 1) hx hb d_M_isLocal_78 (by decide) ?_
                            refine lv_goto (tgt := 83) hx hb d_M_isLocal_79 (by decide) ?_
                            refine lv_istore_n (lv' := [(1, .int 1), (0, .int c1)]) hx hb d_M_isLocal_83 rfl hl (by decide) rfl (fun ls hl => ?_)
                            have hc_1 : Int32.toInt 1 = 1 := by decide
                            exact lp_M_isLocal_84 (c1 := c1) hx hb hml hown ht hE  fin 1  ls (lv_sub hl [0, 1] rfl)
set_option maxHeartbeats 4000000 in
set_option maxRecDepth 100000 in
theorem c_M_isLocal (l : Launch) (k : Nat → Nat) (c1 : Int32)  : Met l y_M_isLocal (.code y_M_isLocal b_M_isLocal 2 (some .boolean) :: TT) ({ frames := 1, cells := 0, slots := 0, locals := 20 }) (va_Pc [.int c1] (PJ k)) (vp_Si (fun r => narrow .boolean (.int r) = .int r)) 0 0 (fun _ => False) := by
  refine Met.ofW (cc := b_M_isLocal) (maxL := 2) (ret := (some .boolean)) (by decide) rfl ?_
  intro p e s m args below meth c s₁ B hml hv
  obtain ⟨rfl, hE⟩ := hv
  have hx := B.exec
  have hb := B.bytes
  have hr := B.returns
  have ht : ∀ w ∈ TT, w.before _ s = true := fun w hw => atoms_spec (ws := .code y_M_isLocal b_M_isLocal 2 (some .boolean) :: TT) B.pre w (List.mem_cons_of_mem _ hw)
  have hown : s.vm.findClass "SieveDeskModel" = some m.cls := findClass_of_methodNamed B.named
  have hlocks := B.notSynchronized
  have hS : va_S (fun _ => False) s.heap s.heap [] := va_S.rf
  have hl := lv_entry ([.int c1]) (n := 2) (Nat.le_of_ble_eq_true rfl)
  rw [lg_entry_eq]
  generalize (lg_sl ([.int c1]) ++ List.replicate (2 - (lg_sl ([.int c1])).length) Slot.unset).toArray = ls at hl ⊢
  have hl : lv_has ls 2 [(0, .int c1)] := hl
  exact bd_M_isLocal_0 (c1 := c1) hx hb hml hown ht hE  (fun r pc ls hd hn hp => W.zret hx hb hr hn (fun t het hW => ⟨_, rfl, hp, het⟩) (fun q h9 => by cases h9) hd) ls hl

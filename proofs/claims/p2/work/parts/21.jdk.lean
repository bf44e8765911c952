set_option maxHeartbeats 4000000 in
set_option maxRecDepth 100000 in
theorem bd_JS_coder_0 {p : Program} {l : Launch} {e : Env} {s : State} {m : MethodId} {args : Array Value} {below : List Frame} {meth : Method} {c : Code} {Q : State → Prop} {k : Nat → Nat} (hx : p.tables.exec = Jvm.exec) (hb : c.code = b_JS_coder) (hml : c.maxLocals = 1) (hown : s.vm.findClass "java/lang/String" = some m.cls) (ht : ∀ w ∈ TT, w.before args s = true) (hE : KE k (fun _ => False) s s.heap) {si : Nat} (h_0 : si < 116) (fin : ∀ (r : Int32) (pc : Nat) (ls : Array Slot), decode b_JS_coder pc = .ok (.ireturn, 1) → narrow .byte (.int r) = .int r → (r = 0 ∧ narrow .byte (.int r) = .int r) → W p l e ({ frames := 0, cells := 0, slots := 0, locals := 0 } : Room) s m args below meth c s.heap [] 0 0 Q (F0 m pc ls [.int r])) : ∀ (ls : Array Slot), lv_has ls 1 [(0, .ref (k (100 + si)))] → W p l e ({ frames := 0, cells := 0, slots := 0, locals := 0 } : Room) s m args below meth c s.heap [] 0 0 Q (F0 m 0 ls []) := by
  intro ls hl
  have hS : va_S (fun _ => False) s.heap s.heap [] := va_S.rf
  refine va_gets hx hb (ke_cs hE) hS hown (ht _ k_292) (fun _ h9 => h9) d_JS_coder_0 ?_
  refine lv_if_eq (tgt := 13) hx hb d_JS_coder_3 (by decide) (fun cn => absurd cn (by decide)) (fun _ => ?_)
  refine lv_aload_n hx hb d_JS_coder_6 rfl (lv_at hl 0 rfl) ?_
  refine vk_getf hx hb (ke_s hE (i := si) (by omega)).2.1 hS hown (ht _ k_868) (fun _ h9 => h9) d_JS_coder_7 ?_
  refine lv_goto (tgt := 14) hx hb d_JS_coder_10 (by decide) ?_
  have hc_0 : Int32.toInt 0 = 0 := by decide
  exact fin 0 _ ls d_JS_coder_14 rfl ⟨rfl, rfl⟩
set_option maxHeartbeats 4000000 in
set_option maxRecDepth 100000 in
theorem c_JS_coder (l : Launch) (k : Nat → Nat) (si : Nat) (h_0 : si < 116) : Met l y_JS_coder (.code y_JS_coder b_JS_coder 1 (some .byte) :: TT) ({ frames := 0, cells := 0, slots := 0, locals := 0 }) (va_Pc [.ref (k (100 + si))] (PJ k)) (vp_Si (fun r => r = 0 ∧ narrow .byte (.int r) = .int r)) 0 0 (fun _ => False) := by
  refine Met.ofW (cc := b_JS_coder) (maxL := 1) (ret := (some .byte)) (by decide) rfl ?_
  intro p e s m args below meth c s₁ B hml hv
  obtain ⟨rfl, hE⟩ := hv
  have hx := B.exec
  have hb := B.bytes
  have hr := B.returns
  have ht : ∀ w ∈ TT, w.before _ s = true := fun w hw => atoms_spec (ws := .code y_JS_coder b_JS_coder 1 (some .byte) :: TT) B.pre w (List.mem_cons_of_mem _ hw)
  have hown : s.vm.findClass "java/lang/String" = some m.cls := findClass_of_methodNamed B.named
  have hlocks := B.notSynchronized
  have hS : va_S (fun _ => False) s.heap s.heap [] := va_S.rf
  have hl := lv_entry ([.ref (k (100 + si))]) (n := 1) (Nat.le_of_ble_eq_true rfl)
  rw [lg_entry_eq]
  generalize (lg_sl ([.ref (k (100 + si))]) ++ List.replicate (1 - (lg_sl ([.ref (k (100 + si))])).length) Slot.unset).toArray = ls at hl ⊢
  have hl : lv_has ls 1 [(0, .ref (k (100 + si)))] := hl
  exact bd_JS_coder_0 (si := si) hx hb hml hown ht hE h_0 (fun r pc ls hd hn hp => W.zret hx hb hr hn (fun t het hW => ⟨_, rfl, hp, het⟩) (fun q h9 => by cases h9) hd) ls hl
set_option maxHeartbeats 4000000 in
set_option maxRecDepth 100000 in
theorem bd_JS_length_0 {p : Program} {l : Launch} {e : Env} {s : State} {m : MethodId} {args : Array Value} {below : List Frame} {meth : Method} {c : Code} {Q : State → Prop} {k : Nat → Nat} (hx : p.tables.exec = Jvm.exec) (hb : c.code = b_JS_length) (hml : c.maxLocals = 1) (hown : s.vm.findClass "java/lang/String" = some m.cls) (ht : ∀ w ∈ TT, w.before args s = true) (hE : KE k (fun _ => False) s s.heap) {si : Nat} (h_0 : si < 116) (fin : ∀ (r : Int32) (pc : Nat) (ls : Array Slot), decode b_JS_length pc = .ok (.ireturn, 1) → (Int32.toInt r = ((k (500 + si) : Nat) : Int) ∧ 0 ≤ Int32.toInt r ∧ Int32.toInt r ≤ 100) → W p l e ({ frames := 1, cells := 0, slots := 0, locals := 20 } : Room) s m args below meth c s.heap [] 0 0 Q (F0 m pc ls [.int r])) : ∀ (ls : Array Slot), lv_has ls 1 [(0, .ref (k (100 + si)))] → W p l e ({ frames := 1, cells := 0, slots := 0, locals := 20 } : Room) s m args below meth c s.heap [] 0 0 Q (F0 m 0 ls []) := by
  intro ls hl
  have hS : va_S (fun _ => False) s.heap s.heap [] := va_S.rf
  refine lv_aload_n hx hb d_JS_length_0 rfl (lv_at hl 0 rfl) ?_
  refine vk_getf hx hb (ke_s hE (i := si) (by omega)).2.2.1 hS hown (ht _ k_867) (fun _ h9 => h9) d_JS_length_1 ?_
  obtain ⟨⟨f_1, hf_1⟩, bf_1⟩ := (ke_s hE (i := si) (by omega)).2.2.2
  refine va_tlen (v := (Int32.ofNat (k (500 + si)))) hx hb hf_1 hS rfl d_JS_length_4 ?_
  have ef_1 : Int32.toInt (Int32.ofNat (k (500 + si))) = ((k (500 + si) : Nat) : Int) := nI_toInt (by omega)
  refine lv_aload_n hx hb d_JS_length_5 rfl (lv_at hl 0 rfl) ?_
  refine vp_callSi (W.runV (As := []) (rest := [.int (Int32.ofNat (k (500 + si)))]) ⟨hx, hb, hml, hown, ht⟩ (c_JS_coder l k si (by omega)) (cwV 0 ht (g_V k_288 k_289 k_290 k_81 k_291) rfl rfl rfl (by decide +kernel) ⟨(Nat.le_of_ble_eq_true rfl), (Nat.le_of_ble_eq_true rfl)⟩) ⟨fb_J, oo_recv (ke_s hE (i := si) (by omega)).1 hS, pre_J hE hS⟩ rfl rfl hl.1 rfl (lv_room (Nat.le_of_ble_eq_true rfl)) d_JS_length_6 ⟨(Nat.le_of_ble_eq_true rfl), (Nat.le_of_ble_eq_true rfl)⟩) (fun r_2 hw => ?_)
  obtain ⟨p_3, p_4⟩ := hw
  subst p_3
  refine lv_ishr hx hb d_JS_length_9 ?_
  refine lv_ev (sb_shr0 (Int32.ofNat (k (500 + si)))) ?_
  exact fin (Int32.ofNat (k (500 + si))) _ ls d_JS_length_10 ⟨(by (try dsimp only); omega), (by (try dsimp only); omega), (by (try dsimp only); omega)⟩
set_option maxHeartbeats 4000000 in
set_option maxRecDepth 100000 in
theorem c_JS_length (l : Launch) (k : Nat → Nat) (si : Nat) (h_0 : si < 116) : Met l y_JS_length (.code y_JS_length b_JS_length 1 (some .int) :: TT) ({ frames := 1, cells := 0, slots := 0, locals := 20 }) (va_Pc [.ref (k (100 + si))] (PJ k)) (vp_Si (fun r => Int32.toInt r = ((k (500 + si) : Nat) : Int) ∧ 0 ≤ Int32.toInt r ∧ Int32.toInt r ≤ 100)) 0 0 (fun _ => False) := by
  refine Met.ofW (cc := b_JS_length) (maxL := 1) (ret := (some .int)) (by decide) rfl ?_
  intro p e s m args below meth c s₁ B hml hv
  obtain ⟨rfl, hE⟩ := hv
  have hx := B.exec
  have hb := B.bytes
  have hr := B.returns
  have ht : ∀ w ∈ TT, w.before _ s = true := fun w hw => atoms_spec (ws := .code y_JS_length b_JS_length 1 (some .int) :: TT) B.pre w (List.mem_cons_of_mem _ hw)
  have hown : s.vm.findClass "java/lang/String" = some m.cls := findClass_of_methodNamed B.named
  have hlocks := B.notSynchronized
  have hS : va_S (fun _ => False) s.heap s.heap [] := va_S.rf
  have hl := lv_entry ([.ref (k (100 + si))]) (n := 1) (Nat.le_of_ble_eq_true rfl)
  rw [lg_entry_eq]
  generalize (lg_sl ([.ref (k (100 + si))]) ++ List.replicate (1 - (lg_sl ([.ref (k (100 + si))])).length) Slot.unset).toArray = ls at hl ⊢
  have hl : lv_has ls 1 [(0, .ref (k (100 + si)))] := hl
  exact bd_JS_length_0 (si := si) hx hb hml hown ht hE h_0 (fun r pc ls hd hp => W.iret hx hb hr (fun t het hW => ⟨_, rfl, hp, het⟩) (fun q h9 => by cases h9) hd) ls hl
set_option maxHeartbeats 4000000 in
set_option maxRecDepth 100000 in
theorem bd_JS_isLatin1_0 {p : Program} {l : Launch} {e : Env} {s : State} {m : MethodId} {args : Array Value} {below : List Frame} {meth : Method} {c : Code} {Q : State → Prop} {k : Nat → Nat} (hx : p.tables.exec = Jvm.exec) (hb : c.code = b_JS_isLatin1) (hml : c.maxLocals = 1) (hown : s.vm.findClass "java/lang/String" = some m.cls) (ht : ∀ w ∈ TT, w.before args s = true) (hE : KE k (fun _ => False) s s.heap) {si : Nat} (h_0 : si < 116) (fin : ∀ (r : Int32) (pc : Nat) (ls : Array Slot), decode b_JS_isLatin1 pc = .ok (.ireturn, 1) → narrow .boolean (.int r) = .int r → (r = 1 ∧ narrow .boolean (.int r) = .int r) → W p l e ({ frames := 0, cells := 0, slots := 0, locals := 0 } : Room) s m args below meth c s.heap [] 0 0 Q (F0 m pc ls [.int r])) : ∀ (ls : Array Slot), lv_has ls 1 [(0, .ref (k (100 + si)))] → W p l e ({ frames := 0, cells := 0, slots := 0, locals := 0 } : Room) s m args below meth c s.heap [] 0 0 Q (F0 m 0 ls []) := by
  intro ls hl
  have hS : va_S (fun _ => False) s.heap s.heap [] := va_S.rf
  refine va_gets hx hb (ke_cs hE) hS hown (ht _ k_292) (fun _ h9 => h9) d_JS_isLatin1_0 ?_
  refine lv_if_eq (tgt := 17) hx hb d_JS_isLatin1_3 (by decide) (fun cn => absurd cn (by decide)) (fun _ => ?_)
  refine lv_aload_n hx hb d_JS_isLatin1_6 rfl (lv_at hl 0 rfl) ?_
  refine vk_getf hx hb (ke_s hE (i := si) (by omega)).2.1 hS hown (ht _ k_868) (fun _ h9 => h9) d_JS_isLatin1_7 ?_
  refine lv_if_ne (tgt := 17) hx hb d_JS_isLatin1_10 (by decide) (fun cn => absurd (by decide) cn) (fun _ => ?_)
  refine lv_iconst (v := 1) hx hb d_JS_isLatin1_13 (by decide) ?_
  refine lv_goto (tgt := 18) hx hb d_JS_isLatin1_14 (by decide) ?_
  have hc_1 : Int32.toInt 1 = 1 := by decide
  exact fin 1 _ ls d_JS_isLatin1_18 rfl ⟨rfl, rfl⟩
set_option maxHeartbeats 4000000 in
set_option maxRecDepth 100000 in
theorem c_JS_isLatin1 (l : Launch) (k : Nat → Nat) (si : Nat) (h_0 : si < 116) : Met l y_JS_isLatin1 (.code y_JS_isLatin1 b_JS_isLatin1 1 (some .boolean) :: TT) ({ frames := 0, cells := 0, slots := 0, locals := 0 }) (va_Pc [.ref (k (100 + si))] (PJ k)) (vp_Si (fun r => r = 1 ∧ narrow .boolean (.int r) = .int r)) 0 0 (fun _ => False) := by
  refine Met.ofW (cc := b_JS_isLatin1) (maxL := 1) (ret := (some .boolean)) (by decide) rfl ?_
  intro p e s m args below meth c s₁ B hml hv
  obtain ⟨rfl, hE⟩ := hv
  have hx := B.exec
  have hb := B.bytes
  have hr := B.returns
  have ht : ∀ w ∈ TT, w.before _ s = true := fun w hw => atoms_spec (ws := .code y_JS_isLatin1 b_JS_isLatin1 1 (some .boolean) :: TT) B.pre w (List.mem_cons_of_mem _ hw)
  have hown : s.vm.findClass "java/lang/String" = some m.cls := findClass_of_methodNamed B.named
  have hlocks := B.notSynchronized
  have hS : va_S (fun _ => False) s.heap s.heap [] := va_S.rf
  have hl := lv_entry ([.ref (k (100 + si))]) (n := 1) (Nat.le_of_ble_eq_true rfl)
  rw [lg_entry_eq]
  generalize (lg_sl ([.ref (k (100 + si))]) ++ List.replicate (1 - (lg_sl ([.ref (k (100 + si))])).length) Slot.unset).toArray = ls at hl ⊢
  have hl : lv_has ls 1 [(0, .ref (k (100 + si)))] := hl
  exact bd_JS_isLatin1_0 (si := si) hx hb hml hown ht hE h_0 (fun r pc ls hd hn hp => W.zret hx hb hr hn (fun t het hW => ⟨_, rfl, hp, het⟩) (fun q h9 => by cases h9) hd) ls hl
set_option maxHeartbeats 4000000 in
set_option maxRecDepth 100000 in
theorem bd_JP_checkIndex_n_0 {p : Program} {l : Launch} {e : Env} {s : State} {m : MethodId} {args : Array Value} {below : List Frame} {meth : Method} {c : Code} {Q : State → Prop} {k : Nat → Nat} (hx : p.tables.exec = Jvm.exec) (hb : c.code = b_JP_checkIndex) (hml : c.maxLocals = 3) (hown : s.vm.findClass "jdk/internal/util/Preconditions" = some m.cls) (ht : ∀ w ∈ TT, w.before args s = true) (hE : KE k (fun _ => False) s s.heap) {i n : Int32} (h_0 : 0 ≤ Int32.toInt i) (h_1 : Int32.toInt i < Int32.toInt n) (fin : ∀ (r : Int32) (pc : Nat) (ls : Array Slot), decode b_JP_checkIndex pc = .ok (.ireturn, 1) → (True) → W p l e ({ frames := 0, cells := 0, slots := 0, locals := 0 } : Room) s m args below meth c s.heap [] 0 0 Q (F0 m pc ls [.int r])) : ∀ (ls : Array Slot), lv_has ls 3 [(0, .int i), (1, .int n), (2, .null)] → W p l e ({ frames := 0, cells := 0, slots := 0, locals := 0 } : Room) s m args below meth c s.heap [] 0 0 Q (F0 m 0 ls []) := by
  intro ls hl
  have hS : va_S (fun _ => False) s.heap s.heap [] := va_S.rf
  refine lv_iload_n hx hb d_JP_checkIndex_0 rfl (lv_at hl 0 rfl) ?_
  refine lv_if_lt (tgt := 9) hx hb d_JP_checkIndex_1 (by decide) (fun c_1 => ?_) (fun c_1 => ?_)
  · have dc_1 := i_lt c_1 rfl (show Int32.toInt 0 = 0 by decide)
    exfalso
    omega
  · have dc_1 := i_nlt c_1 rfl (show Int32.toInt 0 = 0 by decide)
    refine lv_iload_n hx hb d_JP_checkIndex_4 rfl (lv_at hl 0 rfl) ?_
    refine lv_iload_n hx hb d_JP_checkIndex_5 rfl (lv_at hl 1 rfl) ?_
    refine lv_icmp_lt (tgt := 16) hx hb d_JP_checkIndex_6 (by decide) (fun c_2 => ?_) (fun c_2 => ?_)
    · have dc_2 := i_lt c_2 rfl rfl
      refine lv_iload_n hx hb d_JP_checkIndex_16 rfl (lv_at hl 0 rfl) ?_
      exact fin i _ ls d_JP_checkIndex_17 trivial
    · have dc_2 := i_nlt c_2 rfl rfl
      exfalso
      omega
set_option maxHeartbeats 4000000 in
set_option maxRecDepth 100000 in
theorem c_JP_checkIndex_n (l : Launch) (k : Nat → Nat) (i n : Int32) (h_0 : 0 ≤ Int32.toInt i) (h_1 : Int32.toInt i < Int32.toInt n) : Met l y_JP_checkIndex (.code y_JP_checkIndex b_JP_checkIndex 3 (some .int) :: TT) ({ frames := 0, cells := 0, slots := 0, locals := 0 }) (va_Pc [.int i, .int n, .null] (PJ k)) (vp_Si (fun r => True)) 0 0 (fun _ => False) := by
  refine Met.ofW (cc := b_JP_checkIndex) (maxL := 3) (ret := (some .int)) (by decide) rfl ?_
  intro p e s m args below meth c s₁ B hml hv
  obtain ⟨rfl, hE⟩ := hv
  have hx := B.exec
  have hb := B.bytes
  have hr := B.returns
  have ht : ∀ w ∈ TT, w.before _ s = true := fun w hw => atoms_spec (ws := .code y_JP_checkIndex b_JP_checkIndex 3 (some .int) :: TT) B.pre w (List.mem_cons_of_mem _ hw)
  have hown : s.vm.findClass "jdk/internal/util/Preconditions" = some m.cls := findClass_of_methodNamed B.named
  have hlocks := B.notSynchronized
  have hS : va_S (fun _ => False) s.heap s.heap [] := va_S.rf
  have hl := lv_entry ([.int i, .int n, .null]) (n := 3) (Nat.le_of_ble_eq_true rfl)
  rw [lg_entry_eq]
  generalize (lg_sl ([.int i, .int n, .null]) ++ List.replicate (3 - (lg_sl ([.int i, .int n, .null])).length) Slot.unset).toArray = ls at hl ⊢
  have hl : lv_has ls 3 [(0, .int i), (1, .int n), (2, .null)] := hl
  exact bd_JP_checkIndex_n_0 (i := i) (n := n) hx hb hml hown ht hE h_0 h_1 (fun r pc ls hd hp => W.iret hx hb hr (fun t het hW => ⟨_, rfl, hp, het⟩) (fun q h9 => by cases h9) hd) ls hl
set_option maxHeartbeats 4000000 in
set_option maxRecDepth 100000 in
theorem bd_JP_checkIndex_r_0 {p : Program} {l : Launch} {e : Env} {s : State} {m : MethodId} {args : Array Value} {below : List Frame} {meth : Method} {c : Code} {Q : State → Prop} {k : Nat → Nat} (hx : p.tables.exec = Jvm.exec) (hb : c.code = b_JP_checkIndex) (hml : c.maxLocals = 3) (hown : s.vm.findClass "jdk/internal/util/Preconditions" = some m.cls) (ht : ∀ w ∈ TT, w.before args s = true) (hE : KE k (fun _ => False) s s.heap) {i n : Int32} {zt : Nat} (h_0 : 0 ≤ Int32.toInt i) (h_1 : Int32.toInt i < Int32.toInt n) (fin : ∀ (r : Int32) (pc : Nat) (ls : Array Slot), decode b_JP_checkIndex pc = .ok (.ireturn, 1) → (True) → W p l e ({ frames := 0, cells := 0, slots := 0, locals := 0 } : Room) s m args below meth c s.heap [] 0 0 Q (F0 m pc ls [.int r])) : ∀ (ls : Array Slot), lv_has ls 3 [(0, .int i), (1, .int n), (2, .ref zt)] → W p l e ({ frames := 0, cells := 0, slots := 0, locals := 0 } : Room) s m args below meth c s.heap [] 0 0 Q (F0 m 0 ls []) := by
  intro ls hl
  have hS : va_S (fun _ => False) s.heap s.heap [] := va_S.rf
  refine lv_iload_n hx hb d_JP_checkIndex_0 rfl (lv_at hl 0 rfl) ?_
  refine lv_if_lt (tgt := 9) hx hb d_JP_checkIndex_1 (by decide) (fun c_1 => ?_) (fun c_1 => ?_)
  · have dc_1 := i_lt c_1 rfl (show Int32.toInt 0 = 0 by decide)
    exfalso
    omega
  · have dc_1 := i_nlt c_1 rfl (show Int32.toInt 0 = 0 by decide)
    refine lv_iload_n hx hb d_JP_checkIndex_4 rfl (lv_at hl 0 rfl) ?_
    refine lv_iload_n hx hb d_JP_checkIndex_5 rfl (lv_at hl 1 rfl) ?_
    refine lv_icmp_lt (tgt := 16) hx hb d_JP_checkIndex_6 (by decide) (fun c_2 => ?_) (fun c_2 => ?_)
    · have dc_2 := i_lt c_2 rfl rfl
      refine lv_iload_n hx hb d_JP_checkIndex_16 rfl (lv_at hl 0 rfl) ?_
      exact fin i _ ls d_JP_checkIndex_17 trivial
    · have dc_2 := i_nlt c_2 rfl rfl
      exfalso
      omega
set_option maxHeartbeats 4000000 in
set_option maxRecDepth 100000 in
theorem c_JP_checkIndex_r (l : Launch) (k : Nat → Nat) (i n : Int32) (zt : Nat) (h_0 : 0 ≤ Int32.toInt i) (h_1 : Int32.toInt i < Int32.toInt n) : Met l y_JP_checkIndex (.code y_JP_checkIndex b_JP_checkIndex 3 (some .int) :: TT) ({ frames := 0, cells := 0, slots := 0, locals := 0 }) (va_Pc [.int i, .int n, .ref zt] (PJ k)) (vp_Si (fun r => True)) 0 0 (fun _ => False) := by
  refine Met.ofW (cc := b_JP_checkIndex) (maxL := 3) (ret := (some .int)) (by decide) rfl ?_
  intro p e s m args below meth c s₁ B hml hv
  obtain ⟨rfl, hE⟩ := hv
  have hx := B.exec
  have hb := B.bytes
  have hr := B.returns
  have ht : ∀ w ∈ TT, w.before _ s = true := fun w hw => atoms_spec (ws := .code y_JP_checkIndex b_JP_checkIndex 3 (some .int) :: TT) B.pre w (List.mem_cons_of_mem _ hw)
  have hown : s.vm.findClass "jdk/internal/util/Preconditions" = some m.cls := findClass_of_methodNamed B.named
  have hlocks := B.notSynchronized
  have hS : va_S (fun _ => False) s.heap s.heap [] := va_S.rf
  have hl := lv_entry ([.int i, .int n, .ref zt]) (n := 3) (Nat.le_of_ble_eq_true rfl)
  rw [lg_entry_eq]
  generalize (lg_sl ([.int i, .int n, .ref zt]) ++ List.replicate (3 - (lg_sl ([.int i, .int n, .ref zt])).length) Slot.unset).toArray = ls at hl ⊢
  have hl : lv_has ls 3 [(0, .int i), (1, .int n), (2, .ref zt)] := hl
  exact bd_JP_checkIndex_r_0 (i := i) (n := n) (zt := zt) hx hb hml hown ht hE h_0 h_1 (fun r pc ls hd hp => W.iret hx hb hr (fun t het hW => ⟨_, rfl, hp, het⟩) (fun q h9 => by cases h9) hd) ls hl
set_option maxHeartbeats 4000000 in
set_option maxRecDepth 100000 in
theorem bd_JS_checkIndex_0 {p : Program} {l : Launch} {e : Env} {s : State} {m : MethodId} {args : Array Value} {below : List Frame} {meth : Method} {c : Code} {Q : State → Prop} {k : Nat → Nat} (hx : p.tables.exec = Jvm.exec) (hb : c.code = b_JS_checkIndex) (hml : c.maxLocals = 2) (hown : s.vm.findClass "java/lang/String" = some m.cls) (ht : ∀ w ∈ TT, w.before args s = true) (hE : KE k (fun _ => False) s s.heap) {i n : Int32} (h_0 : 0 ≤ Int32.toInt i) (h_1 : Int32.toInt i < Int32.toInt n) (fin : ∀ (pc : Nat) (ls : Array Slot), decode b_JS_checkIndex pc = .ok (.return_, 1) → (True) → W p l e ({ frames := 1, cells := 0, slots := 0, locals := 22 } : Room) s m args below meth c s.heap [] 0 0 Q (F0 m pc ls [])) : ∀ (ls : Array Slot), lv_has ls 2 [(0, .int i), (1, .int n)] → W p l e ({ frames := 1, cells := 0, slots := 0, locals := 22 } : Room) s m args below meth c s.heap [] 0 0 Q (F0 m 0 ls []) := by
  intro ls hl
  have hS : va_S (fun _ => False) s.heap s.heap [] := va_S.rf
  refine lv_iload_n hx hb d_JS_checkIndex_0 rfl (lv_at hl 0 rfl) ?_
  refine lv_iload_n hx hb d_JS_checkIndex_1 rfl (lv_at hl 1 rfl) ?_
  rcases (ke_sf hE) with hZ | ⟨zt, hZ⟩
  · refine va_gets hx hb hZ hS hown (ht _ k_308) (fun _ h9 => h9) d_JS_checkIndex_2 ?_
    refine vp_callSi (W.runS (As := [.int i, .int n, .null]) (rest := []) ⟨hx, hb, hml, hown, ht⟩ (c_JP_checkIndex_n l k i n (by omega) (by omega)) (va_cwS 3 ht (g_S k_310 k_311 k_83 k_312) rfl rfl rfl (by decide +kernel) ⟨(Nat.le_of_ble_eq_true rfl), (Nat.le_of_ble_eq_true rfl)⟩) ⟨fb_J, pre_J hE hS⟩ rfl rfl hl.1 rfl (lv_room (Nat.le_of_ble_eq_true rfl)) d_JS_checkIndex_5 ⟨(Nat.le_of_ble_eq_true rfl), (Nat.le_of_ble_eq_true rfl)⟩) (fun r_1 hw => ?_)
    refine lv_pop hx hb d_JS_checkIndex_8 rfl ?_
    exact fin  _ ls d_JS_checkIndex_9 trivial
  · refine va_gets hx hb hZ hS hown (ht _ k_308) (fun _ h9 => h9) d_JS_checkIndex_2 ?_
    refine vp_callSi (W.runS (As := [.int i, .int n, .ref zt]) (rest := []) ⟨hx, hb, hml, hown, ht⟩ (c_JP_checkIndex_r l k i n zt (by omega) (by omega)) (va_cwS 3 ht (g_S k_310 k_311 k_83 k_312) rfl rfl rfl (by decide +kernel) ⟨(Nat.le_of_ble_eq_true rfl), (Nat.le_of_ble_eq_true rfl)⟩) ⟨fb_J, pre_J hE hS⟩ rfl rfl hl.1 rfl (lv_room (Nat.le_of_ble_eq_true rfl)) d_JS_checkIndex_5 ⟨(Nat.le_of_ble_eq_true rfl), (Nat.le_of_ble_eq_true rfl)⟩) (fun r_2 hw => ?_)
    refine lv_pop hx hb d_JS_checkIndex_8 rfl ?_
    exact fin  _ ls d_JS_checkIndex_9 trivial
set_option maxHeartbeats 4000000 in
set_option maxRecDepth 100000 in
theorem c_JS_checkIndex (l : Launch) (k : Nat → Nat) (i n : Int32) (h_0 : 0 ≤ Int32.toInt i) (h_1 : Int32.toInt i < Int32.toInt n) : Met l y_JS_checkIndex (.code y_JS_checkIndex b_JS_checkIndex 2 none :: TT) ({ frames := 1, cells := 0, slots := 0, locals := 22 }) (va_Pc [.int i, .int n] (PJ k)) (va_Sv (fun _ => True)) 0 0 (fun _ => False) := by
  refine Met.ofW (cc := b_JS_checkIndex) (maxL := 2) (ret := none) (by decide) rfl ?_
  intro p e s m args below meth c s₁ B hml hv
  obtain ⟨rfl, hE⟩ := hv
  have hx := B.exec
  have hb := B.bytes
  have hr := B.returns
  have ht : ∀ w ∈ TT, w.before _ s = true := fun w hw => atoms_spec (ws := .code y_JS_checkIndex b_JS_checkIndex 2 none :: TT) B.pre w (List.mem_cons_of_mem _ hw)
  have hown : s.vm.findClass "java/lang/String" = some m.cls := findClass_of_methodNamed B.named
  have hlocks := B.notSynchronized
  have hS : va_S (fun _ => False) s.heap s.heap [] := va_S.rf
  have hl := lv_entry ([.int i, .int n]) (n := 2) (Nat.le_of_ble_eq_true rfl)
  rw [lg_entry_eq]
  generalize (lg_sl ([.int i, .int n]) ++ List.replicate (2 - (lg_sl ([.int i, .int n])).length) Slot.unset).toArray = ls at hl ⊢
  have hl : lv_has ls 2 [(0, .int i), (1, .int n)] := hl
  exact bd_JS_checkIndex_0 (i := i) (n := n) hx hb hml hown ht hE h_0 h_1 (fun pc ls hd hp => W.vret hx hb hr (fun t het hW => ⟨rfl, trivial, het⟩) (fun q h9 => by cases h9) hd) ls hl
set_option maxHeartbeats 4000000 in
set_option maxRecDepth 100000 in
theorem bd_JL_charAt_0 {p : Program} {l : Launch} {e : Env} {s : State} {m : MethodId} {args : Array Value} {below : List Frame} {meth : Method} {c : Code} {Q : State → Prop} {k : Nat → Nat} (hx : p.tables.exec = Jvm.exec) (hb : c.code = b_JL_charAt) (hml : c.maxLocals = 2) (hown : s.vm.findClass "java/lang/StringLatin1" = some m.cls) (ht : ∀ w ∈ TT, w.before args s = true) (hE : KE k (fun _ => False) s s.heap) {si : Nat} {i : Int32} (h_0 : si < 116) (h_1 : 0 ≤ Int32.toInt i) (h_2 : Int32.toInt i < ((k (500 + si) : Nat) : Int)) (fin : ∀ (r : Int32) (pc : Nat) (ls : Array Slot), decode b_JL_charAt pc = .ok (.ireturn, 1) → narrow .char (.int r) = .int r → (narrow .char (.int r) = .int r) → W p l e ({ frames := 2, cells := 0, slots := 0, locals := 43 } : Room) s m args below meth c s.heap [] 0 0 Q (F0 m pc ls [.int r])) : ∀ (ls : Array Slot), lv_has ls 2 [(0, .ref (k (300 + si))), (1, .int i)] → W p l e ({ frames := 2, cells := 0, slots := 0, locals := 43 } : Room) s m args below meth c s.heap [] 0 0 Q (F0 m 0 ls []) := by
  intro ls hl
  have hS : va_S (fun _ => False) s.heap s.heap [] := va_S.rf
  refine lv_iload_n hx hb d_JL_charAt_0 rfl (lv_at hl 1 rfl) ?_
  refine lv_aload_n hx hb d_JL_charAt_1 rfl (lv_at hl 0 rfl) ?_
  obtain ⟨⟨f_1, hf_1⟩, bf_1⟩ := (ke_s hE (i := si) (by omega)).2.2.2
  refine va_tlen (v := (Int32.ofNat (k (500 + si)))) hx hb hf_1 hS rfl d_JL_charAt_2 ?_
  have ef_1 : Int32.toInt (Int32.ofNat (k (500 + si))) = ((k (500 + si) : Nat) : Int) := nI_toInt (by omega)
  refine va_csv (W.runS (As := [.int i, .int (Int32.ofNat (k (500 + si)))]) (rest := []) ⟨hx, hb, hml, hown, ht⟩ (c_JS_checkIndex l k i (Int32.ofNat (k (500 + si))) (by omega) (by omega)) (va_cwS 2 ht (g_S k_305 k_306 k_81 k_307) rfl rfl rfl (by decide +kernel) ⟨(Nat.le_of_ble_eq_true rfl), (Nat.le_of_ble_eq_true rfl)⟩) ⟨fb_J, pre_J hE hS⟩ rfl rfl hl.1 rfl (lv_room (Nat.le_of_ble_eq_true rfl)) d_JL_charAt_3 ⟨(Nat.le_of_ble_eq_true rfl), (Nat.le_of_ble_eq_true rfl)⟩) (fun _ => ?_)
  refine lv_aload_n hx hb d_JL_charAt_6 rfl (lv_at hl 0 rfl) ?_
  refine lv_iload_n hx hb d_JL_charAt_7 rfl (lv_at hl 1 rfl) ?_
  obtain ⟨⟨f_2, hf_2⟩, bf_2⟩ := (ke_s hE (i := si) (by omega)).2.2.2
  refine va_tb hx hb hf_2 hS (i := i) (v := .int (f_2 (Int32.toNatClampNeg i))) (i_in rfl (by omega) (by omega)) rfl d_JL_charAt_8 ?_
  refine lv_sipush (v := 255) hx hb d_JL_charAt_9 (by decide) ?_
  refine lv_iand hx hb d_JL_charAt_12 ?_
  refine lv_i2c (v := ((Int32.toUInt32 ((f_2 (Int32.toNatClampNeg i)) &&& 255) % 65536).toInt32)) hx hb d_JL_charAt_13 rfl ?_
  exact fin ((Int32.toUInt32 ((f_2 (Int32.toNatClampNeg i)) &&& 255) % 65536).toInt32) _ ls d_JL_charAt_14 (pk_nc _) (pk_nc _)
set_option maxHeartbeats 4000000 in
set_option maxRecDepth 100000 in
theorem c_JL_charAt (l : Launch) (k : Nat → Nat) (si : Nat) (i : Int32) (h_0 : si < 116) (h_1 : 0 ≤ Int32.toInt i) (h_2 : Int32.toInt i < ((k (500 + si) : Nat) : Int)) : Met l y_JL_charAt (.code y_JL_charAt b_JL_charAt 2 (some .char) :: TT) ({ frames := 2, cells := 0, slots := 0, locals := 43 }) (va_Pc [.ref (k (300 + si)), .int i] (PJ k)) (vp_Si (fun r => narrow .char (.int r) = .int r)) 0 0 (fun _ => False) := by
  refine Met.ofW (cc := b_JL_charAt) (maxL := 2) (ret := (some .char)) (by decide) rfl ?_
  intro p e s m args below meth c s₁ B hml hv
  obtain ⟨rfl, hE⟩ := hv
  have hx := B.exec
  have hb := B.bytes
  have hr := B.returns
  have ht : ∀ w ∈ TT, w.before _ s = true := fun w hw => atoms_spec (ws := .code y_JL_charAt b_JL_charAt 2 (some .char) :: TT) B.pre w (List.mem_cons_of_mem _ hw)
  have hown : s.vm.findClass "java/lang/StringLatin1" = some m.cls := findClass_of_methodNamed B.named
  have hlocks := B.notSynchronized
  have hS : va_S (fun _ => False) s.heap s.heap [] := va_S.rf
  have hl := lv_entry ([.ref (k (300 + si)), .int i]) (n := 2) (Nat.le_of_ble_eq_true rfl)
  rw [lg_entry_eq]
  generalize (lg_sl ([.ref (k (300 + si)), .int i]) ++ List.replicate (2 - (lg_sl ([.ref (k (300 + si)), .int i])).length) Slot.unset).toArray = ls at hl ⊢
  have hl : lv_has ls 2 [(0, .ref (k (300 + si))), (1, .int i)] := hl
  exact bd_JL_charAt_0 (si := si) (i := i) hx hb hml hown ht hE h_0 h_1 h_2 (fun r pc ls hd hn hp => W.zret hx hb hr hn (fun t het hW => ⟨_, rfl, hp, het⟩) (fun q h9 => by cases h9) hd) ls hl
set_option maxHeartbeats 4000000 in
set_option maxRecDepth 100000 in
theorem bd_JS_charAt_0 {p : Program} {l : Launch} {e : Env} {s : State} {m : MethodId} {args : Array Value} {below : List Frame} {meth : Method} {c : Code} {Q : State → Prop} {k : Nat → Nat} (hx : p.tables.exec = Jvm.exec) (hb : c.code = b_JS_charAt) (hml : c.maxLocals = 2) (hown : s.vm.findClass "java/lang/String" = some m.cls) (ht : ∀ w ∈ TT, w.before args s = true) (hE : KE k (fun _ => False) s s.heap) {si : Nat} {i : Int32} (h_0 : si < 116) (h_1 : 0 ≤ Int32.toInt i) (h_2 : Int32.toInt i < ((k (500 + si) : Nat) : Int)) (fin : ∀ (r : Int32) (pc : Nat) (ls : Array Slot), decode b_JS_charAt pc = .ok (.ireturn, 1) → narrow .char (.int r) = .int r → (narrow .char (.int r) = .int r) → W p l e ({ frames := 3, cells := 0, slots := 0, locals := 64 } : Room) s m args below meth c s.heap [] 0 0 Q (F0 m pc ls [.int r])) : ∀ (ls : Array Slot), lv_has ls 2 [(0, .ref (k (100 + si))), (1, .int i)] → W p l e ({ frames := 3, cells := 0, slots := 0, locals := 64 } : Room) s m args below meth c s.heap [] 0 0 Q (F0 m 0 ls []) := by
  intro ls hl
  have hS : va_S (fun _ => False) s.heap s.heap [] := va_S.rf
  refine lv_aload_n hx hb d_JS_charAt_0 rfl (lv_at hl 0 rfl) ?_
  refine vp_callSi (W.runV (As := []) (rest := []) ⟨hx, hb, hml, hown, ht⟩ (c_JS_isLatin1 l k si (by omega)) (cwV 0 ht (g_V k_298 k_299 k_300 k_81 k_301) rfl rfl rfl (by decide +kernel) ⟨(Nat.le_of_ble_eq_true rfl), (Nat.le_of_ble_eq_true rfl)⟩) ⟨fb_J, oo_recv (ke_s hE (i := si) (by omega)).1 hS, pre_J hE hS⟩ rfl rfl hl.1 rfl (lv_room (Nat.le_of_ble_eq_true rfl)) d_JS_charAt_1 ⟨(Nat.le_of_ble_eq_true rfl), (Nat.le_of_ble_eq_true rfl)⟩) (fun r_1 hw => ?_)
  obtain ⟨p_2, p_3⟩ := hw
  subst p_2
  refine lv_if_eq (tgt := 16) hx hb d_JS_charAt_4 (by decide) (fun cn => absurd cn (by decide)) (fun _ => ?_)
  refine lv_aload_n hx hb d_JS_charAt_7 rfl (lv_at hl 0 rfl) ?_
  refine vk_getf hx hb (ke_s hE (i := si) (by omega)).2.2.1 hS hown (ht _ k_867) (fun _ h9 => h9) d_JS_charAt_8 ?_
  refine lv_iload_n hx hb d_JS_charAt_11 rfl (lv_at hl 1 rfl) ?_
  refine vp_callSi (W.runS (As := [.ref (k (300 + si)), .int i]) (rest := []) ⟨hx, hb, hml, hown, ht⟩ (c_JL_charAt l k si i (by omega) (by omega) (by omega)) (va_cwS 2 ht (g_S k_302 k_303 k_82 k_304) rfl rfl rfl (by decide +kernel) ⟨(Nat.le_of_ble_eq_true rfl), (Nat.le_of_ble_eq_true rfl)⟩) ⟨fb_J, pre_J hE hS⟩ rfl rfl hl.1 rfl (lv_room (Nat.le_of_ble_eq_true rfl)) d_JS_charAt_12 ⟨(Nat.le_of_ble_eq_true rfl), (Nat.le_of_ble_eq_true rfl)⟩) (fun r_4 hw => ?_)
  have p_5 := hw
  exact fin r_4 _ ls d_JS_charAt_15 p_5 p_5
set_option maxHeartbeats 4000000 in
set_option maxRecDepth 100000 in
theorem c_JS_charAt (l : Launch) (k : Nat → Nat) (si : Nat) (i : Int32) (h_0 : si < 116) (h_1 : 0 ≤ Int32.toInt i) (h_2 : Int32.toInt i < ((k (500 + si) : Nat) : Int)) : Met l y_JS_charAt (.code y_JS_charAt b_JS_charAt 2 (some .char) :: TT) ({ frames := 3, cells := 0, slots := 0, locals := 64 }) (va_Pc [.ref (k (100 + si)), .int i] (PJ k)) (vp_Si (fun r => narrow .char (.int r) = .int r)) 0 0 (fun _ => False) := by
  refine Met.ofW (cc := b_JS_charAt) (maxL := 2) (ret := (some .char)) (by decide) rfl ?_
  intro p e s m args below meth c s₁ B hml hv
  obtain ⟨rfl, hE⟩ := hv
  have hx := B.exec
  have hb := B.bytes
  have hr := B.returns
  have ht : ∀ w ∈ TT, w.before _ s = true := fun w hw => atoms_spec (ws := .code y_JS_charAt b_JS_charAt 2 (some .char) :: TT) B.pre w (List.mem_cons_of_mem _ hw)
  have hown : s.vm.findClass "java/lang/String" = some m.cls := findClass_of_methodNamed B.named
  have hlocks := B.notSynchronized
  have hS : va_S (fun _ => False) s.heap s.heap [] := va_S.rf
  have hl := lv_entry ([.ref (k (100 + si)), .int i]) (n := 2) (Nat.le_of_ble_eq_true rfl)
  rw [lg_entry_eq]
  generalize (lg_sl ([.ref (k (100 + si)), .int i]) ++ List.replicate (2 - (lg_sl ([.ref (k (100 + si)), .int i])).length) Slot.unset).toArray = ls at hl ⊢
  have hl : lv_has ls 2 [(0, .ref (k (100 + si))), (1, .int i)] := hl
  exact bd_JS_charAt_0 (si := si) (i := i) hx hb hml hown ht hE h_0 h_1 h_2 (fun r pc ls hd hn hp => W.zret hx hb hr hn (fun t het hW => ⟨_, rfl, hp, het⟩) (fun q h9 => by cases h9) hd) ls hl
set_option maxHeartbeats 4000000 in
set_option maxRecDepth 100000 in
theorem bd_JL_canEncode_0 {p : Program} {l : Launch} {e : Env} {s : State} {m : MethodId} {args : Array Value} {below : List Frame} {meth : Method} {c : Code} {Q : State → Prop} {k : Nat → Nat} (hx : p.tables.exec = Jvm.exec) (hb : c.code = b_JL_canEncode) (hml : c.maxLocals = 1) (hown : s.vm.findClass "java/lang/StringLatin1" = some m.cls) (ht : ∀ w ∈ TT, w.before args s = true) (hE : KE k (fun _ => False) s s.heap) {c1 : Int32}  (fin : ∀ (r : Int32) (pc : Nat) (ls : Array Slot), decode b_JL_canEncode pc = .ok (.ireturn, 1) → narrow .boolean (.int r) = .int r → (narrow .boolean (.int r) = .int r) → W p l e ({ frames := 0, cells := 0, slots := 0, locals := 0 } : Room) s m args below meth c s.heap [] 0 0 Q (F0 m pc ls [.int r])) : ∀ (ls : Array Slot), lv_has ls 1 [(0, .int c1)] → W p l e ({ frames := 0, cells := 0, slots := 0, locals := 0 } : Room) s m args below meth c s.heap [] 0 0 Q (F0 m 0 ls []) := by
  intro ls hl
  have hS : va_S (fun _ => False) s.heap s.heap [] := va_S.rf
  refine lv_iload_n hx hb d_JL_canEncode_0 rfl (lv_at hl 0 rfl) ?_
  refine lv_if_lt (tgt := 15) hx hb d_JL_canEncode_1 (by decide) (fun c_1 => ?_) (fun c_1 => ?_)
  · refine lv_iconst (v := 0) hx hb d_JL_canEncode_15 (by decide) ?_
    have hc_0 : Int32.toInt 0 = 0 := by decide
    exact fin 0 _ ls d_JL_canEncode_16 rfl rfl
  · refine lv_iload_n hx hb d_JL_canEncode_4 rfl (lv_at hl 0 rfl) ?_
    refine lv_sipush (v := 255) hx hb d_JL_canEncode_5 (by decide) ?_
    refine lv_icmp_gt (tgt := 15) hx hb d_JL_canEncode_8 (by decide) (fun c_2 => ?_) (fun c_2 => ?_)
    · refine lv_iconst (v := 0) hx hb d_JL_canEncode_15 (by decide) ?_
      have hc_0 : Int32.toInt 0 = 0 := by decide
      exact fin 0 _ ls d_JL_canEncode_16 rfl rfl
    · refine lv_iconst (v := 1) hx hb d_JL_canEncode_11 (by decide) ?_
      refine lv_goto (tgt := 16) hx hb d_JL_canEncode_12 (by decide) ?_
      have hc_1 : Int32.toInt 1 = 1 := by decide
      exact fin 1 _ ls d_JL_canEncode_16 rfl rfl
set_option maxHeartbeats 4000000 in
set_option maxRecDepth 100000 in
theorem c_JL_canEncode (l : Launch) (k : Nat → Nat) (c1 : Int32)  : Met l y_JL_canEncode (.code y_JL_canEncode b_JL_canEncode 1 (some .boolean) :: TT) ({ frames := 0, cells := 0, slots := 0, locals := 0 }) (va_Pc [.int c1] (PJ k)) (vp_Si (fun r => narrow .boolean (.int r) = .int r)) 0 0 (fun _ => False) := by
  refine Met.ofW (cc := b_JL_canEncode) (maxL := 1) (ret := (some .boolean)) (by decide) rfl ?_
  intro p e s m args below meth c s₁ B hml hv
  obtain ⟨rfl, hE⟩ := hv
  have hx := B.exec
  have hb := B.bytes
  have hr := B.returns
  have ht : ∀ w ∈ TT, w.before _ s = true := fun w hw => atoms_spec (ws := .code y_JL_canEncode b_JL_canEncode 1 (some .boolean) :: TT) B.pre w (List.mem_cons_of_mem _ hw)
  have hown : s.vm.findClass "java/lang/StringLatin1" = some m.cls := findClass_of_methodNamed B.named
  have hlocks := B.notSynchronized
  have hS : va_S (fun _ => False) s.heap s.heap [] := va_S.rf
  have hl := lv_entry ([.int c1]) (n := 1) (Nat.le_of_ble_eq_true rfl)
  rw [lg_entry_eq]
  generalize (lg_sl ([.int c1]) ++ List.replicate (1 - (lg_sl ([.int c1])).length) Slot.unset).toArray = ls at hl ⊢
  have hl : lv_has ls 1 [(0, .int c1)] := hl
  exact bd_JL_canEncode_0 (c1 := c1) hx hb hml hown ht hE  (fun r pc ls hd hn hp => W.zret hx hb hr hn (fun t het hW => ⟨_, rfl, hp, het⟩) (fun q h9 => by cases h9) hd) ls hl
set_option maxHeartbeats 4000000 in
set_option maxRecDepth 100000 in
theorem lp_JL_indexOfChar_7 {p : Program} {l : Launch} {e : Env} {s : State} {m : MethodId} {args : Array Value} {below : List Frame} {meth : Method} {c : Code} {Q : State → Prop} {k : Nat → Nat} (hx : p.tables.exec = Jvm.exec) (hb : c.code = b_JL_indexOfChar) (hml : c.maxLocals = 6) (hown : s.vm.findClass "java/lang/StringLatin1" = some m.cls) (ht : ∀ w ∈ TT, w.before args s = true) (hE : KE k (fun _ => False) s s.heap) {si : Nat} {c1 fi ti : Int32} (h_0 : si < 116) (h_1 : 0 ≤ Int32.toInt fi) (h_2 : Int32.toInt ti ≤ ((k (500 + si) : Nat) : Int)) (h_3 : ((k (500 + si) : Nat) : Int) ≤ 100) (fin : ∀ (r : Int32) (pc : Nat) (ls : Array Slot), decode b_JL_indexOfChar pc = .ok (.ireturn, 1) → (True) → W p l e ({ frames := 0, cells := 0, slots := 0, locals := 0 } : Room) s m args below meth c s.heap [] 0 0 Q (F0 m pc ls [.int r])) : ∀ (nn : Nat), ∀ (i : Int32), 0 ≤ Int32.toInt i → (Int32.toInt ti - Int32.toInt i).toNat < nn → ∀ (ls : Array Slot), lv_has ls 6 [(5, .int i), (0, .ref (k (300 + si))), (3, .int ti), (4, .int (Int8.toInt32 (Int32.toInt8 c1)))] → W p l e ({ frames := 0, cells := 0, slots := 0, locals := 0 } : Room) s m args below meth c s.heap [] 0 0 Q (F0 m 7 ls []) := by
  intro nn
  induction nn with
  | zero =>
    intro _ _ hm
    exact absurd hm (Nat.not_lt_zero _)
  | succ nn ih =>
    intro i v_0 hm ls hl
    have hS : va_S (fun _ => False) s.heap s.heap [] := va_S.rf
    refine lv_iload hx hb d_JL_indexOfChar_7 (lv_at hl 0 rfl) ?_
    refine lv_iload_n hx hb d_JL_indexOfChar_9 rfl (lv_at hl 2 rfl) ?_
    refine lv_icmp_ge (tgt := 31) hx hb d_JL_indexOfChar_10 (by decide) (fun c_1 => ?_) (fun c_1 => ?_)
    · have dc_1 := i_le c_1 rfl rfl
      refine lv_iconst (v := (-1)) hx hb d_JL_indexOfChar_31 (by decide) ?_
      have hc_m1 : Int32.toInt (-1) = (-1) := by decide
      exact fin (-1) _ ls d_JL_indexOfChar_32 trivial
    · have dc_1 := i_nle c_1 rfl rfl
      refine lv_aload_n hx hb d_JL_indexOfChar_13 rfl (lv_at hl 1 rfl) ?_
      refine lv_iload hx hb d_JL_indexOfChar_14 (lv_at hl 0 rfl) ?_
      obtain ⟨⟨f_2, hf_2⟩, bf_2⟩ := (ke_s hE (i := si) (by omega)).2.2.2
      refine va_tb hx hb hf_2 hS (i := i) (v := .int (f_2 (Int32.toNatClampNeg i))) (i_in rfl (by omega) (by omega)) rfl d_JL_indexOfChar_16 ?_
      refine lv_iload hx hb d_JL_indexOfChar_17 (lv_at hl 3 rfl) ?_
      refine lv_icmp_ne (tgt := 25) hx hb d_JL_indexOfChar_19 (by decide) (fun c_3 => ?_) (fun c_3 => ?_)
      · refine lv_iinc (v := (i + 1)) (lv' := [(5, .int (i + 1)), (0, .ref (k (300 + si))), (3, .int ti), (4, .int (Int8.toInt32 (Int32.toInt8 c1)))]) hx hb d_JL_indexOfChar_25 hl (k := 0) rfl rfl (by decide) rfl (fun ls hl => ?_)
        have e_4 : Int32.toInt (i + 1) = (Int32.toInt i) + 1 := i_add rfl (show Int32.toInt 1 = 1 by decide) (by omega) (by omega)
        refine lv_goto (tgt := 7) hx hb d_JL_indexOfChar_28 (by decide) ?_
        exact ih (i + 1) (by omega) (by omega) ls (lv_sub hl [0, 1, 2, 3] rfl)
      · refine lv_iload hx hb d_JL_indexOfChar_22 (lv_at hl 0 rfl) ?_
        exact fin i _ ls d_JL_indexOfChar_24 trivial
set_option maxHeartbeats 4000000 in
set_option maxRecDepth 100000 in
theorem bd_JL_indexOfChar_0 {p : Program} {l : Launch} {e : Env} {s : State} {m : MethodId} {args : Array Value} {below : List Frame} {meth : Method} {c : Code} {Q : State → Prop} {k : Nat → Nat} (hx : p.tables.exec = Jvm.exec) (hb : c.code = b_JL_indexOfChar) (hml : c.maxLocals = 6) (hown : s.vm.findClass "java/lang/StringLatin1" = some m.cls) (ht : ∀ w ∈ TT, w.before args s = true) (hE : KE k (fun _ => False) s s.heap) {si : Nat} {c1 fi ti : Int32} (h_0 : si < 116) (h_1 : 0 ≤ Int32.toInt fi) (h_2 : Int32.toInt ti ≤ ((k (500 + si) : Nat) : Int)) (h_3 : ((k (500 + si) : Nat) : Int) ≤ 100) (fin : ∀ (r : Int32) (pc : Nat) (ls : Array Slot), decode b_JL_indexOfChar pc = .ok (.ireturn, 1) → (True) → W p l e ({ frames := 0, cells := 0, slots := 0, locals := 0 } : Room) s m args below meth c s.heap [] 0 0 Q (F0 m pc ls [.int r])) : ∀ (ls : Array Slot), lv_has ls 6 [(0, .ref (k (300 + si))), (1, .int c1), (2, .int fi), (3, .int ti)] → W p l e ({ frames := 0, cells := 0, slots := 0, locals := 0 } : Room) s m args below meth c s.heap [] 0 0 Q (F0 m 0 ls []) := by
  intro ls hl
  have hS : va_S (fun _ => False) s.heap s.heap [] := va_S.rf
  refine lv_iload_n hx hb d_JL_indexOfChar_0 rfl (lv_at hl 1 rfl) ?_
  refine lv_i2b (v := (Int8.toInt32 (Int32.toInt8 c1))) hx hb d_JL_indexOfChar_1 rfl ?_
  refine lv_istore (lv' := [(4, .int (Int8.toInt32 (Int32.toInt8 c1))), (0, .ref (k (300 + si))), (1, .int c1), (2, .int fi), (3, .int ti)]) hx hb d_JL_indexOfChar_2 hl (by decide) rfl (fun ls hl => ?_)
  refine lv_iload_n hx hb d_JL_indexOfChar_4 rfl (lv_at hl 3 rfl) ?_
  refine lv_istore (lv' := [(5, .int fi), (4, .int (Int8.toInt32 (Int32.toInt8 c1))), (0, .ref (k (300 + si))), (1, .int c1), (2, .int fi), (3, .int ti)]) hx hb d_JL_indexOfChar_5 hl (by decide) rfl (fun ls hl => ?_)
  exact (lp_JL_indexOfChar_7 (si := si) (c1 := c1) (fi := fi) (ti := ti) hx hb hml hown ht hE h_0 h_1 h_2 h_3 fin _) fi (by omega) (Nat.lt_succ_self _) ls (lv_sub hl [0, 2, 5, 1] rfl)
set_option maxHeartbeats 4000000 in
set_option maxRecDepth 100000 in
theorem c_JL_indexOfChar (l : Launch) (k : Nat → Nat) (si : Nat) (c1 fi ti : Int32) (h_0 : si < 116) (h_1 : 0 ≤ Int32.toInt fi) (h_2 : Int32.toInt ti ≤ ((k (500 + si) : Nat) : Int)) (h_3 : ((k (500 + si) : Nat) : Int) ≤ 100) : Met l y_JL_indexOfChar (.code y_JL_indexOfChar b_JL_indexOfChar 6 (some .int) :: TT) ({ frames := 0, cells := 0, slots := 0, locals := 0 }) (va_Pc [.ref (k (300 + si)), .int c1, .int fi, .int ti] (PJ k)) (vp_Si (fun r => True)) 0 0 (fun _ => False) := by
  refine Met.ofW (cc := b_JL_indexOfChar) (maxL := 6) (ret := (some .int)) (by decide) rfl ?_
  intro p e s m args below meth c s₁ B hml hv
  obtain ⟨rfl, hE⟩ := hv
  have hx := B.exec
  have hb := B.bytes
  have hr := B.returns
  have ht : ∀ w ∈ TT, w.before _ s = true := fun w hw => atoms_spec (ws := .code y_JL_indexOfChar b_JL_indexOfChar 6 (some .int) :: TT) B.pre w (List.mem_cons_of_mem _ hw)
  have hown : s.vm.findClass "java/lang/StringLatin1" = some m.cls := findClass_of_methodNamed B.named
  have hlocks := B.notSynchronized
  have hS : va_S (fun _ => False) s.heap s.heap [] := va_S.rf
  have hl := lv_entry ([.ref (k (300 + si)), .int c1, .int fi, .int ti]) (n := 6) (Nat.le_of_ble_eq_true rfl)
  rw [lg_entry_eq]
  generalize (lg_sl ([.ref (k (300 + si)), .int c1, .int fi, .int ti]) ++ List.replicate (6 - (lg_sl ([.ref (k (300 + si)), .int c1, .int fi, .int ti])).length) Slot.unset).toArray = ls at hl ⊢
  have hl : lv_has ls 6 [(0, .ref (k (300 + si))), (1, .int c1), (2, .int fi), (3, .int ti)] := hl
  exact bd_JL_indexOfChar_0 (si := si) (c1 := c1) (fi := fi) (ti := ti) hx hb hml hown ht hE h_0 h_1 h_2 h_3 (fun r pc ls hd hp => W.iret hx hb hr (fun t het hW => ⟨_, rfl, hp, het⟩) (fun q h9 => by cases h9) hd) ls hl
set_option maxHeartbeats 4000000 in
set_option maxRecDepth 100000 in
theorem bd_JL_indexOf_0 {p : Program} {l : Launch} {e : Env} {s : State} {m : MethodId} {args : Array Value} {below : List Frame} {meth : Method} {c : Code} {Q : State → Prop} {k : Nat → Nat} (hx : p.tables.exec = Jvm.exec) (hb : c.code = b_JL_indexOf) (hml : c.maxLocals = 4) (hown : s.vm.findClass "java/lang/StringLatin1" = some m.cls) (ht : ∀ w ∈ TT, w.before args s = true) (hE : KE k (fun _ => False) s s.heap) {si : Nat} {c1 fi ti : Int32} (h_0 : si < 116) (h_1 : 0 ≤ Int32.toInt fi) (fin : ∀ (r : Int32) (pc : Nat) (ls : Array Slot), decode b_JL_indexOf pc = .ok (.ireturn, 1) → (True) → W p l e ({ frames := 1, cells := 0, slots := 0, locals := 25 } : Room) s m args below meth c s.heap [] 0 0 Q (F0 m pc ls [.int r])) : ∀ (ls : Array Slot), lv_has ls 4 [(0, .ref (k (300 + si))), (1, .int c1), (2, .int fi), (3, .int ti)] → W p l e ({ frames := 1, cells := 0, slots := 0, locals := 25 } : Room) s m args below meth c s.heap [] 0 0 Q (F0 m 0 ls []) := by
  intro ls hl
  have hS : va_S (fun _ => False) s.heap s.heap [] := va_S.rf
  refine lv_iload_n hx hb d_JL_indexOf_0 rfl (lv_at hl 1 rfl) ?_
  refine vp_callSi (W.runS (As := [.int c1]) (rest := []) ⟨hx, hb, hml, hown, ht⟩ (c_JL_canEncode l k c1 ) (va_cwS 1 ht (g_S k_405 k_406 k_82 k_407) rfl rfl rfl (by decide +kernel) ⟨(Nat.le_of_ble_eq_true rfl), (Nat.le_of_ble_eq_true rfl)⟩) ⟨fb_J, pre_J hE hS⟩ rfl rfl hl.1 rfl (lv_room (Nat.le_of_ble_eq_true rfl)) d_JL_indexOf_1 ⟨(Nat.le_of_ble_eq_true rfl), (Nat.le_of_ble_eq_true rfl)⟩) (fun r_1 hw => ?_)
  have p_2 := hw
  refine lv_if_ne (tgt := 9) hx hb d_JL_indexOf_4 (by decide) (fun c_3 => ?_) (fun c_3 => ?_)
  · refine lv_iload_n hx hb d_JL_indexOf_9 rfl (lv_at hl 2 rfl) ?_
    refine lv_iconst (v := 0) hx hb d_JL_indexOf_10 (by decide) ?_
    refine va_mmax hx hb (by rw [hml]; exact hl.1.symm) hown (ht _ k_408) (ht _ k_409) (ht _ k_85) (ht _ k_410) (Nat.le_of_ble_eq_true rfl) (Nat.le_of_ble_eq_true rfl) (Nat.le_of_ble_eq_true rfl) (Nat.le_of_ble_eq_true rfl) d_JL_indexOf_11 ?_
    refine lv_topi (fun r_4 er_4 => ?_)
    obtain ⟨mar_4, mbr_4, mcr_4⟩ := i_max er_4
    have hc_0 : Int32.toInt 0 = 0 := by decide
    refine lv_istore_n (lv' := [(2, .int r_4), (0, .ref (k (300 + si))), (1, .int c1), (3, .int ti)]) hx hb d_JL_indexOf_14 rfl hl (by decide) rfl (fun ls hl => ?_)
    refine lv_iload_n hx hb d_JL_indexOf_15 rfl (lv_at hl 3 rfl) ?_
    refine lv_aload_n hx hb d_JL_indexOf_16 rfl (lv_at hl 1 rfl) ?_
    obtain ⟨⟨f_5, hf_5⟩, bf_5⟩ := (ke_s hE (i := si) (by omega)).2.2.2
    refine va_tlen (v := (Int32.ofNat (k (500 + si)))) hx hb hf_5 hS rfl d_JL_indexOf_17 ?_
    have ef_5 : Int32.toInt (Int32.ofNat (k (500 + si))) = ((k (500 + si) : Nat) : Int) := nI_toInt (by omega)
    refine va_mmin hx hb (by rw [hml]; exact hl.1.symm) hown (ht _ k_411) (ht _ k_412) (ht _ k_85) (ht _ k_413) (Nat.le_of_ble_eq_true rfl) (Nat.le_of_ble_eq_true rfl) (Nat.le_of_ble_eq_true rfl) (Nat.le_of_ble_eq_true rfl) d_JL_indexOf_18 ?_
    refine lv_topi (fun r_6 er_6 => ?_)
    obtain ⟨mar_6, mbr_6, mcr_6⟩ := i_min er_6
    refine lv_istore_n (lv' := [(3, .int r_6), (2, .int r_4), (0, .ref (k (300 + si))), (1, .int c1)]) hx hb d_JL_indexOf_21 rfl hl (by decide) rfl (fun ls hl => ?_)
    refine lv_iload_n hx hb d_JL_indexOf_22 rfl (lv_at hl 1 rfl) ?_
    refine lv_iload_n hx hb d_JL_indexOf_23 rfl (lv_at hl 0 rfl) ?_
    refine lv_icmp_lt (tgt := 29) hx hb d_JL_indexOf_24 (by decide) (fun c_7 => ?_) (fun c_7 => ?_)
    · have dc_7 := i_lt c_7 rfl rfl
      refine lv_aload_n hx hb d_JL_indexOf_29 rfl (lv_at hl 2 rfl) ?_
      refine lv_iload_n hx hb d_JL_indexOf_30 rfl (lv_at hl 3 rfl) ?_
      refine lv_iload_n hx hb d_JL_indexOf_31 rfl (lv_at hl 1 rfl) ?_
      refine lv_iload_n hx hb d_JL_indexOf_32 rfl (lv_at hl 0 rfl) ?_
      refine vp_callSi (W.runS (As := [.ref (k (300 + si)), .int c1, .int r_4, .int r_6]) (rest := []) ⟨hx, hb, hml, hown, ht⟩ (c_JL_indexOfChar l k si c1 r_4 r_6 (by omega) (by omega) (by omega) (by omega)) (va_cwS 4 ht (g_S k_414 k_415 k_82 k_416) rfl rfl rfl (by decide +kernel) ⟨(Nat.le_of_ble_eq_true rfl), (Nat.le_of_ble_eq_true rfl)⟩) ⟨fb_J, pre_J hE hS⟩ rfl rfl hl.1 rfl (lv_room (Nat.le_of_ble_eq_true rfl)) d_JL_indexOf_33 ⟨(Nat.le_of_ble_eq_true rfl), (Nat.le_of_ble_eq_true rfl)⟩) (fun r_8 hw => ?_)
      exact fin r_8 _ ls d_JL_indexOf_36 trivial
    · have dc_7 := i_nlt c_7 rfl rfl
      refine lv_iconst (v := (-1)) hx hb d_JL_indexOf_27 (by decide) ?_
      have hc_m1 : Int32.toInt (-1) = (-1) := by decide
      exact fin (-1) _ ls d_JL_indexOf_28 trivial
  · refine lv_iconst (v := (-1)) hx hb d_JL_indexOf_7 (by decide) ?_
    have hc_m1 : Int32.toInt (-1) = (-1) := by decide
    exact fin (-1) _ ls d_JL_indexOf_8 trivial
set_option maxHeartbeats 4000000 in
set_option maxRecDepth 100000 in
theorem c_JL_indexOf (l : Launch) (k : Nat → Nat) (si : Nat) (c1 fi ti : Int32) (h_0 : si < 116) (h_1 : 0 ≤ Int32.toInt fi) : Met l y_JL_indexOf (.code y_JL_indexOf b_JL_indexOf 4 (some .int) :: TT) ({ frames := 1, cells := 0, slots := 0, locals := 25 }) (va_Pc [.ref (k (300 + si)), .int c1, .int fi, .int ti] (PJ k)) (vp_Si (fun r => True)) 0 0 (fun _ => False) := by
  refine Met.ofW (cc := b_JL_indexOf) (maxL := 4) (ret := (some .int)) (by decide) rfl ?_
  intro p e s m args below meth c s₁ B hml hv
  obtain ⟨rfl, hE⟩ := hv
  have hx := B.exec
  have hb := B.bytes
  have hr := B.returns
  have ht : ∀ w ∈ TT, w.before _ s = true := fun w hw => atoms_spec (ws := .code y_JL_indexOf b_JL_indexOf 4 (some .int) :: TT) B.pre w (List.mem_cons_of_mem _ hw)
  have hown : s.vm.findClass "java/lang/StringLatin1" = some m.cls := findClass_of_methodNamed B.named
  have hlocks := B.notSynchronized
  have hS : va_S (fun _ => False) s.heap s.heap [] := va_S.rf
  have hl := lv_entry ([.ref (k (300 + si)), .int c1, .int fi, .int ti]) (n := 4) (Nat.le_of_ble_eq_true rfl)
  rw [lg_entry_eq]
  generalize (lg_sl ([.ref (k (300 + si)), .int c1, .int fi, .int ti]) ++ List.replicate (4 - (lg_sl ([.ref (k (300 + si)), .int c1, .int fi, .int ti])).length) Slot.unset).toArray = ls at hl ⊢
  have hl : lv_has ls 4 [(0, .ref (k (300 + si))), (1, .int c1), (2, .int fi), (3, .int ti)] := hl
  exact bd_JL_indexOf_0 (si := si) (c1 := c1) (fi := fi) (ti := ti) hx hb hml hown ht hE h_0 h_1 (fun r pc ls hd hp => W.iret hx hb hr (fun t het hW => ⟨_, rfl, hp, het⟩) (fun q h9 => by cases h9) hd) ls hl
set_option maxHeartbeats 4000000 in
set_option maxRecDepth 100000 in
theorem bd_JS_indexOf1_0 {p : Program} {l : Launch} {e : Env} {s : State} {m : MethodId} {args : Array Value} {below : List Frame} {meth : Method} {c : Code} {Q : State → Prop} {k : Nat → Nat} (hx : p.tables.exec = Jvm.exec) (hb : c.code = b_JS_indexOf1) (hml : c.maxLocals = 3) (hown : s.vm.findClass "java/lang/String" = some m.cls) (ht : ∀ w ∈ TT, w.before args s = true) (hE : KE k (fun _ => False) s s.heap) {si : Nat} {c1 fi : Int32} (h_0 : si < 116) (h_1 : 0 ≤ Int32.toInt fi) (fin : ∀ (r : Int32) (pc : Nat) (ls : Array Slot), decode b_JS_indexOf1 pc = .ok (.ireturn, 1) → (True) → W p l e ({ frames := 2, cells := 0, slots := 0, locals := 48 } : Room) s m args below meth c s.heap [] 0 0 Q (F0 m pc ls [.int r])) : ∀ (ls : Array Slot), lv_has ls 3 [(0, .ref (k (100 + si))), (1, .int c1), (2, .int fi)] → W p l e ({ frames := 2, cells := 0, slots := 0, locals := 48 } : Room) s m args below meth c s.heap [] 0 0 Q (F0 m 0 ls []) := by
  intro ls hl
  have hS : va_S (fun _ => False) s.heap s.heap [] := va_S.rf
  refine lv_aload_n hx hb d_JS_indexOf1_0 rfl (lv_at hl 0 rfl) ?_
  refine vp_callSi (W.runV (As := []) (rest := []) ⟨hx, hb, hml, hown, ht⟩ (c_JS_isLatin1 l k si (by omega)) (cwV 0 ht (g_V k_298 k_299 k_300 k_81 k_301) rfl rfl rfl (by decide +kernel) ⟨(Nat.le_of_ble_eq_true rfl), (Nat.le_of_ble_eq_true rfl)⟩) ⟨fb_J, oo_recv (ke_s hE (i := si) (by omega)).1 hS, pre_J hE hS⟩ rfl rfl hl.1 rfl (lv_room (Nat.le_of_ble_eq_true rfl)) d_JS_indexOf1_1 ⟨(Nat.le_of_ble_eq_true rfl), (Nat.le_of_ble_eq_true rfl)⟩) (fun r_1 hw => ?_)
  obtain ⟨p_2, p_3⟩ := hw
  subst p_2
  refine lv_if_eq (tgt := 23) hx hb d_JS_indexOf1_4 (by decide) (fun cn => absurd cn (by decide)) (fun _ => ?_)
  refine lv_aload_n hx hb d_JS_indexOf1_7 rfl (lv_at hl 0 rfl) ?_
  refine vk_getf hx hb (ke_s hE (i := si) (by omega)).2.2.1 hS hown (ht _ k_867) (fun _ h9 => h9) d_JS_indexOf1_8 ?_
  refine lv_iload_n hx hb d_JS_indexOf1_11 rfl (lv_at hl 1 rfl) ?_
  refine lv_iload_n hx hb d_JS_indexOf1_12 rfl (lv_at hl 2 rfl) ?_
  refine lv_aload_n hx hb d_JS_indexOf1_13 rfl (lv_at hl 0 rfl) ?_
  refine vp_callSi (W.runV (As := []) (rest := [.int fi, .int c1, .ref (k (300 + si))]) ⟨hx, hb, hml, hown, ht⟩ (c_JS_length l k si (by omega)) (cwV 0 ht (g_V k_401 k_285 k_286 k_81 k_287) rfl rfl rfl (by decide +kernel) ⟨(Nat.le_of_ble_eq_true rfl), (Nat.le_of_ble_eq_true rfl)⟩) ⟨fb_J, oo_recv (ke_s hE (i := si) (by omega)).1 hS, pre_J hE hS⟩ rfl rfl hl.1 rfl (lv_room (Nat.le_of_ble_eq_true rfl)) d_JS_indexOf1_14 ⟨(Nat.le_of_ble_eq_true rfl), (Nat.le_of_ble_eq_true rfl)⟩) (fun r_4 hw => ?_)
  obtain ⟨p_5, p_6, p_7⟩ := hw
  refine vp_callSi (W.runS (As := [.ref (k (300 + si)), .int c1, .int fi, .int r_4]) (rest := []) ⟨hx, hb, hml, hown, ht⟩ (c_JL_indexOf l k si c1 fi r_4 (by omega) (by omega)) (va_cwS 4 ht (g_S k_402 k_403 k_82 k_404) rfl rfl rfl (by decide +kernel) ⟨(Nat.le_of_ble_eq_true rfl), (Nat.le_of_ble_eq_true rfl)⟩) ⟨fb_J, pre_J hE hS⟩ rfl rfl hl.1 rfl (lv_room (Nat.le_of_ble_eq_true rfl)) d_JS_indexOf1_17 ⟨(Nat.le_of_ble_eq_true rfl), (Nat.le_of_ble_eq_true rfl)⟩) (fun r_8 hw => ?_)
  refine lv_goto (tgt := 36) hx hb d_JS_indexOf1_20 (by decide) ?_
  exact fin r_8 _ ls d_JS_indexOf1_36 trivial
set_option maxHeartbeats 4000000 in
set_option maxRecDepth 100000 in
theorem c_JS_indexOf1 (l : Launch) (k : Nat → Nat) (si : Nat) (c1 fi : Int32) (h_0 : si < 116) (h_1 : 0 ≤ Int32.toInt fi) : Met l y_JS_indexOf1 (.code y_JS_indexOf1 b_JS_indexOf1 3 (some .int) :: TT) ({ frames := 2, cells := 0, slots := 0, locals := 48 }) (va_Pc [.ref (k (100 + si)), .int c1, .int fi] (PJ k)) (vp_Si (fun r => True)) 0 0 (fun _ => False) := by
  refine Met.ofW (cc := b_JS_indexOf1) (maxL := 3) (ret := (some .int)) (by decide) rfl ?_
  intro p e s m args below meth c s₁ B hml hv
  obtain ⟨rfl, hE⟩ := hv
  have hx := B.exec
  have hb := B.bytes
  have hr := B.returns
  have ht : ∀ w ∈ TT, w.before _ s = true := fun w hw => atoms_spec (ws := .code y_JS_indexOf1 b_JS_indexOf1 3 (some .int) :: TT) B.pre w (List.mem_cons_of_mem _ hw)
  have hown : s.vm.findClass "java/lang/String" = some m.cls := findClass_of_methodNamed B.named
  have hlocks := B.notSynchronized
  have hS : va_S (fun _ => False) s.heap s.heap [] := va_S.rf
  have hl := lv_entry ([.ref (k (100 + si)), .int c1, .int fi]) (n := 3) (Nat.le_of_ble_eq_true rfl)
  rw [lg_entry_eq]
  generalize (lg_sl ([.ref (k (100 + si)), .int c1, .int fi]) ++ List.replicate (3 - (lg_sl ([.ref (k (100 + si)), .int c1, .int fi])).length) Slot.unset).toArray = ls at hl ⊢
  have hl : lv_has ls 3 [(0, .ref (k (100 + si))), (1, .int c1), (2, .int fi)] := hl
  exact bd_JS_indexOf1_0 (si := si) (c1 := c1) (fi := fi) hx hb hml hown ht hE h_0 h_1 (fun r pc ls hd hp => W.iret hx hb hr (fun t het hW => ⟨_, rfl, hp, het⟩) (fun q h9 => by cases h9) hd) ls hl
set_option maxHeartbeats 4000000 in
set_option maxRecDepth 100000 in
theorem bd_JS_indexOf0_0 {p : Program} {l : Launch} {e : Env} {s : State} {m : MethodId} {args : Array Value} {below : List Frame} {meth : Method} {c : Code} {Q : State → Prop} {k : Nat → Nat} (hx : p.tables.exec = Jvm.exec) (hb : c.code = b_JS_indexOf0) (hml : c.maxLocals = 2) (hown : s.vm.findClass "java/lang/String" = some m.cls) (ht : ∀ w ∈ TT, w.before args s = true) (hE : KE k (fun _ => False) s s.heap) {si : Nat} {c1 : Int32} (h_0 : si < 116) (fin : ∀ (r : Int32) (pc : Nat) (ls : Array Slot), decode b_JS_indexOf0 pc = .ok (.ireturn, 1) → (True) → W p l e ({ frames := 3, cells := 0, slots := 0, locals := 70 } : Room) s m args below meth c s.heap [] 0 0 Q (F0 m pc ls [.int r])) : ∀ (ls : Array Slot), lv_has ls 2 [(0, .ref (k (100 + si))), (1, .int c1)] → W p l e ({ frames := 3, cells := 0, slots := 0, locals := 70 } : Room) s m args below meth c s.heap [] 0 0 Q (F0 m 0 ls []) := by
  intro ls hl
  have hS : va_S (fun _ => False) s.heap s.heap [] := va_S.rf
  refine lv_aload_n hx hb d_JS_indexOf0_0 rfl (lv_at hl 0 rfl) ?_
  refine lv_iload_n hx hb d_JS_indexOf0_1 rfl (lv_at hl 1 rfl) ?_
  refine lv_iconst (v := 0) hx hb d_JS_indexOf0_2 (by decide) ?_
  have hc_0 : Int32.toInt 0 = 0 := by decide
  refine vp_callSi (W.runV (As := [.int c1, .int 0]) (rest := []) ⟨hx, hb, hml, hown, ht⟩ (c_JS_indexOf1 l k si c1 0 (by omega) (by omega)) (cwV 2 ht (g_V k_397 k_398 k_399 k_81 k_400) rfl rfl rfl (by decide +kernel) ⟨(Nat.le_of_ble_eq_true rfl), (Nat.le_of_ble_eq_true rfl)⟩) ⟨fb_J, oo_recv (ke_s hE (i := si) (by omega)).1 hS, pre_J hE hS⟩ rfl rfl hl.1 rfl (lv_room (Nat.le_of_ble_eq_true rfl)) d_JS_indexOf0_3 ⟨(Nat.le_of_ble_eq_true rfl), (Nat.le_of_ble_eq_true rfl)⟩) (fun r_1 hw => ?_)
  exact fin r_1 _ ls d_JS_indexOf0_6 trivial
set_option maxHeartbeats 4000000 in
set_option maxRecDepth 100000 in
theorem c_JS_indexOf0 (l : Launch) (k : Nat → Nat) (si : Nat) (c1 : Int32) (h_0 : si < 116) : Met l y_JS_indexOf0 (.code y_JS_indexOf0 b_JS_indexOf0 2 (some .int) :: TT) ({ frames := 3, cells := 0, slots := 0, locals := 70 }) (va_Pc [.ref (k (100 + si)), .int c1] (PJ k)) (vp_Si (fun r => True)) 0 0 (fun _ => False) := by
  refine Met.ofW (cc := b_JS_indexOf0) (maxL := 2) (ret := (some .int)) (by decide) rfl ?_
  intro p e s m args below meth c s₁ B hml hv
  obtain ⟨rfl, hE⟩ := hv
  have hx := B.exec
  have hb := B.bytes
  have hr := B.returns
  have ht : ∀ w ∈ TT, w.before _ s = true := fun w hw => atoms_spec (ws := .code y_JS_indexOf0 b_JS_indexOf0 2 (some .int) :: TT) B.pre w (List.mem_cons_of_mem _ hw)
  have hown : s.vm.findClass "java/lang/String" = some m.cls := findClass_of_methodNamed B.named
  have hlocks := B.notSynchronized
  have hS : va_S (fun _ => False) s.heap s.heap [] := va_S.rf
  have hl := lv_entry ([.ref (k (100 + si)), .int c1]) (n := 2) (Nat.le_of_ble_eq_true rfl)
  rw [lg_entry_eq]
  generalize (lg_sl ([.ref (k (100 + si)), .int c1]) ++ List.replicate (2 - (lg_sl ([.ref (k (100 + si)), .int c1])).length) Slot.unset).toArray = ls at hl ⊢
  have hl : lv_has ls 2 [(0, .ref (k (100 + si))), (1, .int c1)] := hl
  exact bd_JS_indexOf0_0 (si := si) (c1 := c1) hx hb hml hown ht hE h_0 (fun r pc ls hd hp => W.iret hx hb hr (fun t het hW => ⟨_, rfl, hp, het⟩) (fun q h9 => by cases h9) hd) ls hl
set_option maxHeartbeats 4000000 in
set_option maxRecDepth 100000 in
theorem bd_S_isLetter_0 {p : Program} {l : Launch} {e : Env} {s : State} {m : MethodId} {args : Array Value} {below : List Frame} {meth : Method} {c : Code} {Q : State → Prop} {k : Nat → Nat} (hx : p.tables.exec = Jvm.exec) (hb : c.code = b_S_isLetter) (hml : c.maxLocals = 1) (hown : s.vm.findClass "SieveDesk" = some m.cls) (ht : ∀ w ∈ TT, w.before args s = true) (hE : KE k (fun _ => False) s s.heap) {b : Int32}  (fin : ∀ (r : Int32) (pc : Nat) (ls : Array Slot), decode b_S_isLetter pc = .ok (.ireturn, 1) → narrow .boolean (.int r) = .int r → ((Int32.toInt r = 0 ∨ 0 ≤ Int32.toInt b) ∧ narrow .boolean (.int r) = .int r) → W p l e ({ frames := 0, cells := 0, slots := 0, locals := 0 } : Room) s m args below meth c s.heap [] 0 0 Q (F0 m pc ls [.int r])) : ∀ (ls : Array Slot), lv_has ls 1 [(0, .int b)] → W p l e ({ frames := 0, cells := 0, slots := 0, locals := 0 } : Room) s m args below meth c s.heap [] 0 0 Q (F0 m 0 ls []) := by
  intro ls hl
  have hS : va_S (fun _ => False) s.heap s.heap [] := va_S.rf
  refine lv_iload_n hx hb d_S_isLetter_0 rfl (lv_at hl 0 rfl) ?_
  refine lv_bipush (v := 97) hx hb d_S_isLetter_1 (by decide) ?_
  refine lv_icmp_lt (tgt := 12) hx hb d_S_isLetter_3 (by decide) (fun c_1 => ?_) (fun c_1 => ?_)
  · have dc_1 := i_lt c_1 rfl (show Int32.toInt 97 = 97 by decide)
    refine lv_iload_n hx hb d_S_isLetter_12 rfl (lv_at hl 0 rfl) ?_
    refine lv_bipush (v := 65) hx hb d_S_isLetter_13 (by decide) ?_
    refine lv_icmp_lt (tgt := 28) hx hb d_S_isLetter_15 (by decide) (fun c_2 => ?_) (fun c_2 => ?_)
    · have dc_2 := i_lt c_2 rfl (show Int32.toInt 65 = 65 by decide)
      refine lv_iconst (v := 0) hx hb d_S_isLetter_28 (by decide) ?_
      have hc_0 : Int32.toInt 0 = 0 := by decide
      exact fin 0 _ ls d_S_isLetter_29 rfl ⟨(by (try dsimp only); omega), rfl⟩
    · have dc_2 := i_nlt c_2 rfl (show Int32.toInt 65 = 65 by decide)
      refine lv_iload_n hx hb d_S_isLetter_18 rfl (lv_at hl 0 rfl) ?_
      refine lv_bipush (v := 90) hx hb d_S_isLetter_19 (by decide) ?_
      refine lv_icmp_gt (tgt := 28) hx hb d_S_isLetter_21 (by decide) (fun c_3 => ?_) (fun c_3 => ?_)
      · have dc_3 := i_lt c_3 (show Int32.toInt 90 = 90 by decide) rfl
        refine lv_iconst (v := 0) hx hb d_S_isLetter_28 (by decide) ?_
        have hc_0 : Int32.toInt 0 = 0 := by decide
        exact fin 0 _ ls d_S_isLetter_29 rfl ⟨(by (try dsimp only); omega), rfl⟩
      · have dc_3 := i_nlt c_3 (show Int32.toInt 90 = 90 by decide) rfl
        refine lv_iconst (v := 1) hx hb d_S_isLetter_24 (by decide) ?_
        refine lv_goto (tgt := 29) hx hb d_S_isLetter_25 (by decide) ?_
        have hc_1 : Int32.toInt 1 = 1 := by decide
        exact fin 1 _ ls d_S_isLetter_29 rfl ⟨(by (try dsimp only); omega), rfl⟩
  · have dc_1 := i_nlt c_1 rfl (show Int32.toInt 97 = 97 by decide)
    refine lv_iload_n hx hb d_S_isLetter_6 rfl (lv_at hl 0 rfl) ?_
    refine lv_bipush (v := 122) hx hb d_S_isLetter_7 (by decide) ?_
    refine lv_icmp_le (tgt := 24) hx hb d_S_isLetter_9 (by decide) (fun c_4 => ?_) (fun c_4 => ?_)
    · have dc_4 := i_le c_4 rfl (show Int32.toInt 122 = 122 by decide)
      refine lv_iconst (v := 1) hx hb d_S_isLetter_24 (by decide) ?_
      refine lv_goto (tgt := 29) hx hb d_S_isLetter_25 (by decide) ?_
      have hc_1 : Int32.toInt 1 = 1 := by decide
      exact fin 1 _ ls d_S_isLetter_29 rfl ⟨(by (try dsimp only); omega), rfl⟩
    · have dc_4 := i_nle c_4 rfl (show Int32.toInt 122 = 122 by decide)
      refine lv_iload_n hx hb d_S_isLetter_12 rfl (lv_at hl 0 rfl) ?_
      refine lv_bipush (v := 65) hx hb d_S_isLetter_13 (by decide) ?_
      refine lv_icmp_lt (tgt := 28) hx hb d_S_isLetter_15 (by decide) (fun c_5 => ?_) (fun c_5 => ?_)
      · have dc_5 := i_lt c_5 rfl (show Int32.toInt 65 = 65 by decide)
        refine lv_iconst (v := 0) hx hb d_S_isLetter_28 (by decide) ?_
        have hc_0 : Int32.toInt 0 = 0 := by decide
        exact fin 0 _ ls d_S_isLetter_29 rfl ⟨(by (try dsimp only); omega), rfl⟩
      · have dc_5 := i_nlt c_5 rfl (show Int32.toInt 65 = 65 by decide)
        refine lv_iload_n hx hb d_S_isLetter_18 rfl (lv_at hl 0 rfl) ?_
        refine lv_bipush (v := 90) hx hb d_S_isLetter_19 (by decide) ?_
        refine lv_icmp_gt (tgt := 28) hx hb d_S_isLetter_21 (by decide) (fun c_6 => ?_) (fun c_6 => ?_)
        · have dc_6 := i_lt c_6 (show Int32.toInt 90 = 90 by decide) rfl
          refine lv_iconst (v := 0) hx hb d_S_isLetter_28 (by decide) ?_
          have hc_0 : Int32.toInt 0 = 0 := by decide
          exact fin 0 _ ls d_S_isLetter_29 rfl ⟨(by (try dsimp only); omega), rfl⟩
        · have dc_6 := i_nlt c_6 (show Int32.toInt 90 = 90 by decide) rfl
          refine lv_iconst (v := 1) hx hb d_S_isLetter_24 (by decide) ?_
          refine lv_goto (tgt := 29) hx hb d_S_isLetter_25 (by decide) ?_
          have hc_1 : Int32.toInt 1 = 1 := by decide
          exact fin 1 _ ls d_S_isLetter_29 rfl ⟨(by (try dsimp only); omega), rfl⟩
set_option maxHeartbeats 4000000 in
set_option maxRecDepth 100000 in
theorem c_S_isLetter (l : Launch) (k : Nat → Nat) (b : Int32)  : Met l y_S_isLetter (.code y_S_isLetter b_S_isLetter 1 (some .boolean) :: TT) ({ frames := 0, cells := 0, slots := 0, locals := 0 }) (va_Pc [.int b] (PJ k)) (vp_Si (fun r => (Int32.toInt r = 0 ∨ 0 ≤ Int32.toInt b) ∧ narrow .boolean (.int r) = .int r)) 0 0 (fun _ => False) := by
  refine Met.ofW (cc := b_S_isLetter) (maxL := 1) (ret := (some .boolean)) (by decide) rfl ?_
  intro p e s m args below meth c s₁ B hml hv
  obtain ⟨rfl, hE⟩ := hv
  have hx := B.exec
  have hb := B.bytes
  have hr := B.returns
  have ht : ∀ w ∈ TT, w.before _ s = true := fun w hw => atoms_spec (ws := .code y_S_isLetter b_S_isLetter 1 (some .boolean) :: TT) B.pre w (List.mem_cons_of_mem _ hw)
  have hown : s.vm.findClass "SieveDesk" = some m.cls := findClass_of_methodNamed B.named
  have hlocks := B.notSynchronized
  have hS : va_S (fun _ => False) s.heap s.heap [] := va_S.rf
  have hl := lv_entry ([.int b]) (n := 1) (Nat.le_of_ble_eq_true rfl)
  rw [lg_entry_eq]
  generalize (lg_sl ([.int b]) ++ List.replicate (1 - (lg_sl ([.int b])).length) Slot.unset).toArray = ls at hl ⊢
  have hl : lv_has ls 1 [(0, .int b)] := hl
  exact bd_S_isLetter_0 (b := b) hx hb hml hown ht hE  (fun r pc ls hd hn hp => W.zret hx hb hr hn (fun t het hW => ⟨_, rfl, hp, het⟩) (fun q h9 => by cases h9) hd) ls hl
set_option maxHeartbeats 4000000 in
set_option maxRecDepth 100000 in
theorem bd_S_isDigit_0 {p : Program} {l : Launch} {e : Env} {s : State} {m : MethodId} {args : Array Value} {below : List Frame} {meth : Method} {c : Code} {Q : State → Prop} {k : Nat → Nat} (hx : p.tables.exec = Jvm.exec) (hb : c.code = b_S_isDigit) (hml : c.maxLocals = 1) (hown : s.vm.findClass "SieveDesk" = some m.cls) (ht : ∀ w ∈ TT, w.before args s = true) (hE : KE k (fun _ => False) s s.heap) {b : Int32}  (fin : ∀ (r : Int32) (pc : Nat) (ls : Array Slot), decode b_S_isDigit pc = .ok (.ireturn, 1) → narrow .boolean (.int r) = .int r → ((Int32.toInt r = 0 ∨ 0 ≤ Int32.toInt b) ∧ narrow .boolean (.int r) = .int r) → W p l e ({ frames := 0, cells := 0, slots := 0, locals := 0 } : Room) s m args below meth c s.heap [] 0 0 Q (F0 m pc ls [.int r])) : ∀ (ls : Array Slot), lv_has ls 1 [(0, .int b)] → W p l e ({ frames := 0, cells := 0, slots := 0, locals := 0 } : Room) s m args below meth c s.heap [] 0 0 Q (F0 m 0 ls []) := by
  intro ls hl
  have hS : va_S (fun _ => False) s.heap s.heap [] := va_S.rf
  refine lv_iload_n hx hb d_S_isDigit_0 rfl (lv_at hl 0 rfl) ?_
  refine lv_bipush (v := 48) hx hb d_S_isDigit_1 (by decide) ?_
  refine lv_icmp_lt (tgt := 16) hx hb d_S_isDigit_3 (by decide) (fun c_1 => ?_) (fun c_1 => ?_)
  · have dc_1 := i_lt c_1 rfl (show Int32.toInt 48 = 48 by decide)
    refine lv_iconst (v := 0) hx hb d_S_isDigit_16 (by decide) ?_
    have hc_0 : Int32.toInt 0 = 0 := by decide
    exact fin 0 _ ls d_S_isDigit_17 rfl ⟨(by (try dsimp only); omega), rfl⟩
  · have dc_1 := i_nlt c_1 rfl (show Int32.toInt 48 = 48 by decide)
    refine lv_iload_n hx hb d_S_isDigit_6 rfl (lv_at hl 0 rfl) ?_
    refine lv_bipush (v := 57) hx hb d_S_isDigit_7 (by decide) ?_
    refine lv_icmp_gt (tgt := 16) hx hb d_S_isDigit_9 (by decide) (fun c_2 => ?_) (fun c_2 => ?_)
    · have dc_2 := i_lt c_2 (show Int32.toInt 57 = 57 by decide) rfl
      refine lv_iconst (v := 0) hx hb d_S_isDigit_16 (by decide) ?_
      have hc_0 : Int32.toInt 0 = 0 := by decide
      exact fin 0 _ ls d_S_isDigit_17 rfl ⟨(by (try dsimp only); omega), rfl⟩
    · have dc_2 := i_nlt c_2 (show Int32.toInt 57 = 57 by decide) rfl
      refine lv_iconst (v := 1) hx hb d_S_isDigit_12 (by decide) ?_
      refine lv_goto (tgt := 17) hx hb d_S_isDigit_13 (by decide) ?_
      have hc_1 : Int32.toInt 1 = 1 := by decide
      exact fin 1 _ ls d_S_isDigit_17 rfl ⟨(by (try dsimp only); omega), rfl⟩
set_option maxHeartbeats 4000000 in
set_option maxRecDepth 100000 in
theorem c_S_isDigit (l : Launch) (k : Nat → Nat) (b : Int32)  : Met l y_S_isDigit (.code y_S_isDigit b_S_isDigit 1 (some .boolean) :: TT) ({ frames := 0, cells := 0, slots := 0, locals := 0 }) (va_Pc [.int b] (PJ k)) (vp_Si (fun r => (Int32.toInt r = 0 ∨ 0 ≤ Int32.toInt b) ∧ narrow .boolean (.int r) = .int r)) 0 0 (fun _ => False) := by
  refine Met.ofW (cc := b_S_isDigit) (maxL := 1) (ret := (some .boolean)) (by decide) rfl ?_
  intro p e s m args below meth c s₁ B hml hv
  obtain ⟨rfl, hE⟩ := hv
  have hx := B.exec
  have hb := B.bytes
  have hr := B.returns
  have ht : ∀ w ∈ TT, w.before _ s = true := fun w hw => atoms_spec (ws := .code y_S_isDigit b_S_isDigit 1 (some .boolean) :: TT) B.pre w (List.mem_cons_of_mem _ hw)
  have hown : s.vm.findClass "SieveDesk" = some m.cls := findClass_of_methodNamed B.named
  have hlocks := B.notSynchronized
  have hS : va_S (fun _ => False) s.heap s.heap [] := va_S.rf
  have hl := lv_entry ([.int b]) (n := 1) (Nat.le_of_ble_eq_true rfl)
  rw [lg_entry_eq]
  generalize (lg_sl ([.int b]) ++ List.replicate (1 - (lg_sl ([.int b])).length) Slot.unset).toArray = ls at hl ⊢
  have hl : lv_has ls 1 [(0, .int b)] := hl
  exact bd_S_isDigit_0 (b := b) hx hb hml hown ht hE  (fun r pc ls hd hn hp => W.zret hx hb hr hn (fun t het hW => ⟨_, rfl, hp, het⟩) (fun q h9 => by cases h9) hd) ls hl
set_option maxHeartbeats 4000000 in
set_option maxRecDepth 100000 in
theorem bd_S_startsWord_0 {p : Program} {l : Launch} {e : Env} {s : State} {m : MethodId} {args : Array Value} {below : List Frame} {meth : Method} {c : Code} {Q : State → Prop} {k : Nat → Nat} (hx : p.tables.exec = Jvm.exec) (hb : c.code = b_S_startsWord) (hml : c.maxLocals = 1) (hown : s.vm.findClass "SieveDesk" = some m.cls) (ht : ∀ w ∈ TT, w.before args s = true) (hE : KE k (fun _ => False) s s.heap) {b : Int32}  (fin : ∀ (r : Int32) (pc : Nat) (ls : Array Slot), decode b_S_startsWord pc = .ok (.ireturn, 1) → narrow .boolean (.int r) = .int r → ((Int32.toInt r = 0 ∨ 0 ≤ Int32.toInt b) ∧ narrow .boolean (.int r) = .int r) → W p l e ({ frames := 1, cells := 0, slots := 0, locals := 20 } : Room) s m args below meth c s.heap [] 0 0 Q (F0 m pc ls [.int r])) : ∀ (ls : Array Slot), lv_has ls 1 [(0, .int b)] → W p l e ({ frames := 1, cells := 0, slots := 0, locals := 20 } : Room) s m args below meth c s.heap [] 0 0 Q (F0 m 0 ls []) := by
  intro ls hl
  have hS : va_S (fun _ => False) s.heap s.heap [] := va_S.rf
  refine lv_iload_n hx hb d_S_startsWord_0 rfl (lv_at hl 0 rfl) ?_
  refine lv_bipush (v := 95) hx hb d_S_startsWord_1 (by decide) ?_
  refine lv_icmp_eq (tgt := 13) hx hb d_S_startsWord_3 (by decide) (fun c_1 => ?_) (fun c_1 => ?_)
  · have dc_1 := i_eq c_1 rfl (show Int32.toInt 95 = 95 by decide)
    refine lv_iconst (v := 1) hx hb d_S_startsWord_13 (by decide) ?_
    refine lv_goto (tgt := 18) hx hb d_S_startsWord_14 (by decide) ?_
    have hc_1 : Int32.toInt 1 = 1 := by decide
    exact fin 1 _ ls d_S_startsWord_18 rfl ⟨(by (try dsimp only); omega), rfl⟩
  · have dc_1 := i_ne c_1 rfl (show Int32.toInt 95 = 95 by decide)
    refine lv_iload_n hx hb d_S_startsWord_6 rfl (lv_at hl 0 rfl) ?_
    refine vp_callSi (W.runS (As := [.int b]) (rest := []) ⟨hx, hb, hml, hown, ht⟩ (c_S_isLetter l k b ) (va_cwS 1 ht (g_S k_263 k_264 k_74 k_265) rfl rfl rfl (by decide +kernel) ⟨(Nat.le_of_ble_eq_true rfl), (Nat.le_of_ble_eq_true rfl)⟩) ⟨fb_J, pre_J hE hS⟩ rfl rfl hl.1 rfl (lv_room (Nat.le_of_ble_eq_true rfl)) d_S_startsWord_7 ⟨(Nat.le_of_ble_eq_true rfl), (Nat.le_of_ble_eq_true rfl)⟩) (fun r_2 hw => ?_)
    obtain ⟨p_3, p_4⟩ := hw
    refine lv_if_eq (tgt := 17) hx hb d_S_startsWord_10 (by decide) (fun c_5 => ?_) (fun c_5 => ?_)
    · have dc_5 := i_eq c_5 rfl (show Int32.toInt 0 = 0 by decide)
      refine lv_iconst (v := 0) hx hb d_S_startsWord_17 (by decide) ?_
      have hc_0 : Int32.toInt 0 = 0 := by decide
      exact fin 0 _ ls d_S_startsWord_18 rfl ⟨(by (try dsimp only); omega), rfl⟩
    · have dc_5 := i_ne c_5 rfl (show Int32.toInt 0 = 0 by decide)
      refine lv_iconst (v := 1) hx hb d_S_startsWord_13 (by decide) ?_
      refine lv_goto (tgt := 18) hx hb d_S_startsWord_14 (by decide) ?_
      have hc_1 : Int32.toInt 1 = 1 := by decide
      exact fin 1 _ ls d_S_startsWord_18 rfl ⟨(by (try dsimp only); omega), rfl⟩
set_option maxHeartbeats 4000000 in
set_option maxRecDepth 100000 in
theorem c_S_startsWord (l : Launch) (k : Nat → Nat) (b : Int32)  : Met l y_S_startsWord (.code y_S_startsWord b_S_startsWord 1 (some .boolean) :: TT) ({ frames := 1, cells := 0, slots := 0, locals := 20 }) (va_Pc [.int b] (PJ k)) (vp_Si (fun r => (Int32.toInt r = 0 ∨ 0 ≤ Int32.toInt b) ∧ narrow .boolean (.int r) = .int r)) 0 0 (fun _ => False) := by
  refine Met.ofW (cc := b_S_startsWord) (maxL := 1) (ret := (some .boolean)) (by decide) rfl ?_
  intro p e s m args below meth c s₁ B hml hv
  obtain ⟨rfl, hE⟩ := hv
  have hx := B.exec
  have hb := B.bytes
  have hr := B.returns
  have ht : ∀ w ∈ TT, w.before _ s = true := fun w hw => atoms_spec (ws := .code y_S_startsWord b_S_startsWord 1 (some .boolean) :: TT) B.pre w (List.mem_cons_of_mem _ hw)
  have hown : s.vm.findClass "SieveDesk" = some m.cls := findClass_of_methodNamed B.named
  have hlocks := B.notSynchronized
  have hS : va_S (fun _ => False) s.heap s.heap [] := va_S.rf
  have hl := lv_entry ([.int b]) (n := 1) (Nat.le_of_ble_eq_true rfl)
  rw [lg_entry_eq]
  generalize (lg_sl ([.int b]) ++ List.replicate (1 - (lg_sl ([.int b])).length) Slot.unset).toArray = ls at hl ⊢
  have hl : lv_has ls 1 [(0, .int b)] := hl
  exact bd_S_startsWord_0 (b := b) hx hb hml hown ht hE  (fun r pc ls hd hn hp => W.zret hx hb hr hn (fun t het hW => ⟨_, rfl, hp, het⟩) (fun q h9 => by cases h9) hd) ls hl
set_option maxHeartbeats 4000000 in
set_option maxRecDepth 100000 in
theorem bd_S_goesOnWord_0 {p : Program} {l : Launch} {e : Env} {s : State} {m : MethodId} {args : Array Value} {below : List Frame} {meth : Method} {c : Code} {Q : State → Prop} {k : Nat → Nat} (hx : p.tables.exec = Jvm.exec) (hb : c.code = b_S_goesOnWord) (hml : c.maxLocals = 1) (hown : s.vm.findClass "SieveDesk" = some m.cls) (ht : ∀ w ∈ TT, w.before args s = true) (hE : KE k (fun _ => False) s s.heap) {b : Int32}  (fin : ∀ (r : Int32) (pc : Nat) (ls : Array Slot), decode b_S_goesOnWord pc = .ok (.ireturn, 1) → narrow .boolean (.int r) = .int r → ((Int32.toInt r = 0 ∨ 0 ≤ Int32.toInt b) ∧ narrow .boolean (.int r) = .int r) → W p l e ({ frames := 1, cells := 0, slots := 0, locals := 20 } : Room) s m args below meth c s.heap [] 0 0 Q (F0 m pc ls [.int r])) : ∀ (ls : Array Slot), lv_has ls 1 [(0, .int b)] → W p l e ({ frames := 1, cells := 0, slots := 0, locals := 20 } : Room) s m args below meth c s.heap [] 0 0 Q (F0 m 0 ls []) := by
  intro ls hl
  have hS : va_S (fun _ => False) s.heap s.heap [] := va_S.rf
  refine lv_iload_n hx hb d_S_goesOnWord_0 rfl (lv_at hl 0 rfl) ?_
  refine lv_bipush (v := 95) hx hb d_S_goesOnWord_1 (by decide) ?_
  refine lv_icmp_eq (tgt := 20) hx hb d_S_goesOnWord_3 (by decide) (fun c_1 => ?_) (fun c_1 => ?_)
  · have dc_1 := i_eq c_1 rfl (show Int32.toInt 95 = 95 by decide)
    refine lv_iconst (v := 1) hx hb d_S_goesOnWord_20 (by decide) ?_
    refine lv_goto (tgt := 25) hx hb d_S_goesOnWord_21 (by decide) ?_
    have hc_1 : Int32.toInt 1 = 1 := by decide
    exact fin 1 _ ls d_S_goesOnWord_25 rfl ⟨(by (try dsimp only); omega), rfl⟩
  · have dc_1 := i_ne c_1 rfl (show Int32.toInt 95 = 95 by decide)
    refine lv_iload_n hx hb d_S_goesOnWord_6 rfl (lv_at hl 0 rfl) ?_
    refine vp_callSi (W.runS (As := [.int b]) (rest := []) ⟨hx, hb, hml, hown, ht⟩ (c_S_isLetter l k b ) (va_cwS 1 ht (g_S k_263 k_264 k_74 k_265) rfl rfl rfl (by decide +kernel) ⟨(Nat.le_of_ble_eq_true rfl), (Nat.le_of_ble_eq_true rfl)⟩) ⟨fb_J, pre_J hE hS⟩ rfl rfl hl.1 rfl (lv_room (Nat.le_of_ble_eq_true rfl)) d_S_goesOnWord_7 ⟨(Nat.le_of_ble_eq_true rfl), (Nat.le_of_ble_eq_true rfl)⟩) (fun r_2 hw => ?_)
    obtain ⟨p_3, p_4⟩ := hw
    refine lv_if_ne (tgt := 20) hx hb d_S_goesOnWord_10 (by decide) (fun c_5 => ?_) (fun c_5 => ?_)
    · have dc_5 := i_ne c_5 rfl (show Int32.toInt 0 = 0 by decide)
      refine lv_iconst (v := 1) hx hb d_S_goesOnWord_20 (by decide) ?_
      refine lv_goto (tgt := 25) hx hb d_S_goesOnWord_21 (by decide) ?_
      have hc_1 : Int32.toInt 1 = 1 := by decide
      exact fin 1 _ ls d_S_goesOnWord_25 rfl ⟨(by (try dsimp only); omega), rfl⟩
    · have dc_5 := i_eq c_5 rfl (show Int32.toInt 0 = 0 by decide)
      refine lv_iload_n hx hb d_S_goesOnWord_13 rfl (lv_at hl 0 rfl) ?_
      refine vp_callSi (W.runS (As := [.int b]) (rest := []) ⟨hx, hb, hml, hown, ht⟩ (c_S_isDigit l k b ) (va_cwS 1 ht (g_S k_277 k_278 k_74 k_279) rfl rfl rfl (by decide +kernel) ⟨(Nat.le_of_ble_eq_true rfl), (Nat.le_of_ble_eq_true rfl)⟩) ⟨fb_J, pre_J hE hS⟩ rfl rfl hl.1 rfl (lv_room (Nat.le_of_ble_eq_true rfl)) d_S_goesOnWord_14 ⟨(Nat.le_of_ble_eq_true rfl), (Nat.le_of_ble_eq_true rfl)⟩) (fun r_6 hw => ?_)
      obtain ⟨p_7, p_8⟩ := hw
      refine lv_if_eq (tgt := 24) hx hb d_S_goesOnWord_17 (by decide) (fun c_9 => ?_) (fun c_9 => ?_)
      · have dc_9 := i_eq c_9 rfl (show Int32.toInt 0 = 0 by decide)
        refine lv_iconst (v := 0) hx hb d_S_goesOnWord_24 (by decide) ?_
        have hc_0 : Int32.toInt 0 = 0 := by decide
        exact fin 0 _ ls d_S_goesOnWord_25 rfl ⟨(by (try dsimp only); omega), rfl⟩
      · have dc_9 := i_ne c_9 rfl (show Int32.toInt 0 = 0 by decide)
        refine lv_iconst (v := 1) hx hb d_S_goesOnWord_20 (by decide) ?_
        refine lv_goto (tgt := 25) hx hb d_S_goesOnWord_21 (by decide) ?_
        have hc_1 : Int32.toInt 1 = 1 := by decide
        exact fin 1 _ ls d_S_goesOnWord_25 rfl ⟨(by (try dsimp only); omega), rfl⟩
set_option maxHeartbeats 4000000 in
set_option maxRecDepth 100000 in
theorem c_S_goesOnWord (l : Launch) (k : Nat → Nat) (b : Int32)  : Met l y_S_goesOnWord (.code y_S_goesOnWord b_S_goesOnWord 1 (some .boolean) :: TT) ({ frames := 1, cells := 0, slots := 0, locals := 20 }) (va_Pc [.int b] (PJ k)) (vp_Si (fun r => (Int32.toInt r = 0 ∨ 0 ≤ Int32.toInt b) ∧ narrow .boolean (.int r) = .int r)) 0 0 (fun _ => False) := by
  refine Met.ofW (cc := b_S_goesOnWord) (maxL := 1) (ret := (some .boolean)) (by decide) rfl ?_
  intro p e s m args below meth c s₁ B hml hv
  obtain ⟨rfl, hE⟩ := hv
  have hx := B.exec
  have hb := B.bytes
  have hr := B.returns
  have ht : ∀ w ∈ TT, w.before _ s = true := fun w hw => atoms_spec (ws := .code y_S_goesOnWord b_S_goesOnWord 1 (some .boolean) :: TT) B.pre w (List.mem_cons_of_mem _ hw)
  have hown : s.vm.findClass "SieveDesk" = some m.cls := findClass_of_methodNamed B.named
  have hlocks := B.notSynchronized
  have hS : va_S (fun _ => False) s.heap s.heap [] := va_S.rf
  have hl := lv_entry ([.int b]) (n := 1) (Nat.le_of_ble_eq_true rfl)
  rw [lg_entry_eq]
  generalize (lg_sl ([.int b]) ++ List.replicate (1 - (lg_sl ([.int b])).length) Slot.unset).toArray = ls at hl ⊢
  have hl : lv_has ls 1 [(0, .int b)] := hl
  exact bd_S_goesOnWord_0 (b := b) hx hb hml hown ht hE  (fun r pc ls hd hn hp => W.zret hx hb hr hn (fun t het hW => ⟨_, rfl, hp, het⟩) (fun q h9 => by cases h9) hd) ls hl
set_option maxHeartbeats 4000000 in
set_option maxRecDepth 100000 in
theorem bd_T_shiftOf_0 {p : Program} {l : Launch} {e : Env} {s : State} {m : MethodId} {args : Array Value} {below : List Frame} {meth : Method} {c : Code} {Q : State → Prop} {k : Nat → Nat} (hx : p.tables.exec = Jvm.exec) (hb : c.code = b_T_shiftOf) (hml : c.maxLocals = 1) (hown : s.vm.findClass "SieveDesk$Tokens" = some m.cls) (ht : ∀ w ∈ TT, w.before args s = true) (hE : KE k (fun _ => False) s s.heap) {b : Int32}  (fin : ∀ (r : Int32) (pc : Nat) (ls : Array Slot), decode b_T_shiftOf pc = .ok (.ireturn, 1) → ((Int32.toInt r = 0 ∨ 0 ≤ Int32.toInt b)) → W p l e ({ frames := 0, cells := 0, slots := 0, locals := 0 } : Room) s m args below meth c s.heap [] 0 0 Q (F0 m pc ls [.int r])) : ∀ (ls : Array Slot), lv_has ls 1 [(0, .int b)] → W p l e ({ frames := 0, cells := 0, slots := 0, locals := 0 } : Room) s m args below meth c s.heap [] 0 0 Q (F0 m 0 ls []) := by
  intro ls hl
  have hS : va_S (fun _ => False) s.heap s.heap [] := va_S.rf
  refine lv_iload_n hx hb d_T_shiftOf_0 rfl (lv_at hl 0 rfl) ?_
  obtain ⟨off, ho, hm⟩ : ∃ off, Op.lookupswitch.offset [(71, 65), (75, 59), (77, 62), (103, 65), (107, 59), (109, 62)] 68 (Int32.toInt b) = off ∧ off ∈ [59, 62, 65, 68] := ⟨_, rfl, lsw (by decide) _⟩
  simp only [List.mem_cons, List.not_mem_nil, or_false] at hm
  rcases hm with rfl | rfl | rfl | rfl
  · have hge : 0 ≤ Int32.toInt b := lsw_ge ho (by decide) (by decide)
    refine lv_lookup (off := 59) (tgt := 60) hx hb d_T_shiftOf_1 (by decide) ho (by decide) ?_
    refine lv_bipush (v := 10) hx hb d_T_shiftOf_60 (by decide) ?_
    have hc_10 : Int32.toInt 10 = 10 := by decide
    exact fin 10 _ ls d_T_shiftOf_62 (by (try dsimp only); omega)
  · have hge : 0 ≤ Int32.toInt b := lsw_ge ho (by decide) (by decide)
    refine lv_lookup (off := 62) (tgt := 63) hx hb d_T_shiftOf_1 (by decide) ho (by decide) ?_
    refine lv_bipush (v := 20) hx hb d_T_shiftOf_63 (by decide) ?_
    have hc_20 : Int32.toInt 20 = 20 := by decide
    exact fin 20 _ ls d_T_shiftOf_65 (by (try dsimp only); omega)
  · have hge : 0 ≤ Int32.toInt b := lsw_ge ho (by decide) (by decide)
    refine lv_lookup (off := 65) (tgt := 66) hx hb d_T_shiftOf_1 (by decide) ho (by decide) ?_
    refine lv_bipush (v := 30) hx hb d_T_shiftOf_66 (by decide) ?_
    have hc_30 : Int32.toInt 30 = 30 := by decide
    exact fin 30 _ ls d_T_shiftOf_68 (by (try dsimp only); omega)
  · refine lv_lookup (off := 68) (tgt := 69) hx hb d_T_shiftOf_1 (by decide) ho (by decide) ?_
    refine lv_iconst (v := 0) hx hb d_T_shiftOf_69 (by decide) ?_
    have hc_0 : Int32.toInt 0 = 0 := by decide
    exact fin 0 _ ls d_T_shiftOf_70 (by (try dsimp only); omega)
set_option maxHeartbeats 4000000 in
set_option maxRecDepth 100000 in
theorem c_T_shiftOf (l : Launch) (k : Nat → Nat) (b : Int32)  : Met l y_T_shiftOf (.code y_T_shiftOf b_T_shiftOf 1 (some .int) :: TT) ({ frames := 0, cells := 0, slots := 0, locals := 0 }) (va_Pc [.int b] (PJ k)) (vp_Si (fun r => (Int32.toInt r = 0 ∨ 0 ≤ Int32.toInt b))) 0 0 (fun _ => False) := by
  refine Met.ofW (cc := b_T_shiftOf) (maxL := 1) (ret := (some .int)) (by decide) rfl ?_
  intro p e s m args below meth c s₁ B hml hv
  obtain ⟨rfl, hE⟩ := hv
  have hx := B.exec
  have hb := B.bytes
  have hr := B.returns
  have ht : ∀ w ∈ TT, w.before _ s = true := fun w hw => atoms_spec (ws := .code y_T_shiftOf b_T_shiftOf 1 (some .int) :: TT) B.pre w (List.mem_cons_of_mem _ hw)
  have hown : s.vm.findClass "SieveDesk$Tokens" = some m.cls := findClass_of_methodNamed B.named
  have hlocks := B.notSynchronized
  have hS : va_S (fun _ => False) s.heap s.heap [] := va_S.rf
  have hl := lv_entry ([.int b]) (n := 1) (Nat.le_of_ble_eq_true rfl)
  rw [lg_entry_eq]
  generalize (lg_sl ([.int b]) ++ List.replicate (1 - (lg_sl ([.int b])).length) Slot.unset).toArray = ls at hl ⊢
  have hl : lv_has ls 1 [(0, .int b)] := hl
  exact bd_T_shiftOf_0 (b := b) hx hb hml hown ht hE  (fun r pc ls hd hp => W.iret hx hb hr (fun t het hW => ⟨_, rfl, hp, het⟩) (fun q h9 => by cases h9) hd) ls hl

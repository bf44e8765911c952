def cnt (w a b c d : Int32) : Int32 := if w = 0 then a else if w = 1 then b else if w = 2 then c else if w = 3 then d else -1
theorem sw_out {x : Int32} (h0 : ¬ x = 0) (h1 : ¬ x = 1) (h2 : ¬ x = 2) (h3 : ¬ x = 3) : x.toInt < 0 ∨ 3 < x.toInt := by
  have f : ∀ n : Int32, ¬ x = n → x.toInt ≠ n.toInt := fun n h e => h (Int32.toInt_inj.mp e)
  have f0 := f 0 h0
  have f1 := f 1 h1
  have f2 := f 2 h2
  have f3 := f 3 h3
  simp at f0 f1 f2 f3
  omega
set_option maxHeartbeats 4000000 in
set_option maxRecDepth 100000 in
theorem c_S_place (l : Launch) (dC : Nat → ClassId) (dI : Nat → Nat → Nat) (k : Nat → Nat) (h : Nat → Nat) (g : Nat → ClassId) (len fp many tlen tat qlen md gat kind gs th st rq bl te og : Int32) (wd tg : Value) (sc kd sr sa qb du : Nat → Int32) (wo : Nat → Option Nat) (sz : Nat) : Met l y_S_place (.code y_S_place b_S_place 1 (some .int) :: TT) ({ frames := 0, cells := 0, slots := 0, locals := 0 }) (va_Pc [.ref (h 0)] (PX dC dI k (TE g) (WE h g len fp many tlen tat qlen md gat kind wd tg gs th st rq bl te og sc kd sr wo sa qb du) sz)) (va_Qi (fun (r : Int32) (_ : Unit) => r = fp) (fun _ t => BX dC dI (TE g) (va_A (WE h g len fp many tlen tat qlen md gat kind wd tg gs th st rq bl te og sc kd sr wo sa qb du) sz) (WE h g len fp many tlen tat qlen md gat kind wd tg gs th st rq bl te og sc kd sr wo sa qb du) t) (va_A (WE h g len fp many tlen tat qlen md gat kind wd tg gs th st rq bl te og sc kd sr wo sa qb du) sz)) 0 0 (va_A (WE h g len fp many tlen tat qlen md gat kind wd tg gs th st rq bl te og sc kd sr wo sa qb du) sz) := by
  refine Met.ofW (cc := b_S_place) (maxL := 1) (ret := (some .int)) (by decide) rfl ?_
  intro p e s m args below meth c s₁ B hml hv
  obtain ⟨rfl, hsz, hE, hP, hK, hD0⟩ := hv
  have hx := B.exec
  have hb := B.bytes
  have hr := B.returns
  have ht : ∀ w ∈ TT, w.before _ s = true := fun w hw => atoms_spec (ws := .code y_S_place b_S_place 1 (some .int) :: TT) B.pre w (List.mem_cons_of_mem _ hw)
  have hown : s.vm.findClass "SieveDesk" = some m.cls := findClass_of_methodNamed B.named
  have hlocks := B.notSynchronized
  subst hsz
  have hD := hD0.self (sz := s.heap.size)
  generalize hAe : va_A (WE h g len fp many tlen tat qlen md gat kind wd tg gs th st rq bl te og sc kd sr wo sa qb du) s.heap.size = A at hE hD ⊢
  have hA : ∀ q : Nat, s.heap.size ≤ q → A q := fun q h9 => by rw [← hAe]; exact Or.inr h9
  have hS : va_S A s.heap s.heap [] := va_S.rf
  have hl := lv_entry ([.ref (h 0)]) (n := 1) (Nat.le_of_ble_eq_true rfl)
  rw [lg_entry_eq]
  generalize (lg_sl ([.ref (h 0)]) ++ List.replicate (1 - (lg_sl ([.ref (h 0)])).length) Slot.unset).toArray = ls at hl ⊢
  have hl : lv_has ls 1 [(0, .ref (h 0))] := hl
  refine lv_aload_n hx hb d_S_place_0 rfl (lv_at hl 0 rfl) ?_
  refine va_get (D := (dC, dI)) (ci := 0) (v := .int fp) (C := "SieveDesk") (T := F_S) (N := 5) hx hb ht i_S hown hK hP 0 rfl rfl 4 (by decide) (ht _ k_211) (fun _ h9 => h9) rfl d_S_place_1 ?_
  exact W.iret (v := fp) hx hb hr (fun t het hW => ⟨⟨fp, (), rfl, rfl, by rw [het]; exact hP, va_K.moved hW.alike hK, hD⟩, hS.F het⟩) hS.2.2 d_S_place_4
set_option maxHeartbeats 4000000 in
set_option maxRecDepth 100000 in
theorem c_M_place (l : Launch) (dC : Nat → ClassId) (dI : Nat → Nat → Nat) (k : Nat → Nat) (h : Nat → Nat) (g : Nat → ClassId) (ss sa so pl si fa li co st rq bl te op : Int32) (wo le : Nat → Int64) (wz sr tx ro : Nat → Int32) (sz : Nat) : Met l y_M_place (.code y_M_place b_M_place 1 (some .int) :: TT) ({ frames := 0, cells := 0, slots := 0, locals := 0 }) (va_Pc [.ref (h 0)] (PX dC dI k (TM g) (ME h g ss sa so pl si fa li co st rq bl te op wo wz sr le tx ro) sz)) (va_Qi (fun (r : Int32) (_ : Unit) => r = fa) (fun _ t => BX dC dI (TM g) (va_A (ME h g ss sa so pl si fa li co st rq bl te op wo wz sr le tx ro) sz) (ME h g ss sa so pl si fa li co st rq bl te op wo wz sr le tx ro) t) (va_A (ME h g ss sa so pl si fa li co st rq bl te op wo wz sr le tx ro) sz)) 0 0 (va_A (ME h g ss sa so pl si fa li co st rq bl te op wo wz sr le tx ro) sz) := by
  refine Met.ofW (cc := b_M_place) (maxL := 1) (ret := (some .int)) (by decide) rfl ?_
  intro p e s m args below meth c s₁ B hml hv
  obtain ⟨rfl, hsz, hE, hP, hK, hD0⟩ := hv
  have hx := B.exec
  have hb := B.bytes
  have hr := B.returns
  have ht : ∀ w ∈ TT, w.before _ s = true := fun w hw => atoms_spec (ws := .code y_M_place b_M_place 1 (some .int) :: TT) B.pre w (List.mem_cons_of_mem _ hw)
  have hown : s.vm.findClass "SieveDeskModel" = some m.cls := findClass_of_methodNamed B.named
  have hlocks := B.notSynchronized
  subst hsz
  have hD := hD0.self (sz := s.heap.size)
  generalize hAe : va_A (ME h g ss sa so pl si fa li co st rq bl te op wo wz sr le tx ro) s.heap.size = A at hE hD ⊢
  have hA : ∀ q : Nat, s.heap.size ≤ q → A q := fun q h9 => by rw [← hAe]; exact Or.inr h9
  have hS : va_S A s.heap s.heap [] := va_S.rf
  have hl := lv_entry ([.ref (h 0)]) (n := 1) (Nat.le_of_ble_eq_true rfl)
  rw [lg_entry_eq]
  generalize (lg_sl ([.ref (h 0)]) ++ List.replicate (1 - (lg_sl ([.ref (h 0)])).length) Slot.unset).toArray = ls at hl ⊢
  have hl : lv_has ls 1 [(0, .ref (h 0))] := hl
  refine lv_aload_n hx hb d_M_place_0 rfl (lv_at hl 0 rfl) ?_
  refine va_get (D := (dC, dI)) (ci := 4) (v := .int fa) (C := "SieveDeskModel") (T := F_M) (N := 19) hx hb ht i_M hown hK hP 0 rfl rfl 10 (by decide) (ht _ k_637) (fun _ h9 => h9) rfl d_M_place_1 ?_
  exact W.iret (v := fa) hx hb hr (fun t het hW => ⟨⟨fa, (), rfl, rfl, by rw [het]; exact hP, va_K.moved hW.alike hK, hD⟩, hS.F het⟩) hS.2.2 d_M_place_4
set_option maxHeartbeats 4000000 in
set_option maxRecDepth 100000 in
theorem c_S_count (l : Launch) (dC : Nat → ClassId) (dI : Nat → Nat → Nat) (k : Nat → Nat) (h : Nat → Nat) (g : Nat → ClassId) (len fp many tlen tat qlen md gat kind gs th st rq bl te og : Int32) (wd tg : Value) (sc kd sr sa qb du : Nat → Int32) (wo : Nat → Option Nat) (q : Int32) (sz : Nat) : Met l y_S_count (.code y_S_count b_S_count 2 (some .int) :: TT) ({ frames := 0, cells := 0, slots := 0, locals := 0 }) (va_Pc [.ref (h 0), .int q] (PX dC dI k (TE g) (WE h g len fp many tlen tat qlen md gat kind wd tg gs th st rq bl te og sc kd sr wo sa qb du) sz)) (va_Qi (fun (r : Int32) (u : Unit) => r = cnt q len th st rq) (fun u t => BX dC dI (TE g) (va_A (WE h g len fp many tlen tat qlen md gat kind wd tg gs th st rq bl te og sc kd sr wo sa qb du) sz) (WE h g len fp many tlen tat qlen md gat kind wd tg gs th st rq bl te og sc kd sr wo sa qb du) t) (va_A (WE h g len fp many tlen tat qlen md gat kind wd tg gs th st rq bl te og sc kd sr wo sa qb du) sz)) 0 0 (va_A (WE h g len fp many tlen tat qlen md gat kind wd tg gs th st rq bl te og sc kd sr wo sa qb du) sz) := by
  refine Met.ofW (cc := b_S_count) (maxL := 2) (ret := (some .int)) (by decide) rfl ?_
  intro p e s m args below meth c s₁ B hml hv
  obtain ⟨rfl, hsz, hE, hP, hK, hD0⟩ := hv
  have hx := B.exec
  have hb := B.bytes
  have hr := B.returns
  have ht : ∀ w ∈ TT, w.before _ s = true := fun w hw => atoms_spec (ws := .code y_S_count b_S_count 2 (some .int) :: TT) B.pre w (List.mem_cons_of_mem _ hw)
  have hown : s.vm.findClass "SieveDesk" = some m.cls := findClass_of_methodNamed B.named
  have hlocks := B.notSynchronized
  subst hsz
  have hD := hD0.self (sz := s.heap.size)
  generalize hAe : va_A (WE h g len fp many tlen tat qlen md gat kind wd tg gs th st rq bl te og sc kd sr wo sa qb du) s.heap.size = A at hE hD ⊢
  have hA : ∀ q : Nat, s.heap.size ≤ q → A q := fun q h9 => by rw [← hAe]; exact Or.inr h9
  have hS : va_S A s.heap s.heap [] := va_S.rf
  have hl := lv_entry ([.ref (h 0), .int q]) (n := 2) (Nat.le_of_ble_eq_true rfl)
  rw [lg_entry_eq]
  generalize (lg_sl ([.ref (h 0), .int q]) ++ List.replicate (2 - (lg_sl ([.ref (h 0), .int q])).length) Slot.unset).toArray = ls at hl ⊢
  have hl : lv_has ls 2 [(0, .ref (h 0)), (1, .int q)] := hl
  refine lv_iload_n hx hb d_S_count_0 rfl (lv_at hl 1 rfl) ?_
  by_cases e0 : q = 0
  · subst e0
    refine lv_tableIn (off := 31) (tgt := 32) hx hb d_S_count_1 (by decide) (by decide) (by decide) (by decide) ?_
    refine lv_aload_n hx hb d_S_count_32 rfl (lv_at hl 0 rfl) ?_
    refine va_get (D := (dC, dI)) (ci := 0) (v := .int len) (C := "SieveDesk") (T := F_S) (N := 5) hx hb ht i_S hown hK hP 0 rfl rfl 3 (by decide) (ht _ k_210) (fun _ h9 => h9) rfl d_S_count_33 ?_
    exact W.iret (v := len) hx hb hr (fun t het hW => ⟨⟨len, (), rfl, (by simp [cnt]), by rw [het]; exact hP, va_K.moved hW.alike hK, hD⟩, hS.F het⟩) hS.2.2 d_S_count_36
  by_cases e1 : q = 1
  · subst e1
    refine lv_tableIn (off := 36) (tgt := 37) hx hb d_S_count_1 (by decide) (by decide) (by decide) (by decide) ?_
    refine lv_aload_n hx hb d_S_count_37 rfl (lv_at hl 0 rfl) ?_
    refine va_get (D := (dC, dI)) (ci := 0) (v := .ref (h 9)) (C := "SieveDesk") (T := F_S) (N := 5) hx hb ht i_S hown hK hP 0 rfl rfl 2 (by decide) (ht _ k_209) (fun _ h9 => h9) rfl d_S_count_38 ?_
    refine va_getN (D := (dC, dI)) (ci := 3) (v := .int th) (C := "SieveDesk$Grammar") (T := F_G) (N := 14) hx hb ht i_G hown hK hP 9 rfl rfl 8 (by decide) (nw_use n_169 (hE.1 _ n_169)) (fun _ h9 => h9) rfl d_S_count_41 ?_
    exact W.iret (v := th) hx hb hr (fun t het hW => ⟨⟨th, (), rfl, (by simp [cnt]), by rw [het]; exact hP, va_K.moved hW.alike hK, hD⟩, hS.F het⟩) hS.2.2 d_S_count_44
  by_cases e2 : q = 2
  · subst e2
    refine lv_tableIn (off := 44) (tgt := 45) hx hb d_S_count_1 (by decide) (by decide) (by decide) (by decide) ?_
    refine lv_aload_n hx hb d_S_count_45 rfl (lv_at hl 0 rfl) ?_
    refine va_get (D := (dC, dI)) (ci := 0) (v := .ref (h 9)) (C := "SieveDesk") (T := F_S) (N := 5) hx hb ht i_S hown hK hP 0 rfl rfl 2 (by decide) (ht _ k_209) (fun _ h9 => h9) rfl d_S_count_46 ?_
    refine va_getN (D := (dC, dI)) (ci := 3) (v := .int st) (C := "SieveDesk$Grammar") (T := F_G) (N := 14) hx hb ht i_G hown hK hP 9 rfl rfl 9 (by decide) (nw_use n_171 (hE.1 _ n_171)) (fun _ h9 => h9) rfl d_S_count_49 ?_
    exact W.iret (v := st) hx hb hr (fun t het hW => ⟨⟨st, (), rfl, (by simp [cnt]), by rw [het]; exact hP, va_K.moved hW.alike hK, hD⟩, hS.F het⟩) hS.2.2 d_S_count_52
  by_cases e3 : q = 3
  · subst e3
    refine lv_tableIn (off := 52) (tgt := 53) hx hb d_S_count_1 (by decide) (by decide) (by decide) (by decide) ?_
    refine lv_aload_n hx hb d_S_count_53 rfl (lv_at hl 0 rfl) ?_
    refine va_get (D := (dC, dI)) (ci := 0) (v := .ref (h 9)) (C := "SieveDesk") (T := F_S) (N := 5) hx hb ht i_S hown hK hP 0 rfl rfl 2 (by decide) (ht _ k_209) (fun _ h9 => h9) rfl d_S_count_54 ?_
    refine va_getN (D := (dC, dI)) (ci := 3) (v := .int rq) (C := "SieveDesk$Grammar") (T := F_G) (N := 14) hx hb ht i_G hown hK hP 9 rfl rfl 10 (by decide) (nw_use n_173 (hE.1 _ n_173)) (fun _ h9 => h9) rfl d_S_count_57 ?_
    exact W.iret (v := rq) hx hb hr (fun t het hW => ⟨⟨rq, (), rfl, (by simp [cnt]), by rw [het]; exact hP, va_K.moved hW.alike hK, hD⟩, hS.F het⟩) hS.2.2 d_S_count_60
  refine lv_tableOut (tgt := 61) hx hb d_S_count_1 (sw_out e0 e1 e2 e3) (by decide) ?_
  refine lv_iconst (v := (-1)) hx hb d_S_count_61 (by decide) ?_
  exact W.iret (v := (-1)) hx hb hr (fun t het hW => ⟨⟨(-1), (), rfl, (by simp [cnt, e0, e1, e2, e3]), by rw [het]; exact hP, va_K.moved hW.alike hK, hD⟩, hS.F het⟩) hS.2.2 d_S_count_62
set_option maxHeartbeats 4000000 in
set_option maxRecDepth 100000 in
theorem c_M_count (l : Launch) (dC : Nat → ClassId) (dI : Nat → Nat → Nat) (k : Nat → Nat) (h : Nat → Nat) (g : Nat → ClassId) (ss sa so pl si fa li co st rq bl te op : Int32) (wo le : Nat → Int64) (wz sr tx ro : Nat → Int32) (q : Int32) (sz : Nat) : Met l y_M_count (.code y_M_count b_M_count 2 (some .int) :: TT) ({ frames := 0, cells := 0, slots := 0, locals := 0 }) (va_Pc [.ref (h 0), .int q] (PX dC dI k (TM g) (ME h g ss sa so pl si fa li co st rq bl te op wo wz sr le tx ro) sz)) (va_Qi (fun (r : Int32) (u : Unit) => r = cnt q ss co st rq) (fun u t => BX dC dI (TM g) (va_A (ME h g ss sa so pl si fa li co st rq bl te op wo wz sr le tx ro) sz) (ME h g ss sa so pl si fa li co st rq bl te op wo wz sr le tx ro) t) (va_A (ME h g ss sa so pl si fa li co st rq bl te op wo wz sr le tx ro) sz)) 0 0 (va_A (ME h g ss sa so pl si fa li co st rq bl te op wo wz sr le tx ro) sz) := by
  refine Met.ofW (cc := b_M_count) (maxL := 2) (ret := (some .int)) (by decide) rfl ?_
  intro p e s m args below meth c s₁ B hml hv
  obtain ⟨rfl, hsz, hE, hP, hK, hD0⟩ := hv
  have hx := B.exec
  have hb := B.bytes
  have hr := B.returns
  have ht : ∀ w ∈ TT, w.before _ s = true := fun w hw => atoms_spec (ws := .code y_M_count b_M_count 2 (some .int) :: TT) B.pre w (List.mem_cons_of_mem _ hw)
  have hown : s.vm.findClass "SieveDeskModel" = some m.cls := findClass_of_methodNamed B.named
  have hlocks := B.notSynchronized
  subst hsz
  have hD := hD0.self (sz := s.heap.size)
  generalize hAe : va_A (ME h g ss sa so pl si fa li co st rq bl te op wo wz sr le tx ro) s.heap.size = A at hE hD ⊢
  have hA : ∀ q : Nat, s.heap.size ≤ q → A q := fun q h9 => by rw [← hAe]; exact Or.inr h9
  have hS : va_S A s.heap s.heap [] := va_S.rf
  have hl := lv_entry ([.ref (h 0), .int q]) (n := 2) (Nat.le_of_ble_eq_true rfl)
  rw [lg_entry_eq]
  generalize (lg_sl ([.ref (h 0), .int q]) ++ List.replicate (2 - (lg_sl ([.ref (h 0), .int q])).length) Slot.unset).toArray = ls at hl ⊢
  have hl : lv_has ls 2 [(0, .ref (h 0)), (1, .int q)] := hl
  refine lv_iload_n hx hb d_M_count_0 rfl (lv_at hl 1 rfl) ?_
  refine lv_if_ne (tgt := 11) hx hb d_M_count_1 (by decide) (fun c_1 => ?_) (fun c_1 => ?_)
  · refine lv_iload_n hx hb d_M_count_11 rfl (lv_at hl 1 rfl) ?_
    refine lv_iconst (v := 1) hx hb d_M_count_12 (by decide) ?_
    refine lv_icmp_ne (tgt := 23) hx hb d_M_count_13 (by decide) (fun c_2 => ?_) (fun c_2 => ?_)
    · refine lv_iload_n hx hb d_M_count_23 rfl (lv_at hl 1 rfl) ?_
      refine lv_iconst (v := 2) hx hb d_M_count_24 (by decide) ?_
      refine lv_icmp_ne (tgt := 35) hx hb d_M_count_25 (by decide) (fun c_3 => ?_) (fun c_3 => ?_)
      · refine lv_iload_n hx hb d_M_count_35 rfl (lv_at hl 1 rfl) ?_
        refine lv_iconst (v := 3) hx hb d_M_count_36 (by decide) ?_
        refine lv_icmp_ne (tgt := 47) hx hb d_M_count_37 (by decide) (fun c_4 => ?_) (fun c_4 => ?_)
        · refine lv_iconst (v := (-1)) hx hb d_M_count_47 (by decide) ?_
          exact W.iret (v := (-1)) hx hb hr (fun t het hW => ⟨⟨(-1), (), rfl, (by simp [cnt, c_1, c_2, c_3, c_4]), by rw [het]; exact hP, va_K.moved hW.alike hK, hD⟩, hS.F het⟩) hS.2.2 d_M_count_48
        · refine lv_aload_n hx hb d_M_count_40 rfl (lv_at hl 0 rfl) ?_
          refine va_get (D := (dC, dI)) (ci := 4) (v := .int rq) (C := "SieveDeskModel") (T := F_M) (N := 19) hx hb ht i_M hown hK hP 0 rfl rfl 14 (by decide) (ht _ k_641) (fun _ h9 => h9) rfl d_M_count_41 ?_
          refine lv_goto (tgt := 48) hx hb d_M_count_44 (by decide) ?_
          exact W.iret (v := rq) hx hb hr (fun t het hW => ⟨⟨rq, (), rfl, (by simp [cnt, c_1, c_2, c_3, c_4]), by rw [het]; exact hP, va_K.moved hW.alike hK, hD⟩, hS.F het⟩) hS.2.2 d_M_count_48
      · refine lv_aload_n hx hb d_M_count_28 rfl (lv_at hl 0 rfl) ?_
        refine va_get (D := (dC, dI)) (ci := 4) (v := .int st) (C := "SieveDeskModel") (T := F_M) (N := 19) hx hb ht i_M hown hK hP 0 rfl rfl 13 (by decide) (ht _ k_640) (fun _ h9 => h9) rfl d_M_count_29 ?_
        refine lv_goto (tgt := 48) hx hb d_M_count_32 (by decide) ?_
        exact W.iret (v := st) hx hb hr (fun t het hW => ⟨⟨st, (), rfl, (by simp [cnt, c_1, c_2, c_3]), by rw [het]; exact hP, va_K.moved hW.alike hK, hD⟩, hS.F het⟩) hS.2.2 d_M_count_48
    · refine lv_aload_n hx hb d_M_count_16 rfl (lv_at hl 0 rfl) ?_
      refine va_get (D := (dC, dI)) (ci := 4) (v := .int co) (C := "SieveDeskModel") (T := F_M) (N := 19) hx hb ht i_M hown hK hP 0 rfl rfl 12 (by decide) (ht _ k_639) (fun _ h9 => h9) rfl d_M_count_17 ?_
      refine lv_goto (tgt := 48) hx hb d_M_count_20 (by decide) ?_
      exact W.iret (v := co) hx hb hr (fun t het hW => ⟨⟨co, (), rfl, (by simp [cnt, c_1, c_2]), by rw [het]; exact hP, va_K.moved hW.alike hK, hD⟩, hS.F het⟩) hS.2.2 d_M_count_48
  · refine lv_aload_n hx hb d_M_count_4 rfl (lv_at hl 0 rfl) ?_
    refine va_get (D := (dC, dI)) (ci := 4) (v := .int ss) (C := "SieveDeskModel") (T := F_M) (N := 19) hx hb ht i_M hown hK hP 0 rfl rfl 3 (by decide) (ht _ k_630) (fun _ h9 => h9) rfl d_M_count_5 ?_
    refine lv_goto (tgt := 48) hx hb d_M_count_8 (by decide) ?_
    exact W.iret (v := ss) hx hb hr (fun t het hW => ⟨⟨ss, (), rfl, (by simp [cnt, c_1]), by rw [het]; exact hP, va_K.moved hW.alike hK, hD⟩, hS.F het⟩) hS.2.2 d_M_count_48
theorem put_y1 {L j : Nat} {n : Int32} (hL : L ≤ 400) (hj : n = nI j) (hj8 : j ≤ 8) (h : n ≤ 400 - nI L) : L + j ≤ 400 := by
  rw [hj, show (400 : Int32) = nI 400 from rfl, pk_sub hL] at h
  have := (nI_leI (by omega) (by omega)).mp h
  omega
theorem put_n1 {L : Nat} {n : Int32} (hL : L ≤ 400) (h : ¬ n ≤ 400 - nI L) : ∀ L1, ¬ okP L n L1 := fun L1 ⟨j, e, a, b, d, _⟩ => by
  rw [e, show (400 : Int32) = nI 400 from rfl, pk_sub hL] at h
  exact h (nI_le (by omega) (by omega))
theorem put_y2 {L j : Nat} {n : Int32} (hL : L ≤ 400) (hj : n = nI j) (hj8 : j ≤ 8) (h : nI L + n ≤ 400) : L + j ≤ 400 := by
  rw [hj, show (400 : Int32) = nI 400 from rfl, nI_add] at h
  exact (nI_leI (by omega) (by omega)).mp h
theorem put_n2 {L : Nat} {n : Int32} (hL : L ≤ 400) (h : ¬ nI L + n ≤ 400) : ∀ L1, ¬ okP L n L1 := fun L1 ⟨j, e, a, b, d, _⟩ => by
  rw [e, show (400 : Int32) = nI 400 from rfl, nI_add] at h
  exact h (nI_le (by omega) (by omega))
set_option maxHeartbeats 4000000 in
set_option maxRecDepth 100000 in
theorem lp_S_put {p : Program} {l : Launch} {e : Env} {R : Room} {s : State} {m : MethodId} {args : Array Value} {below : List Frame} {meth : Method} {c : Code} {cells slots : Nat} {Q : State → Prop} {A : Nat → Prop} {dC : Nat → ClassId} {dI : Nat → Nat → Nat} {k h : Nat → Nat} {g : Nat → ClassId} (hx : p.tables.exec = Jvm.exec) (hb : c.code = b_S_put) (hml : c.maxLocals = 5) (hown : s.vm.findClass "SieveDesk" = some m.cls) (ht : ∀ w ∈ TT, w.before args s = true) (hE : KE k A s s.heap) (hA : ∀ q : Nat, s.heap.size ≤ q → A q) (hK : va_K (dC, dI) cls (TE g) s) {fp many tlen tat qlen md gat kind gs th st rq bl te og : Int32} {wd tg : Value} {kd sr sa qb du : Nat → Int32} {wo : Nat → Option Nat} {v : Int64} {Le : Nat} (hLe : Le ≤ 400) (ex : ∀ (sc : Nat → Int32) (H : Heap) (locs : List Loc) (ls : Array Slot), va_P (dC, dI) cls (WE h g (nI Le) fp many tlen tat qlen md gat kind wd tg gs th st rq bl te og sc kd sr wo sa qb du) H → va_D A (WE h g (nI Le) fp many tlen tat qlen md gat kind wd tg gs th st rq bl te og sc kd sr wo sa qb du) → va_S A s.heap H locs → lv_has ls 5 [] → W p l e R s m args below meth c H locs cells slots Q (F0 m 69 ls [])) : ∀ (t : Nat) (x4 : Int32) (Lc : Nat) (sc : Nat → Int32), x4 = nI t - 1 → t ≤ 8 → Lc + t = Le → ∀ (H : Heap) (locs : List Loc) (ls : Array Slot), va_P (dC, dI) cls (WE h g (nI Lc) fp many tlen tat qlen md gat kind wd tg gs th st rq bl te og sc kd sr wo sa qb du) H → va_D A (WE h g (nI Lc) fp many tlen tat qlen md gat kind wd tg gs th st rq bl te og sc kd sr wo sa qb du) → va_S A s.heap H locs → lv_has ls 5 [(4, .int x4), (0, .ref (h 0)), (1, .long v)] → W p l e R s m args below meth c H locs cells slots Q (F0 m 30 ls []) := by
  intro t
  induction t with
  | zero =>
    intro x4 Lc sc e4 h8 hLc H locs ls hP hD hS hl
    obtain rfl : x4 = -1 := e4
    obtain rfl : Lc = Le := by omega
    refine lv_iload hx hb d_S_put_30 (lv_at hl 0 rfl) ?_
    refine lv_if_lt (tgt := 69) hx hb d_S_put_32 (by decide) (fun _ => ?_) (fun cn => absurd (by decide) cn)
    exact ex sc H locs ls hP hD hS (lv_sub hl [] rfl)
  | succ t ih =>
    intro x4 Lc sc e4 h8 hLc H locs ls hP hD hS hl
    obtain rfl : x4 = nI t := by rw [e4]; exact nI_pred t
    refine lv_iload hx hb d_S_put_30 (lv_at hl 0 rfl) ?_
    refine lv_if_lt (tgt := 69) hx hb d_S_put_32 (by decide) (fun cn => absurd cn (nI_pos (by omega))) (fun _ => ?_)
    refine lv_aload_n hx hb d_S_put_35 rfl (lv_at hl 1 rfl) ?_
    refine va_get (D := (dC, dI)) (ci := 0) (v := .ref (h 1)) (C := "SieveDesk") (T := F_S) (N := 5) hx hb ht i_S hown hK hP 0 rfl rfl 0 (by decide) (ht _ k_207) (fun _ h9 => h9) rfl d_S_put_36 ?_
    refine lv_aload_n hx hb d_S_put_39 rfl (lv_at hl 1 rfl) ?_
    refine va_get (D := (dC, dI)) (ci := 0) (v := .int (nI Lc)) (C := "SieveDesk") (T := F_S) (N := 5) hx hb ht i_S hown hK hP 0 rfl rfl 3 (by decide) (ht _ k_210) (fun _ h9 => h9) rfl d_S_put_40 ?_
    refine lv_lload_n hx hb d_S_put_43 rfl (lv_at hl 2 rfl) ?_
    refine lv_bipush (v := 8) hx hb d_S_put_44 (by decide) ?_
    refine lv_iload hx hb d_S_put_46 (lv_at hl 0 rfl) ?_
    refine lv_imul hx hb d_S_put_48 ?_
    refine lv_lushr (v := ((Int64.toUInt64 v >>> ((Int32.toInt64 (8 * (nI t))).toUInt64 &&& Int64.toUInt64 63)).toInt64)) hx hb d_S_put_49 rfl ?_
    refine lv_l2i (v := (Int64.toInt32 ((Int64.toUInt64 v >>> ((Int32.toInt64 (8 * (nI t))).toUInt64 &&& Int64.toUInt64 63)).toInt64))) hx hb d_S_put_50 rfl ?_
    refine lv_i2b (v := (Int8.toInt32 (Int32.toInt8 (Int64.toInt32 ((Int64.toUInt64 v >>> ((Int32.toInt64 (8 * (nI t))).toUInt64 &&& Int64.toUInt64 63)).toInt64))))) hx hb d_S_put_51 rfl ?_
    refine va_bast hx hb hK hP hD hS 1 0 rfl rfl (vp_in_nI (by omega) (by omega)) d_S_put_52 (fun H locs hP hD hS => ?_)
    have hP : va_P (dC, dI) cls (WE h g (nI Lc) fp many tlen tat qlen md gat kind wd tg gs th st rq bl te og (upd sc (Int32.toNatClampNeg (nI Lc)) (vp_nar .byte (Int8.toInt32 (Int32.toInt8 (Int64.toInt32 ((Int64.toUInt64 v >>> ((Int32.toInt64 (8 * (nI t))).toUInt64 &&& Int64.toUInt64 63)).toInt64)))))) kd sr wo sa qb du) H := hP
    have hD : va_D A (WE h g (nI Lc) fp many tlen tat qlen md gat kind wd tg gs th st rq bl te og (upd sc (Int32.toNatClampNeg (nI Lc)) (vp_nar .byte (Int8.toInt32 (Int32.toInt8 (Int64.toInt32 ((Int64.toUInt64 v >>> ((Int32.toInt64 (8 * (nI t))).toUInt64 &&& Int64.toUInt64 63)).toInt64)))))) kd sr wo sa qb du) := hD
    refine lv_aload_n hx hb d_S_put_53 rfl (lv_at hl 1 rfl) ?_
    refine lv_dup hx hb d_S_put_54 rfl ?_
    refine va_get (D := (dC, dI)) (ci := 0) (v := .int (nI Lc)) (C := "SieveDesk") (T := F_S) (N := 5) hx hb ht i_S hown hK hP 0 rfl rfl 3 (by decide) (ht _ k_210) (fun _ h9 => h9) rfl d_S_put_55 ?_
    refine lv_iconst (v := 1) hx hb d_S_put_58 (by decide) ?_
    refine lv_iadd hx hb d_S_put_59 ?_
    refine lv_ev (nI_1 (Lc)) ?_
    refine va_put (D := (dC, dI)) (ci := 0) (v := .int (nI (Lc + 1))) (ty := .int) (C := "SieveDesk") (T := F_S) (N := 5) hx hb ht i_S ty_S ty_S_ok n_S hown hK hP hD hS 0 rfl rfl 3 (by decide) (ht _ k_210) (fun _ h9 => h9) rfl (ty_S_ok 3 (by decide)) rfl rfl (Nat.le_of_ble_eq_true rfl) d_S_put_60 (fun H locs hP hD hS => ?_)
    have hP : va_P (dC, dI) cls (WE h g (nI (Lc + 1)) fp many tlen tat qlen md gat kind wd tg gs th st rq bl te og (upd sc (Int32.toNatClampNeg (nI Lc)) (vp_nar .byte (Int8.toInt32 (Int32.toInt8 (Int64.toInt32 ((Int64.toUInt64 v >>> ((Int32.toInt64 (8 * (nI t))).toUInt64 &&& Int64.toUInt64 63)).toInt64)))))) kd sr wo sa qb du) H := hP
    have hD : va_D A (WE h g (nI (Lc + 1)) fp many tlen tat qlen md gat kind wd tg gs th st rq bl te og (upd sc (Int32.toNatClampNeg (nI Lc)) (vp_nar .byte (Int8.toInt32 (Int32.toInt8 (Int64.toInt32 ((Int64.toUInt64 v >>> ((Int32.toInt64 (8 * (nI t))).toUInt64 &&& Int64.toUInt64 63)).toInt64)))))) kd sr wo sa qb du) := hD
    refine lv_iinc (v := ((nI t) + (-1))) (lv' := [(4, .int ((nI t) + (-1))), (0, .ref (h 0)), (1, .long v)]) hx hb d_S_put_63 hl (k := 0) rfl rfl (by decide) rfl (fun ls hl => ?_)
    refine lv_goto (tgt := 30) hx hb d_S_put_66 (by decide) ?_
    exact ih _ (Lc + 1) _ (by rw [Int32.sub_eq_add_neg]) (by omega) (by omega) H locs ls hP hD hS (lv_sub hl [0, 1, 2] rfl)
set_option maxHeartbeats 4000000 in
set_option maxRecDepth 100000 in
theorem c_S_put (l : Launch) (dC : Nat → ClassId) (dI : Nat → Nat → Nat) (k : Nat → Nat) (h : Nat → Nat) (g : Nat → ClassId) (L : Nat) (fp many tlen tat qlen md gat kind gs th st rq bl te og : Int32) (wd tg : Value) (sc kd sr sa qb du : Nat → Int32) (wo : Nat → Option Nat) (v : Int64) (n : Int32) (sz : Nat) (hL : L ≤ 400) : Met l y_S_put (.code y_S_put b_S_put 5 (some .boolean) :: TT) ({ frames := 0, cells := 0, slots := 0, locals := 0 }) (va_Pc [.ref (h 0), .long v, .int n] (PX dC dI k (TE g) (WE h g (nI L) fp many tlen tat qlen md gat kind wd tg gs th st rq bl te og sc kd sr wo sa qb du) sz)) (va_Qi (fun (r : Int32) (u : Nat × (Nat → Int32)) => (r = 1 ∧ okP L n u.1) ∨ (r = 0 ∧ u.1 = L ∧ ∀ L1, ¬ okP L n L1)) (fun u t => BX dC dI (TE g) (va_A (WE h g (nI L) fp many tlen tat qlen md gat kind wd tg gs th st rq bl te og sc kd sr wo sa qb du) sz) (WE h g (nI u.1) fp many tlen tat qlen md gat kind wd tg gs th st rq bl te og u.2 kd sr wo sa qb du) t) (va_A (WE h g (nI L) fp many tlen tat qlen md gat kind wd tg gs th st rq bl te og sc kd sr wo sa qb du) sz)) 0 0 (va_A (WE h g (nI L) fp many tlen tat qlen md gat kind wd tg gs th st rq bl te og sc kd sr wo sa qb du) sz) := by
  refine Met.ofW (cc := b_S_put) (maxL := 5) (ret := (some .boolean)) (by decide) rfl ?_
  intro p e s m args below meth c s₁ B hml hv
  obtain ⟨rfl, hsz, hE, hP, hK, hD0⟩ := hv
  have hx := B.exec
  have hb := B.bytes
  have hr := B.returns
  have ht : ∀ w ∈ TT, w.before _ s = true := fun w hw => atoms_spec (ws := .code y_S_put b_S_put 5 (some .boolean) :: TT) B.pre w (List.mem_cons_of_mem _ hw)
  have hown : s.vm.findClass "SieveDesk" = some m.cls := findClass_of_methodNamed B.named
  have hlocks := B.notSynchronized
  subst hsz
  have hD := hD0.self (sz := s.heap.size)
  generalize hAe : va_A (WE h g (nI L) fp many tlen tat qlen md gat kind wd tg gs th st rq bl te og sc kd sr wo sa qb du) s.heap.size = A at hE hD ⊢
  have hA : ∀ q : Nat, s.heap.size ≤ q → A q := fun q h9 => by rw [← hAe]; exact Or.inr h9
  have hS : va_S A s.heap s.heap [] := va_S.rf
  have hl := lv_entry ([.ref (h 0), .long v, .int n]) (n := 5) (Nat.le_of_ble_eq_true rfl)
  rw [lg_entry_eq]
  generalize (lg_sl ([.ref (h 0), .long v, .int n]) ++ List.replicate (5 - (lg_sl ([.ref (h 0), .long v, .int n])).length) Slot.unset).toArray = ls at hl ⊢
  have hl : lv_has ls 5 [(0, .ref (h 0)), (1, .long v), (3, .int n)] := hl
  refine lv_iload_n hx hb d_S_put_0 rfl (lv_at hl 2 rfl) ?_
  refine lv_iconst (v := 1) hx hb d_S_put_1 (by decide) ?_
  refine lv_icmp_lt (tgt := 23) hx hb d_S_put_2 (by decide) (fun c_1 => ?_) (fun c_1 => ?_)
  · refine lv_iconst (v := 0) hx hb d_S_put_23 (by decide) ?_
    exact W.zret (v := 0) hx hb hr rfl (fun t het hW => ⟨⟨0, (L, sc), rfl, Or.inr ⟨rfl, rfl, okP_lo c_1⟩, by rw [het]; exact hP, va_K.moved hW.alike hK, hD⟩, hS.F het⟩) hS.2.2 d_S_put_24
  · refine lv_iload_n hx hb d_S_put_5 rfl (lv_at hl 2 rfl) ?_
    refine lv_bipush (v := 8) hx hb d_S_put_6 (by decide) ?_
    refine lv_icmp_gt (tgt := 23) hx hb d_S_put_8 (by decide) (fun c_2 => ?_) (fun c_2 => ?_)
    · refine lv_iconst (v := 0) hx hb d_S_put_23 (by decide) ?_
      exact W.zret (v := 0) hx hb hr rfl (fun t het hW => ⟨⟨0, (L, sc), rfl, Or.inr ⟨rfl, rfl, okP_hi c_2⟩, by rw [het]; exact hP, va_K.moved hW.alike hK, hD⟩, hS.F het⟩) hS.2.2 d_S_put_24
    · obtain ⟨j, hj, h1j, hj8⟩ := okP_of (L := L) c_1 c_2
      have hyes : n ≤ 400 - nI L → L + j ≤ 400 := fun hq => put_y1 hL hj hj8 hq
      have hno : ¬ n ≤ 400 - nI L → ∀ L1, ¬ okP L n L1 := fun hq => put_n1 hL hq
      refine lv_iload_n hx hb d_S_put_11 rfl (lv_at hl 2 rfl) ?_
      refine lv_sipush (v := 400) hx hb d_S_put_12 (by decide) ?_
      refine lv_aload_n hx hb d_S_put_15 rfl (lv_at hl 0 rfl) ?_
      refine va_get (D := (dC, dI)) (ci := 0) (v := .int (nI L)) (C := "SieveDesk") (T := F_S) (N := 5) hx hb ht i_S hown hK hP 0 rfl rfl 3 (by decide) (ht _ k_210) (fun _ h9 => h9) rfl d_S_put_16 ?_
      refine lv_isub hx hb d_S_put_19 ?_
      refine lv_icmp_le (tgt := 25) hx hb d_S_put_20 (by decide) (fun c_3 => ?_) (fun c_3 => ?_)
      · have hle : L + j ≤ 400 := hyes c_3
        have hok : okP L n (L + j) := ⟨j, hj, h1j, hj8, hle, rfl⟩
        refine lv_iload_n hx hb d_S_put_25 rfl (lv_at hl 2 rfl) ?_
        refine lv_iconst (v := 1) hx hb d_S_put_26 (by decide) ?_
        refine lv_isub hx hb d_S_put_27 ?_
        refine lv_istore (lv' := [(4, .int (n - 1)), (0, .ref (h 0)), (1, .long v), (3, .int n)]) hx hb d_S_put_28 hl (by decide) rfl (fun ls hl => ?_)
        refine lp_S_put hx hb hml hown ht hE hA hK hle (fun sc H locs ls hP hD hS hl => ?_) j _ L sc (by rw [hj]) hj8 rfl _ _ ls hP hD hS (lv_sub hl [0, 1, 2] rfl)
        refine lv_iconst (v := 1) hx hb d_S_put_69 (by decide) ?_
        exact W.zret (v := 1) hx hb hr rfl (fun t het hW => ⟨⟨1, (L + j, sc), rfl, Or.inl ⟨rfl, hok⟩, by rw [het]; exact hP, va_K.moved hW.alike hK, hD⟩, hS.F het⟩) hS.2.2 d_S_put_70
      · refine lv_iconst (v := 0) hx hb d_S_put_23 (by decide) ?_
        exact W.zret (v := 0) hx hb hr rfl (fun t het hW => ⟨⟨0, (L, sc), rfl, Or.inr ⟨rfl, rfl, hno c_3⟩, by rw [het]; exact hP, va_K.moved hW.alike hK, hD⟩, hS.F het⟩) hS.2.2 d_S_put_24
set_option maxHeartbeats 4000000 in
set_option maxRecDepth 100000 in
theorem lp_M_put {p : Program} {l : Launch} {e : Env} {R : Room} {s : State} {m : MethodId} {args : Array Value} {below : List Frame} {meth : Method} {c : Code} {cells slots : Nat} {Q : State → Prop} {A : Nat → Prop} {dC : Nat → ClassId} {dI : Nat → Nat → Nat} {k h : Nat → Nat} {g : Nat → ClassId} (hx : p.tables.exec = Jvm.exec) (hb : c.code = b_M_put) (hml : c.maxLocals = 5) (hown : s.vm.findClass "SieveDeskModel" = some m.cls) (ht : ∀ w ∈ TT, w.before args s = true) (hE : KE k A s s.heap) (hA : ∀ q : Nat, s.heap.size ≤ q → A q) (hK : va_K (dC, dI) cls (TM g) s) {sa so pl si fa li co st rq bl te op : Int32} {wo le : Nat → Int64} {wz tx ro : Nat → Int32} {v : Int64} {Le : Nat} (hLe : Le ≤ 400) (ex : ∀ (sr : Nat → Int32) (H : Heap) (locs : List Loc) (ls : Array Slot), va_P (dC, dI) cls (ME h g (nI Le) sa so pl si fa li co st rq bl te op wo wz sr le tx ro) H → va_D A (ME h g (nI Le) sa so pl si fa li co st rq bl te op wo wz sr le tx ro) → va_S A s.heap H locs → lv_has ls 5 [] → W p l e R s m args below meth c H locs cells slots Q (F0 m 72 ls [])) : ∀ (t : Nat) (x4 : Int32) (Lc : Nat) (sr : Nat → Int32), x4 = nI t - 1 → t ≤ 8 → Lc + t = Le → ∀ (H : Heap) (locs : List Loc) (ls : Array Slot), va_P (dC, dI) cls (ME h g (nI Lc) sa so pl si fa li co st rq bl te op wo wz sr le tx ro) H → va_D A (ME h g (nI Lc) sa so pl si fa li co st rq bl te op wo wz sr le tx ro) → va_S A s.heap H locs → lv_has ls 5 [(4, .int x4), (0, .ref (h 0)), (1, .long v)] → W p l e R s m args below meth c H locs cells slots Q (F0 m 30 ls []) := by
  intro t
  induction t with
  | zero =>
    intro x4 Lc sr e4 h8 hLc H locs ls hP hD hS hl
    obtain rfl : x4 = -1 := e4
    obtain rfl : Lc = Le := by omega
    refine lv_iload hx hb d_M_put_30 (lv_at hl 0 rfl) ?_
    refine lv_if_lt (tgt := 72) hx hb d_M_put_32 (by decide) (fun _ => ?_) (fun cn => absurd (by decide) cn)
    exact ex sr H locs ls hP hD hS (lv_sub hl [] rfl)
  | succ t ih =>
    intro x4 Lc sr e4 h8 hLc H locs ls hP hD hS hl
    obtain rfl : x4 = nI t := by rw [e4]; exact nI_pred t
    refine lv_iload hx hb d_M_put_30 (lv_at hl 0 rfl) ?_
    refine lv_if_lt (tgt := 72) hx hb d_M_put_32 (by decide) (fun cn => absurd cn (nI_pos (by omega))) (fun _ => ?_)
    refine lv_aload_n hx hb d_M_put_35 rfl (lv_at hl 1 rfl) ?_
    refine va_get (D := (dC, dI)) (ci := 4) (v := .ref (h 3)) (C := "SieveDeskModel") (T := F_M) (N := 19) hx hb ht i_M hown hK hP 0 rfl rfl 2 (by decide) (ht _ k_629) (fun _ h9 => h9) rfl d_M_put_36 ?_
    refine lv_aload_n hx hb d_M_put_39 rfl (lv_at hl 1 rfl) ?_
    refine va_get (D := (dC, dI)) (ci := 4) (v := .int (nI Lc)) (C := "SieveDeskModel") (T := F_M) (N := 19) hx hb ht i_M hown hK hP 0 rfl rfl 3 (by decide) (ht _ k_630) (fun _ h9 => h9) rfl d_M_put_40 ?_
    refine lv_lload_n hx hb d_M_put_43 rfl (lv_at hl 2 rfl) ?_
    refine lv_bipush (v := 8) hx hb d_M_put_44 (by decide) ?_
    refine lv_iload hx hb d_M_put_46 (lv_at hl 0 rfl) ?_
    refine lv_imul hx hb d_M_put_48 ?_
    refine lv_lshr (v := (v >>> ((Int32.toInt64 (8 * (nI t))) &&& 63))) hx hb d_M_put_49 rfl ?_
    refine lv_l2i (v := (Int64.toInt32 (v >>> ((Int32.toInt64 (8 * (nI t))) &&& 63)))) hx hb d_M_put_50 rfl ?_
    refine lv_sipush (v := 255) hx hb d_M_put_51 (by decide) ?_
    refine lv_iand hx hb d_M_put_54 ?_
    refine va_iast hx hb hK hP hD hS 3 2 rfl rfl (vp_in_nI (by omega) (by omega)) d_M_put_55 (fun H locs hP hD hS => ?_)
    have hP : va_P (dC, dI) cls (ME h g (nI Lc) sa so pl si fa li co st rq bl te op wo wz (upd sr (Int32.toNatClampNeg (nI Lc)) ((Int64.toInt32 (v >>> ((Int32.toInt64 (8 * (nI t))) &&& 63))) &&& 255)) le tx ro) H := hP
    have hD : va_D A (ME h g (nI Lc) sa so pl si fa li co st rq bl te op wo wz (upd sr (Int32.toNatClampNeg (nI Lc)) ((Int64.toInt32 (v >>> ((Int32.toInt64 (8 * (nI t))) &&& 63))) &&& 255)) le tx ro) := hD
    refine lv_aload_n hx hb d_M_put_56 rfl (lv_at hl 1 rfl) ?_
    refine lv_aload_n hx hb d_M_put_57 rfl (lv_at hl 1 rfl) ?_
    refine va_get (D := (dC, dI)) (ci := 4) (v := .int (nI Lc)) (C := "SieveDeskModel") (T := F_M) (N := 19) hx hb ht i_M hown hK hP 0 rfl rfl 3 (by decide) (ht _ k_630) (fun _ h9 => h9) rfl d_M_put_58 ?_
    refine lv_iconst (v := 1) hx hb d_M_put_61 (by decide) ?_
    refine lv_iadd hx hb d_M_put_62 ?_
    refine lv_ev (nI_1 (Lc)) ?_
    refine va_put (D := (dC, dI)) (ci := 4) (v := .int (nI (Lc + 1))) (ty := .int) (C := "SieveDeskModel") (T := F_M) (N := 19) hx hb ht i_M ty_M ty_M_ok n_M hown hK hP hD hS 0 rfl rfl 3 (by decide) (ht _ k_630) (fun _ h9 => h9) rfl (ty_M_ok 3 (by decide)) rfl rfl (Nat.le_of_ble_eq_true rfl) d_M_put_63 (fun H locs hP hD hS => ?_)
    have hP : va_P (dC, dI) cls (ME h g (nI (Lc + 1)) sa so pl si fa li co st rq bl te op wo wz (upd sr (Int32.toNatClampNeg (nI Lc)) ((Int64.toInt32 (v >>> ((Int32.toInt64 (8 * (nI t))) &&& 63))) &&& 255)) le tx ro) H := hP
    have hD : va_D A (ME h g (nI (Lc + 1)) sa so pl si fa li co st rq bl te op wo wz (upd sr (Int32.toNatClampNeg (nI Lc)) ((Int64.toInt32 (v >>> ((Int32.toInt64 (8 * (nI t))) &&& 63))) &&& 255)) le tx ro) := hD
    refine lv_iinc (v := ((nI t) + (-1))) (lv' := [(4, .int ((nI t) + (-1))), (0, .ref (h 0)), (1, .long v)]) hx hb d_M_put_66 hl (k := 0) rfl rfl (by decide) rfl (fun ls hl => ?_)
    refine lv_goto (tgt := 30) hx hb d_M_put_69 (by decide) ?_
    exact ih _ (Lc + 1) _ (by rw [Int32.sub_eq_add_neg]) (by omega) (by omega) H locs ls hP hD hS (lv_sub hl [0, 1, 2] rfl)
set_option maxHeartbeats 4000000 in
set_option maxRecDepth 100000 in
theorem c_M_put (l : Launch) (dC : Nat → ClassId) (dI : Nat → Nat → Nat) (k : Nat → Nat) (h : Nat → Nat) (g : Nat → ClassId) (L : Nat) (sa so pl si fa li co st rq bl te op : Int32) (wo le : Nat → Int64) (wz sr tx ro : Nat → Int32) (v : Int64) (n : Int32) (sz : Nat) (hL : L ≤ 400) : Met l y_M_put (.code y_M_put b_M_put 5 (some .boolean) :: TT) ({ frames := 0, cells := 0, slots := 0, locals := 0 }) (va_Pc [.ref (h 0), .long v, .int n] (PX dC dI k (TM g) (ME h g (nI L) sa so pl si fa li co st rq bl te op wo wz sr le tx ro) sz)) (va_Qi (fun (r : Int32) (u : Nat × (Nat → Int32)) => (r = 1 ∧ okP L n u.1) ∨ (r = 0 ∧ u.1 = L ∧ ∀ L1, ¬ okP L n L1)) (fun u t => BX dC dI (TM g) (va_A (ME h g (nI L) sa so pl si fa li co st rq bl te op wo wz sr le tx ro) sz) (ME h g (nI u.1) sa so pl si fa li co st rq bl te op wo wz u.2 le tx ro) t) (va_A (ME h g (nI L) sa so pl si fa li co st rq bl te op wo wz sr le tx ro) sz)) 0 0 (va_A (ME h g (nI L) sa so pl si fa li co st rq bl te op wo wz sr le tx ro) sz) := by
  refine Met.ofW (cc := b_M_put) (maxL := 5) (ret := (some .boolean)) (by decide) rfl ?_
  intro p e s m args below meth c s₁ B hml hv
  obtain ⟨rfl, hsz, hE, hP, hK, hD0⟩ := hv
  have hx := B.exec
  have hb := B.bytes
  have hr := B.returns
  have ht : ∀ w ∈ TT, w.before _ s = true := fun w hw => atoms_spec (ws := .code y_M_put b_M_put 5 (some .boolean) :: TT) B.pre w (List.mem_cons_of_mem _ hw)
  have hown : s.vm.findClass "SieveDeskModel" = some m.cls := findClass_of_methodNamed B.named
  have hlocks := B.notSynchronized
  subst hsz
  have hD := hD0.self (sz := s.heap.size)
  generalize hAe : va_A (ME h g (nI L) sa so pl si fa li co st rq bl te op wo wz sr le tx ro) s.heap.size = A at hE hD ⊢
  have hA : ∀ q : Nat, s.heap.size ≤ q → A q := fun q h9 => by rw [← hAe]; exact Or.inr h9
  have hS : va_S A s.heap s.heap [] := va_S.rf
  have hl := lv_entry ([.ref (h 0), .long v, .int n]) (n := 5) (Nat.le_of_ble_eq_true rfl)
  rw [lg_entry_eq]
  generalize (lg_sl ([.ref (h 0), .long v, .int n]) ++ List.replicate (5 - (lg_sl ([.ref (h 0), .long v, .int n])).length) Slot.unset).toArray = ls at hl ⊢
  have hl : lv_has ls 5 [(0, .ref (h 0)), (1, .long v), (3, .int n)] := hl
  refine lv_iload_n hx hb d_M_put_0 rfl (lv_at hl 2 rfl) ?_
  refine lv_iconst (v := 1) hx hb d_M_put_1 (by decide) ?_
  refine lv_icmp_lt (tgt := 23) hx hb d_M_put_2 (by decide) (fun c_1 => ?_) (fun c_1 => ?_)
  · refine lv_iconst (v := 0) hx hb d_M_put_23 (by decide) ?_
    exact W.zret (v := 0) hx hb hr rfl (fun t het hW => ⟨⟨0, (L, sr), rfl, Or.inr ⟨rfl, rfl, okP_lo c_1⟩, by rw [het]; exact hP, va_K.moved hW.alike hK, hD⟩, hS.F het⟩) hS.2.2 d_M_put_24
  · refine lv_iload_n hx hb d_M_put_5 rfl (lv_at hl 2 rfl) ?_
    refine lv_bipush (v := 8) hx hb d_M_put_6 (by decide) ?_
    refine lv_icmp_gt (tgt := 23) hx hb d_M_put_8 (by decide) (fun c_2 => ?_) (fun c_2 => ?_)
    · refine lv_iconst (v := 0) hx hb d_M_put_23 (by decide) ?_
      exact W.zret (v := 0) hx hb hr rfl (fun t het hW => ⟨⟨0, (L, sr), rfl, Or.inr ⟨rfl, rfl, okP_hi c_2⟩, by rw [het]; exact hP, va_K.moved hW.alike hK, hD⟩, hS.F het⟩) hS.2.2 d_M_put_24
    · obtain ⟨j, hj, h1j, hj8⟩ := okP_of (L := L) c_1 c_2
      have hyes : nI L + n ≤ 400 → L + j ≤ 400 := fun hq => put_y2 hL hj hj8 hq
      have hno : ¬ nI L + n ≤ 400 → ∀ L1, ¬ okP L n L1 := fun hq => put_n2 hL hq
      refine lv_aload_n hx hb d_M_put_11 rfl (lv_at hl 0 rfl) ?_
      refine va_get (D := (dC, dI)) (ci := 4) (v := .int (nI L)) (C := "SieveDeskModel") (T := F_M) (N := 19) hx hb ht i_M hown hK hP 0 rfl rfl 3 (by decide) (ht _ k_630) (fun _ h9 => h9) rfl d_M_put_12 ?_
      refine lv_iload_n hx hb d_M_put_15 rfl (lv_at hl 2 rfl) ?_
      refine lv_iadd hx hb d_M_put_16 ?_
      refine lv_sipush (v := 400) hx hb d_M_put_17 (by decide) ?_
      refine lv_icmp_le (tgt := 25) hx hb d_M_put_20 (by decide) (fun c_3 => ?_) (fun c_3 => ?_)
      · have hle : L + j ≤ 400 := hyes c_3
        have hok : okP L n (L + j) := ⟨j, hj, h1j, hj8, hle, rfl⟩
        refine lv_iload_n hx hb d_M_put_25 rfl (lv_at hl 2 rfl) ?_
        refine lv_iconst (v := 1) hx hb d_M_put_26 (by decide) ?_
        refine lv_isub hx hb d_M_put_27 ?_
        refine lv_istore (lv' := [(4, .int (n - 1)), (0, .ref (h 0)), (1, .long v), (3, .int n)]) hx hb d_M_put_28 hl (by decide) rfl (fun ls hl => ?_)
        refine lp_M_put hx hb hml hown ht hE hA hK hle (fun sr H locs ls hP hD hS hl => ?_) j _ L sr (by rw [hj]) hj8 rfl _ _ ls hP hD hS (lv_sub hl [0, 1, 2] rfl)
        refine lv_iconst (v := 1) hx hb d_M_put_72 (by decide) ?_
        exact W.zret (v := 1) hx hb hr rfl (fun t het hW => ⟨⟨1, (L + j, sr), rfl, Or.inl ⟨rfl, hok⟩, by rw [het]; exact hP, va_K.moved hW.alike hK, hD⟩, hS.F het⟩) hS.2.2 d_M_put_73
      · refine lv_iconst (v := 0) hx hb d_M_put_23 (by decide) ?_
        exact W.zret (v := 0) hx hb hr rfl (fun t het hW => ⟨⟨0, (L, sr), rfl, Or.inr ⟨rfl, rfl, hno c_3⟩, by rw [het]; exact hP, va_K.moved hW.alike hK, hD⟩, hS.F het⟩) hS.2.2 d_M_put_24

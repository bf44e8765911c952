theorem st_of {s : State} {args : Array Value} {A : Nat → Prop} {e : String × Nat × List Int32} (h : ∀ w ∈ sw e, w.before args s = true) (hn : e.2.2.length ≤ 100) (hA : ∀ a : Nat, a < s.heap.size → ¬ A a) : ∃ q : Nat × Nat × Nat, (tS (e.1, e.2.1)).eval args s none [] s = some (.ref q.1) ∧ ST q.1 q.2.1 q.2.2 A s s.heap := by
  obtain ⟨adK, adV, hSt, hev⟩ := vk_Sof (args := args) (s := s) (N := 1) (tm := fun _ => tS (e.1, e.2.1)) (len := [e.2.2.length]) (byt := [e.2.2]) (A := A) (fun i hi => by rcases (show i = 0 by omega) with rfl; show e.2.2.length < _; omega)
    (fun i hi => h _ (List.mem_append_left _ (List.mem_of_getElem? (i := 0) rfl)))
    (fun i hi => h _ (List.mem_append_left _ (List.mem_of_getElem? (i := 1) rfl)))
    (fun i hi => h _ (List.mem_append_left _ (List.mem_of_getElem? (i := 2) rfl)))
    (fun i hi => by rcases (show i = 0 by omega) with rfl; exact h _ (List.mem_append_left _ (List.mem_of_getElem? (i := 3) rfl)))
    (fun i hi j hj => by
      rcases (show i = 0 by omega) with rfl
      exact h _ (List.mem_append_right _ (List.mem_map.mpr ⟨j, List.mem_range.mpr hj, rfl⟩)))
    (fun i j hi hj h => absurd (show i = j by omega) h) hA
  obtain ⟨a1, a2, a3, a4⟩ := hSt.1 0 (by decide)
  exact ⟨(adK 0, adV 0, e.2.2.length), hev 0 (by decide), a1, a2, a3, ⟨_, a4⟩, hn⟩
theorem ex_of {s : State} {args : Array Value} {A : Nat → Prop} {t : Term} {E : String} (h : (Cond.exactly t E).before args s = true) (hA : ∀ a : Nat, a < s.heap.size → ¬ A a) : ∃ a : Nat, t.eval args s none [] s = some (.ref a) ∧ va_O E a A s s.heap := by
  obtain ⟨a0, c0, cell0, k0, q1, q2, q3, q4, q5, q6, -⟩ := Cond.exactly_spec h
  exact ⟨a0, q1, cell0, q3, q5, by rw [q6]; exact q2, hA a0 (Array.getElem?_eq_some_iff.mp q3).1⟩
theorem mem_getD {α : Type} {l : List α} {i : Nat} (h : i < l.length) (d : α) : l.getD i d ∈ l := by
  rw [List.getD_eq_getElem?_getD, List.getElem?_eq_getElem h]
  exact List.getElem_mem h
set_option maxHeartbeats 4000000 in
set_option maxRecDepth 100000 in
/-- what the start gives of the constants -/
theorem ke_start {s : State} {b : Nat} (hts : ∀ w ∈ lw_tbl, w.before #[Value.ref b] s = true) (hgv : (Jvm.Cond.and given_1 narrow_1).before #[Value.ref b] s = true) : ∃ k : Nat → Nat, KE k (fun q => s.heap.size ≤ q) s s.heap := by
  have hs := flat_of_before _ hgv
  have hA : ∀ a : Nat, a < s.heap.size → ¬ (fun q : Nat => s.heap.size ≤ q) a := fun a h => Nat.not_le.mpr h
  have iW : (Cond.initialized "SieveDesk$Word").before #[Value.ref b] s = true := hts _ (by decide +kernel)
  have iN : (Cond.initialized "SieveDesk$Name").before #[Value.ref b] s = true := hts _ (by decide +kernel)
  have hS : ∀ e ∈ sT, ∀ w ∈ sw e, w.before #[Value.ref b] s = true := fun e he w hw => hs w (subq_mem _ _ q_s w (List.mem_flatMap.mpr ⟨e, he, hw⟩))
  have hW : ∀ e ∈ wL, ∀ w ∈ ww e, w.before #[Value.ref b] s = true := fun e he w hw => hs w (subq_mem _ _ q_w w (List.mem_flatMap.mpr ⟨e, he, hw⟩))
  have hN : ∀ e ∈ nL_, ∀ w ∈ nw2 e, w.before #[Value.ref b] s = true := fun e he w hw => hs w (subq_mem _ _ q_n w (List.mem_flatMap.mpr ⟨e, he, hw⟩))
  have hEW : ∀ w ∈ ew "SieveDesk$Word" 43 tEW (fun j => tW (nmW j)), w.before #[Value.ref b] s = true := fun w hw => hs w (subq_mem _ _ q_ew w hw)
  have hEN : ∀ w ∈ ew "SieveDesk$Name" 17 tEN (fun j => tN (nmN j)), w.before #[Value.ref b] s = true := fun w hw => hs w (subq_mem _ _ q_en w hw)
  have mW : ∀ i, i < 43 → wT.getD i ("", ("", 0), ("", 0), 0, 0, 0) ∈ wL := fun i hi => List.mem_map.mpr ⟨i, q_wp i hi, rfl⟩
  have mN : ∀ i, i < 17 → nT.getD i ("", ("", 0), 0) ∈ nL_ := fun i hi => List.mem_map.mpr ⟨i, q_np i hi, rfl⟩
  have h1 : ∀ i : Nat, ∃ a : Nat, i < 43 → (tW (nmW i)).eval #[Value.ref b] s none [] s = some (.ref a) ∧ va_O "SieveDesk$Word" a (fun q => s.heap.size ≤ q) s s.heap := fun i => by
    by_cases hi : i < 43
    · obtain ⟨a, h⟩ := ex_of (hW _ (mW i hi) _ (List.mem_of_getElem? (i := 0) rfl)) hA
      exact ⟨a, fun _ => h⟩
    · exact ⟨0, fun h => absurd h hi⟩
  obtain ⟨aw, haw⟩ := Classical.axiomOfChoice h1
  have h2 : ∀ i : Nat, ∃ a : Nat, i < 17 → (tN (nmN i)).eval #[Value.ref b] s none [] s = some (.ref a) ∧ va_O "SieveDesk$Name" a (fun q => s.heap.size ≤ q) s s.heap := fun i => by
    by_cases hi : i < 17
    · obtain ⟨a, h⟩ := ex_of (hN _ (mN i hi) _ (List.mem_of_getElem? (i := 0) rfl)) hA
      exact ⟨a, fun _ => h⟩
    · exact ⟨0, fun h => absurd h hi⟩
  obtain ⟨an, han⟩ := Classical.axiomOfChoice h2
  have h3 : ∀ i : Nat, ∃ q : Nat × Nat × Nat, i < 116 → (tS (sI.getD i ("", 0))).eval #[Value.ref b] s none [] s = some (.ref q.1) ∧ ST q.1 q.2.1 q.2.2 (fun q => s.heap.size ≤ q) s s.heap := fun i => by
    by_cases hi : i < 116
    · have hm : sI.getD i ("", 0) ∈ sI := mem_getD (by rw [q_lw.2.2]; exact hi) _
      obtain ⟨e, he, hq⟩ := List.any_eq_true.mp (List.all_eq_true.mp q_i _ hm)
      simp only [Bool.and_eq_true, decide_eq_true_eq] at hq
      obtain ⟨q, h⟩ := st_of (hS e he) hq.2 hA
      exact ⟨q, fun _ => by rw [← hq.1]; exact h⟩
    · exact ⟨(0, 0, 0), fun h => absurd h hi⟩
  obtain ⟨sq, hsq⟩ := Classical.axiomOfChoice h3
  obtain ⟨t80, e80, v80⟩ := va_Tof (args := #[Value.ref b]) (s := s) (tm := tEW) (ty := .object "SieveDesk$Word") (N := 43) (f := fun i => .ref (aw i)) (A := fun q => s.heap.size ≤ q) (by decide) (hEW _ (List.mem_append_left _ (List.mem_of_getElem? (i := 0) rfl))) (va_eqt (hEW _ (List.mem_append_left _ (List.mem_of_getElem? (i := 1) rfl)))) (fun j hj => va_eqv (hEW _ (List.mem_append_right _ (List.mem_map.mpr ⟨j, List.mem_range.mpr hj, rfl⟩))) (haw j hj).1) hA
  obtain ⟨t81, e81, v81⟩ := va_Tof (args := #[Value.ref b]) (s := s) (tm := tEN) (ty := .object "SieveDesk$Name") (N := 17) (f := fun i => .ref (an i)) (A := fun q => s.heap.size ≤ q) (by decide) (hEN _ (List.mem_append_left _ (List.mem_of_getElem? (i := 0) rfl))) (va_eqt (hEN _ (List.mem_append_left _ (List.mem_of_getElem? (i := 1) rfl)))) (fun j hj => va_eqv (hEN _ (List.mem_append_right _ (List.mem_map.mpr ⟨j, List.mem_range.mpr hj, rfl⟩))) (han j hj).1) hA
  obtain ⟨k, k1, k2, k3, k4, k5, k6, k7⟩ : ∃ k : Nat → Nat, (∀ i, i < 43 → k i = aw i) ∧ (∀ i, i < 17 → k (50 + i) = an i) ∧ k 80 = t80 ∧ k 81 = t81 ∧ (∀ i, i < 116 → k (100 + i) = (sq i).1) ∧ (∀ i, i < 116 → k (300 + i) = (sq i).2.1) ∧ (∀ i, i < 116 → k (500 + i) = (sq i).2.2) := by
    refine ⟨fun n => if n < 43 then aw n else if n < 80 then an (n - 50) else if n = 80 then t80 else if n < 100 then t81 else if n < 300 then (sq (n - 100)).1 else if n < 500 then (sq (n - 300)).2.1 else (sq (n - 500)).2.2, fun i hi => if_pos hi, fun i hi => ?_, rfl, rfl, fun i hi => ?_, fun i hi => ?_, fun i hi => ?_⟩
    · show (if 50 + i < 43 then _ else if 50 + i < 80 then _ else _) = _
      rw [if_neg (by omega), if_pos (by omega), show 50 + i - 50 = i by omega]
    · show (if 100 + i < 43 then _ else if 100 + i < 80 then _ else if 100 + i = 80 then _ else if 100 + i < 100 then _ else if 100 + i < 300 then _ else _) = _
      rw [if_neg (by omega), if_neg (by omega), if_neg (by omega), if_neg (by omega), if_pos (by omega), show 100 + i - 100 = i by omega]
    · show (if 300 + i < 43 then _ else if 300 + i < 80 then _ else if 300 + i = 80 then _ else if 300 + i < 100 then _ else if 300 + i < 300 then _ else if 300 + i < 500 then _ else _) = _
      rw [if_neg (by omega), if_neg (by omega), if_neg (by omega), if_neg (by omega), if_neg (by omega), if_pos (by omega), show 300 + i - 300 = i by omega]
    · show (if 500 + i < 43 then _ else if 500 + i < 80 then _ else if 500 + i = 80 then _ else if 500 + i < 100 then _ else if 500 + i < 300 then _ else if 500 + i < 500 then _ else _) = _
      rw [if_neg (by omega), if_neg (by omega), if_neg (by omega), if_neg (by omega), if_neg (by omega), if_neg (by omega), show 500 + i - 500 = i by omega]
  have zW : ∀ i, i < 43 → va_Z "SieveDesk$Word" (nmW i) "LSieveDesk$Word;" (.ref (k i)) (fun q => s.heap.size ≤ q) s s.heap := fun i hi => by
    rw [k1 i hi]
    exact va_Zref (hts _ (q_sw i hi)) iW (haw i hi).1 hA
  have str : ∀ i, i < 116 → (tS (sI.getD i ("", 0))).eval #[Value.ref b] s none [] s = some (.ref (k (100 + i))) := fun i hi => by
    rw [k5 i hi]
    exact (hsq i hi).1
  refine ⟨k, fun w hw => ?_, va_AO.of (A := #[Value.ref b]) (hts _ (by decide +kernel)), fun q hq => ?_, fun i hi => ?_, fun i hi => ?_, fun i hi => ?_, ?_, ?_, fun q hq => ?_, va_Zof (hts _ (by decide +kernel)) (hts _ (by decide +kernel)) (va_eqt (hs (Cond.eq (.static "java/lang/String" "COMPACT_STRINGS" "Z") (.int 1)) (by decide +kernel))) hA, va_Zqof (hts _ (by decide +kernel)) (hts _ (by decide +kernel)) (hs (Cond.isRef (.static "jdk/internal/util/Preconditions" "SIOOBE_FORMATTER" "Ljava/util/function/BiFunction;")) (by decide +kernel)) hA⟩
  · have h1 := (List.mem_filter.mp hw).2
    simp only [Bool.and_eq_true] at h1
    exact va_Nw.of h1.1 (hts w (List.mem_filter.mp hw).1)
  · simp only [stL, List.mem_cons, List.not_mem_nil, or_false] at hq
    rcases hq with rfl | rfl | rfl | rfl | rfl | rfl | rfl | rfl | rfl
    · exact zW 0 (by decide)
    · exact zW 1 (by decide)
    · exact zW 2 (by decide)
    · exact zW 3 (by decide)
    · exact zW 4 (by decide)
    · exact zW 41 (by decide)
    · exact zW 42 (by decide)
    · show va_Z "SieveDesk$Word" "EACH" "[LSieveDesk$Word;" (.ref (k 80)) _ _ _
      rw [k3]
      exact va_Zref (hts _ (by decide +kernel)) iW e80 hA
    · show va_Z "SieveDesk$Name" "EACH" "[LSieveDesk$Name;" (.ref (k 81)) _ _ _
      rw [k4]
      exact va_Zref (hts _ (by decide +kernel)) iN e81 hA
  · have hm := hW _ (mW i hi)
    have he : (tW (nmW i)).eval #[Value.ref b] s none [] s = some (.ref (k i)) := by rw [k1 i hi]; exact (haw i hi).1
    have s1 := str (2 * i) (by omega)
    have s2 := str (2 * i + 1) (by omega)
    rw [(q_iw i hi).1] at s1
    rw [(q_iw i hi).2] at s2
    exact ⟨by rw [k1 i hi]; exact (haw i hi).2, ⟨_, vk_OFof he (va_eqt (hm _ (List.mem_of_getElem? (i := 2) rfl))) hA⟩, ⟨_, vk_OFof he (va_eqt (hm _ (List.mem_of_getElem? (i := 3) rfl))) hA⟩, ⟨_, vk_OFof he (va_eqt (hm _ (List.mem_of_getElem? (i := 4) rfl))) hA⟩, vk_OFof he (va_eqv (hm _ (List.mem_of_getElem? (i := 1) rfl)) s1) hA, vk_OFof he (va_eqv (hm _ (List.mem_of_getElem? (i := 5) rfl)) s2) hA⟩
  · have hm := hN _ (mN i hi)
    have he : (tN (nmN i)).eval #[Value.ref b] s none [] s = some (.ref (k (50 + i))) := by rw [k2 i hi]; exact (han i hi).1
    have s1 := str (90 + i) (by omega)
    rw [q_in i hi] at s1
    exact ⟨vk_OFof he (va_eqv (hm _ (List.mem_of_getElem? (i := 1) rfl)) s1) hA, ⟨_, vk_OFof he (va_eqt (hm _ (List.mem_of_getElem? (i := 2) rfl))) hA⟩⟩
  · rw [k5 i hi, k6 i hi, k7 i hi]
    exact (hsq i hi).2
  · rw [k3]
    obtain ⟨c, b1, b2, b3, b4, b5, b6, b7⟩ := v80
    exact ⟨c, b1, b2, b3, b4, b5, fun j hj => by rw [b6 j hj]; show some (Value.ref (aw j)) = some (Value.ref (k j)); rw [k1 j hj], b7⟩
  · rw [k4]
    obtain ⟨c, b1, b2, b3, b4, b5, b6, b7⟩ := v81
    exact ⟨c, b1, b2, b3, b4, b5, fun j hj => by rw [b6 j hj]; show some (Value.ref (an j)) = some (Value.ref (k (50 + j))); rw [k2 j hj], b7⟩
  · simp only [liL, List.mem_cons, List.not_mem_nil, or_false] at hq
    rcases hq with rfl | rfl | rfl | rfl | rfl | rfl | rfl | rfl | rfl
    · exact vk_R.of (A := #[Value.ref b]) (hts (Cond.stringRef "SieveDesk$Grammar" 59 "qc.") (by decide +kernel)) (str 107 (by decide))
    · exact vk_R.of (A := #[Value.ref b]) (hts (Cond.stringRef "SieveDesk$Grammar" 167 "c") (by decide +kernel)) (str 108 (by decide))
    · exact vk_R.of (A := #[Value.ref b]) (hts (Cond.stringRef "SieveDesk$Grammar" 172 "v") (by decide +kernel)) (str 109 (by decide))
    · exact vk_R.of (A := #[Value.ref b]) (hts (Cond.stringRef "SieveDesk$Grammar" 174 "tm") (by decide +kernel)) (str 110 (by decide))
    · exact vk_R.of (A := #[Value.ref b]) (hts (Cond.stringRef "SieveDesk$Grammar" 176 "g") (by decide +kernel)) (str 111 (by decide))
    · exact vk_R.of (A := #[Value.ref b]) (hts (Cond.stringRef "SieveDesk$Tokens" 105 "text") (by decide +kernel)) (str 112 (by decide))
    · exact vk_R.of (A := #[Value.ref b]) (hts (Cond.stringRef "SieveDesk$Tokens" 92 ";,()[]{}") (by decide +kernel)) (str 113 (by decide))
    · exact vk_R.of (A := #[Value.ref b]) (hts (Cond.stringRef "SieveDesk$Quoted" 43 "!#$%&'*+-/=?^_`{|}~") (by decide +kernel)) (str 114 (by decide))
    · exact vk_R.of (A := #[Value.ref b]) (hts (Cond.stringRef "SieveDesk$Quoted" 49 "-") (by decide +kernel)) (str 115 (by decide))


set_option maxHeartbeats 4000000 in
set_option maxRecDepth 100000 in
/-- what the start gives of the constants -/
theorem ke_start {s : State} {b : Nat} (hts : ∀ w ∈ lw_tbl, w.before #[Value.ref b] s = true) (hgv : (Jvm.Cond.and given_1 narrow_1).before #[Value.ref b] s = true) : ∃ k : Nat → Nat, KE k (fun q => s.heap.size ≤ q) s s.heap := by
  have hs := flat_of_before _ hgv
  have hA : ∀ a : Nat, a < s.heap.size → ¬ (fun q : Nat => s.heap.size ≤ q) a := fun a h => Nat.not_le.mpr h
  have iW : (Cond.initialized "SieveDesk$Word").before #[Value.ref b] s = true := hts _ (by decide +kernel)
  obtain ⟨a0, c0, cell0, k0, q1, q2, q3, q4, q5, q6, -⟩ := Cond.exactly_spec (hs (Cond.exactly (.static "SieveDesk$Word" "NONE" "LSieveDesk$Word;") "SieveDesk$Word") (by decide +kernel))
  obtain ⟨a1, c1, cell1, k1, r1, r2, r3, r4, r5, r6, -⟩ := Cond.exactly_spec (hs (Cond.exactly (.static "SieveDesk$Word" "REQUIRE" "LSieveDesk$Word;") "SieveDesk$Word") (by decide +kernel))
  have hne : a0 ≠ a1 := by
    intro e
    subst e
    have o0 := va_eqt (hs (Cond.eq (.field (.static "SieveDesk$Word" "NONE" "LSieveDesk$Word;") "java/lang/Enum" "ordinal" "I") (.int 0)) (by decide +kernel))
    have o1 := va_eqt (hs (Cond.eq (.field (.static "SieveDesk$Word" "REQUIRE" "LSieveDesk$Word;") "java/lang/Enum" "ordinal" "I") (.int 1)) (by decide +kernel))
    rw [va_fe q1] at o0
    rw [va_fe r1, o0] at o1
    simp at o1
  have hro := vk_OFof q1 (va_eqt (hs (Cond.eq (.field (.static "SieveDesk$Word" "NONE" "LSieveDesk$Word;") "SieveDesk$Word" "role" "I") (.int 0)) (by decide +kernel))) hA
  obtain ⟨adK, adV, hSt, hev⟩ := vk_Sof (args := #[Value.ref b]) (s := s) (N := 1) (tm := fun _ => (.string "SieveDesk$Grammar" 59)) (len := [3]) (byt := [[113, 99, 46]]) (A := fun q => s.heap.size ≤ q) (fun i hi => by rcases (show i = 0 by omega) with rfl; decide)
    (fun i hi => hs (Cond.exactly (.string "SieveDesk$Grammar" 59) "java/lang/String") (by decide +kernel))
    (fun i hi => hs (Cond.eq (.field (.string "SieveDesk$Grammar" 59) "java/lang/String" "coder" "B") (.int 0)) (by decide +kernel))
    (fun i hi => hs (Cond.arrayOf (.field (.string "SieveDesk$Grammar" 59) "java/lang/String" "value" "[B") .byte) (by decide +kernel))
    (fun i hi => by rcases (show i = 0 by omega) with rfl; exact hs (Cond.eq (.length (.field (.string "SieveDesk$Grammar" 59) "java/lang/String" "value" "[B")) (.int 3)) (by decide +kernel))
    (fun i hi j hj => by
      rcases (show i = 0 by omega) with rfl
      rcases (show j = 0 ∨ j = 1 ∨ j = 2 by have : j < 3 := hj; omega) with rfl | rfl | rfl
      · exact hs (Cond.eq (.elem (.field (.string "SieveDesk$Grammar" 59) "java/lang/String" "value" "[B") (.int 0)) (.int 113)) (by decide +kernel)
      · exact hs (Cond.eq (.elem (.field (.string "SieveDesk$Grammar" 59) "java/lang/String" "value" "[B") (.int 1)) (.int 99)) (by decide +kernel)
      · exact hs (Cond.eq (.elem (.field (.string "SieveDesk$Grammar" 59) "java/lang/String" "value" "[B") (.int 2)) (.int 46)) (by decide +kernel))
    (fun i j hi hj h => absurd (show i = j by omega) h) hA
  have hR : vk_R "SieveDesk$Grammar" 59 "qc." (adK 0) s := vk_R.of (A := #[Value.ref b]) (hts (Cond.stringRef "SieveDesk$Grammar" 59 "qc.") (by decide +kernel)) (hev 0 (by decide))
  refine ⟨fun i => match i with | 0 => a0 | 1 => a1 | 2 => adK 0 | _ => adV 0, fun w hw => ?_, va_AO.of (A := #[Value.ref b]) (hts _ (by decide +kernel)), va_Zref (hts _ (by decide +kernel)) iW q1 hA, va_Zref (hts _ (by decide +kernel)) iW r1 hA, hne, ⟨cell0, q3, q5, by rw [q6]; exact q2, hA a0 (Array.getElem?_eq_some_iff.mp q3).1⟩, hro, hR, ⟨fun i hi => ?_, fun i j hi hj _ => by omega⟩, va_Zof (hts _ (by decide +kernel)) (hts _ (by decide +kernel)) (va_eqt (hs (Cond.eq (.static "java/lang/String" "COMPACT_STRINGS" "Z") (.int 1)) (by decide +kernel))) hA, va_Zqof (hts _ (by decide +kernel)) (hts _ (by decide +kernel)) (hs (Cond.isRef (.static "jdk/internal/util/Preconditions" "SIOOBE_FORMATTER" "Ljava/util/function/BiFunction;")) (by decide +kernel)) hA⟩
  · have h1 := (List.mem_filter.mp hw).2
    simp only [Bool.and_eq_true] at h1
    exact va_Nw.of h1.1 (hts w (List.mem_filter.mp hw).1)
  · rcases (show i = 0 by omega) with rfl
    exact hSt.1 0 (by decide)

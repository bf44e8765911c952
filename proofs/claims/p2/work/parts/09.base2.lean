section WEV2
variable {p : Program} {l : Launch} {e : Env} {R : Room} {s : State} {m : MethodId} {args : Array Value} {below : List Frame} {meth : Method} {c : Code} {H : Heap} {locs : List Loc} {cells slots : Nat} {Q : State → Prop} {cc : ByteArray} {pc : Nat} {ls : Array Slot} {rest : List Value}
theorem lv_evv {a b : Value} (h : a = b) (kk : W p l e R s m args below meth c H locs cells slots Q (F0 m pc ls (b :: rest))) : W p l e R s m args below meth c H locs cells slots Q (F0 m pc ls (a :: rest)) := h ▸ kk
end WEV2
/-- what put says: n bytes come behind the L that are there, L1 are there then -/
def okP (L : Nat) (n : Int32) (L1 : Nat) : Prop := ∃ j : Nat, n = nI j ∧ 1 ≤ j ∧ j ≤ 8 ∧ L + j ≤ 400 ∧ L1 = L + j
theorem okP_of {L : Nat} {n : Int32} (h1 : ¬ n < 1) (h8 : ¬ 8 < n) : ∃ j : Nat, n = nI j ∧ 1 ≤ j ∧ j ≤ 8 := by
  have h0 : ¬ n < 0 := fun h => h1 (Int32.lt_trans h (by decide))
  obtain ⟨j, hj, rfl⟩ := nI_of h0
  refine ⟨j, rfl, ?_, ?_⟩
  · rcases Nat.lt_or_ge j 1 with q | q
    · exact absurd (nI_lt q (by omega)) h1
    · exact q
  · rcases Nat.lt_or_ge 8 j with q | q
    · exact absurd (nI_lt q hj) h8
    · exact q
theorem okP_lo {L : Nat} {n : Int32} (h : n < 1) : ∀ L1, ¬ okP L n L1 := fun L1 ⟨j, e, a, _⟩ => by
  subst e
  exact nI_nlt a (by omega) h
theorem okP_hi {L : Nat} {n : Int32} (h : 8 < n) : ∀ L1, ¬ okP L n L1 := fun L1 ⟨j, e, _, a, _⟩ => by
  subst e
  exact nI_nlt a (by omega) h

theorem PS.yd {ss a b c d e f g h : Int32} (q : PS ss a b c d e f g h) (hs : e.toInt ≤ ss.toInt) : YY ss e f g ≤ YY ss a b c ∧ (0 ≤ c.toInt ∨ YY ss e f g < YY ss a b c) := by
  refine ⟨q.pr.y hs, ?_⟩
  rcases Int.lt_or_le c.toInt 0 with h | h
  · exact Or.inr (q.y hs h)
  · exact Or.inl h

def PR (ss sa0 so0 fa0 op0 sa so fa op : Int32) : Prop := sa0.toInt ≤ sa.toInt ∧ ((0 ≤ fa.toInt ∧ so.toInt = 0 ∧ op.toInt = 0) ∨ (fa0.toInt < 0 ∧ fa.toInt < 0 ∧ op.toInt = op0.toInt ∧ 2 * (ss.toInt - sa.toInt) + tk so ≤ 2 * (ss.toInt - sa0.toInt) + tk so0))
def PS (ss sa0 so0 fa0 op0 sa so fa op : Int32) : Prop := sa0.toInt ≤ sa.toInt ∧ ((0 ≤ fa.toInt ∧ so.toInt = 0 ∧ op.toInt = 0) ∨ (fa0.toInt < 0 ∧ fa.toInt < 0 ∧ op.toInt = op0.toInt ∧ 2 * (ss.toInt - sa.toInt) + tk so + 1 ≤ 2 * (ss.toInt - sa0.toInt) + tk so0))
theorem PS.pr {ss a b c d e f g h : Int32} (q : PS ss a b c d e f g h) : PR ss a b c d e f g h := by unfold PS at q; unfold PR; omega
theorem PR.refl {ss sa so fa op : Int32} (h : fa.toInt < 0 ∨ (so.toInt = 0 ∧ op.toInt = 0)) : PR ss sa so fa op sa so fa op := by unfold PR; omega
theorem PR.fault {ss a b c d e f g h : Int32} (q : PR ss a b c d e f g h) (hf : 0 ≤ g.toInt) : PS ss a b c d e f g h := by unfold PR at q; unfold PS; omega
theorem rRR {ss a b c d e f g h e1 f1 g1 h1 : Int32} (p : PR ss a b c d e f g h) (q : PR ss e f g h e1 f1 g1 h1) : PR ss a b c d e1 f1 g1 h1 := by unfold PR at *; omega
theorem rRS {ss a b c d e f g h e1 f1 g1 h1 : Int32} (p : PR ss a b c d e f g h) (q : PS ss e f g h e1 f1 g1 h1) : PS ss a b c d e1 f1 g1 h1 := by unfold PR at *; unfold PS at *; omega
theorem rSR {ss a b c d e f g h e1 f1 g1 h1 : Int32} (p : PS ss a b c d e f g h) (q : PR ss e f g h e1 f1 g1 h1) : PS ss a b c d e1 f1 g1 h1 := by unfold PR at *; unfold PS at *; omega
theorem rSS {ss a b c d e f g h e1 f1 g1 h1 : Int32} (p : PS ss a b c d e f g h) (q : PS ss e f g h e1 f1 g1 h1) : PS ss a b c d e1 f1 g1 h1 := by unfold PS at *; omega
def YY (ss sa so fa : Int32) : Nat := (2 * (2 * (ss.toInt - sa.toInt) + tk so) + lvf fa).toNat
theorem PR.y {ss a b c d e f g h : Int32} (q : PR ss a b c d e f g h) (hs : e.toInt ≤ ss.toInt) : YY ss e f g ≤ YY ss a b c := by
  unfold PR at q
  unfold YY
  have := tk_spec f
  have := tk_spec b
  have := lv_spec g
  have := lv_spec c
  omega
theorem PS.y {ss a b c d e f g h : Int32} (q : PS ss a b c d e f g h) (hs : e.toInt ≤ ss.toInt) (hl : c.toInt < 0) : YY ss e f g < YY ss a b c := by
  unfold PS at q
  unfold YY
  have := tk_spec f
  have := tk_spec b
  have := lv_spec g
  have := lv_spec c
  omega
theorem pr_out {ss sa so fa op : Int32} (h0 : 0 ≤ fa.toInt) (h1 : so.toInt = 0) (h2 : op.toInt = 0) (a b c d : Int32) (ha : a.toInt ≤ sa.toInt) : PS ss a b c d sa so fa op := ⟨ha, Or.inl ⟨h0, h1, h2⟩⟩
theorem pr_same {ss sa so fa op so1 fa1 op1 : Int32} (h : (0 ≤ fa1.toInt ∧ so1.toInt = 0 ∧ op1.toInt = 0) ∨ (fa.toInt < 0 ∧ fa1.toInt < 0 ∧ so1.toInt = so.toInt ∧ op1.toInt = op.toInt)) : PR ss sa so fa op sa so1 fa1 op1 := by
  refine ⟨by omega, ?_⟩
  have := tk_spec so
  have := tk_spec so1
  omega
theorem ps_next {ss sa so fa op sa1 so1 fa1 op1 : Int32} (h : 0 ≤ fa1.toInt ∧ so1.toInt = 0 ∧ op1.toInt = 0 ∨ (fa.toInt < 0 ∧ fa1.toInt < 0 ∧ op1.toInt = op.toInt ∧ (so1.toInt = 0 ∨ sa.toInt < sa1.toInt))) (hs : sa.toInt ≤ sa1.toInt) : PS ss sa so fa op sa1 so1 fa1 op1 ∨ (so.toInt = 0 ∧ fa.toInt < 0) := by
  have := tk_spec so
  have := tk_spec so1
  unfold PS
  omega
theorem pr_next {ss sa so fa op sa1 so1 fa1 op1 : Int32} (h : 0 ≤ fa1.toInt ∧ so1.toInt = 0 ∧ op1.toInt = 0 ∨ (fa.toInt < 0 ∧ fa1.toInt < 0 ∧ op1.toInt = op.toInt ∧ (so1.toInt = 0 ∨ sa.toInt < sa1.toInt))) (hs : sa.toInt ≤ sa1.toInt) : PR ss sa so fa op sa1 so1 fa1 op1 := by
  have := tk_spec so
  have := tk_spec so1
  unfold PR
  omega

def PU (ss sa0 so0 fa0 sa so fa : Int32) : Prop := sa0.toInt ≤ sa.toInt ∧ ((0 ≤ fa.toInt ∧ so.toInt = 0) ∨ (fa0.toInt < 0 ∧ fa.toInt < 0 ∧ 2 * (ss.toInt - sa.toInt) + tk so ≤ 2 * (ss.toInt - sa0.toInt) + tk so0))
def PT (ss sa0 so0 fa0 sa so fa : Int32) : Prop := sa0.toInt ≤ sa.toInt ∧ ((0 ≤ fa.toInt ∧ so.toInt = 0) ∨ (fa0.toInt < 0 ∧ fa.toInt < 0 ∧ 2 * (ss.toInt - sa.toInt) + tk so + 1 ≤ 2 * (ss.toInt - sa0.toInt) + tk so0))
theorem PR.pu {ss a b c d e f g h : Int32} (q : PR ss a b c d e f g h) : PU ss a b c e f g := by unfold PR at q; unfold PU; omega
theorem PS.pt {ss a b c d e f g h : Int32} (q : PS ss a b c d e f g h) : PT ss a b c e f g := by unfold PS at q; unfold PT; omega
theorem PT.pu {ss a b c e f g : Int32} (q : PT ss a b c e f g) : PU ss a b c e f g := by unfold PT at q; unfold PU; omega
theorem uUU {ss a b c e f g e1 f1 g1 : Int32} (p : PU ss a b c e f g) (q : PU ss e f g e1 f1 g1) : PU ss a b c e1 f1 g1 := by unfold PU at *; omega
theorem uUT {ss a b c e f g e1 f1 g1 : Int32} (p : PU ss a b c e f g) (q : PT ss e f g e1 f1 g1) : PT ss a b c e1 f1 g1 := by unfold PU at *; unfold PT at *; omega
theorem uTU {ss a b c e f g e1 f1 g1 : Int32} (p : PT ss a b c e f g) (q : PU ss e f g e1 f1 g1) : PT ss a b c e1 f1 g1 := by unfold PU at *; unfold PT at *; omega
theorem uTT {ss a b c e f g e1 f1 g1 : Int32} (p : PT ss a b c e f g) (q : PT ss e f g e1 f1 g1) : PT ss a b c e1 f1 g1 := by unfold PT at *; omega
theorem PU.y {ss a b c e f g : Int32} (q : PU ss a b c e f g) (hs : e.toInt ≤ ss.toInt) : YY ss e f g ≤ YY ss a b c := by
  unfold PU at q
  unfold YY
  have := tk_spec f
  have := tk_spec b
  have := lv_spec g
  have := lv_spec c
  omega
theorem PT.yd {ss a b c e f g : Int32} (q : PT ss a b c e f g) (hs : e.toInt ≤ ss.toInt) : YY ss e f g ≤ YY ss a b c ∧ (0 ≤ c.toInt ∨ YY ss e f g < YY ss a b c) := by
  unfold PT at q
  unfold YY
  have := tk_spec f
  have := tk_spec b
  have := lv_spec g
  have := lv_spec c
  omega
def pr2 (y x : Nat) : Bool := match x with
  | 1 => y == 0 || y == 1 || y == 3
  | 2 => y == 0 || y == 1 || y == 3
  | 3 => y == 0 || y == 1
  | 4 => y == 2 || y == 5 || y == 6
  | 5 => y == 6
  | 6 => y == 2 || y == 5 || y == 6
  | _ => false
def wfp : List Nat → Prop
  | [] => True
  | [x] => x = 0
  | x :: y :: L => pr2 y x = true ∧ wfp (y :: L)
theorem wfp.tail {x : Nat} {L : List Nat} (h : wfp (x :: L)) : wfp L := by
  cases L with
  | nil => trivial
  | cons y L => exact h.2
theorem wfp.re {x z : Nat} {L : List Nat} (h : wfp (x :: L)) (h0 : x ≠ 0) (hz : ∀ y, pr2 y x = true → pr2 y z = true) : wfp (z :: L) := by
  cases L with
  | nil => exact absurd h h0
  | cons y L => exact ⟨hz y h.1, h.2⟩
theorem pr2_21 : ∀ y, pr2 y 2 = true → pr2 y 1 = true := fun y h => h
theorem pr2_32 : ∀ y, pr2 y 3 = true → pr2 y 2 = true := fun y h => by simp [pr2] at h ⊢; omega
theorem pr2_46 : ∀ y, pr2 y 4 = true → pr2 y 6 = true := fun y h => h
theorem wfp.le6 {x : Nat} {L : List Nat} (h : wfp (x :: L)) : x = 0 ∨ x = 1 ∨ x = 2 ∨ x = 3 ∨ x = 4 ∨ x = 5 ∨ x = 6 := by
  cases L with
  | nil => exact Or.inl h
  | cons y L =>
    have h1 := h.1
    by_cases q : x ≤ 6
    · omega
    · exfalso
      unfold pr2 at h1
      split at h1 <;> first | omega | exact absurd h1 (by decide)
def ex (x : Nat) : Nat := match x with | 0 => 0 | 1 => 0 | 2 => 2 | 3 => 1 | 4 => 3 | 5 => 2 | _ => 1
theorem wfp.len : ∀ (L : List Nat) (x : Nat), wfp (x :: L) → L.length + 1 ≤ 1 + 2 * List.count 1 (x :: L) + 2 * List.count 6 (x :: L) + ex x := by
  intro L
  induction L with
  | nil =>
    intro x h
    have : x = 0 := h
    subst this
    decide
  | cons y L ih =>
    intro x h
    have h2 := ih y h.2
    have h1 := h.1
    have e1 : List.count 1 (x :: y :: L) = List.count 1 (y :: L) + (if x = 1 then 1 else 0) := by simp [List.count_cons]
    have e6 : List.count 6 (x :: y :: L) = List.count 6 (y :: L) + (if x = 6 then 1 else 0) := by simp [List.count_cons]
    rw [e1, e6]
    simp only [List.length_cons] at h2 ⊢
    rcases h.le6 with rfl | rfl | rfl | rfl | rfl | rfl | rfl <;> simp [pr2] at h1 <;> (try rcases h1 with (rfl | rfl) | rfl) <;> (try rcases h1 with rfl | rfl) <;> (try subst h1) <;> simp [ex] at h2 ⊢ <;> omega
def SI (L : List Nat) (fa op : Int32) (ro : Nat → Int32) : Prop := fa.toInt < 0 → (wfp L ∧ op.toInt = L.length ∧ ∀ j, j < L.length → ro j = nI (L.getD (L.length - 1 - j) 0))
theorem SI_fault {L : List Nat} {fa op : Int32} {ro : Nat → Int32} (h : 0 ≤ fa.toInt) : SI L fa op ro := fun q => by omega
theorem SI_pr {L : List Nat} {ss a b fa op e f fa1 op1 : Int32} {ro : Nat → Int32} (h : SI L fa op ro) (q : PR ss a b fa op e f fa1 op1) : SI L fa1 op1 ro := fun hl => by
  unfold PR at q
  obtain ⟨h1, h2, h3⟩ := h (by omega)
  exact ⟨h1, by omega, h3⟩
theorem SI_push {L : List Nat} {fa op op1 : Int32} {ro ro1 : Nat → Int32} {x : Nat} (h : SI L fa op ro) (hw : fa.toInt < 0 → wfp (x :: L)) (q : (0 ≤ fa.toInt ∧ op1 = op ∧ ro1 = ro) ∨ (fa.toInt < 0 ∧ op1.toInt = op.toInt + 1 ∧ ro1 = upd ro (Int32.toNatClampNeg op) (nI x))) : SI (x :: L) fa op1 ro1 := fun hl => by
  obtain ⟨h1, h2, h3⟩ := h hl
  rcases q with ⟨q1, _⟩ | ⟨_, q2, q3⟩
  · omega
  · refine ⟨hw hl, by simp only [List.length_cons]; omega, fun j hj => ?_⟩
    have ht : Int32.toNatClampNeg op = L.length := by show op.toInt.toNat = _; omega
    rw [q3, ht]
    by_cases e : j = L.length
    · subst e
      rw [show upd ro L.length (nI x) L.length = nI x from pk_us]
      simp
    · have hj2 : j < L.length := by simp only [List.length_cons] at hj; omega
      rw [show upd ro L.length (nI x) j = ro j from pk_un e, h3 j hj2]
      congr 1
      rw [show (x :: L).length - 1 - j = (L.length - 1 - j) + 1 by simp only [List.length_cons]; omega]
      rfl
theorem SI_pop {L : List Nat} {fa op : Int32} {ro : Nat → Int32} (h : SI L fa op ro) (hl : fa.toInt < 0) (ho : 0 < op.toInt) : ∃ (x : Nat) (L1 : List Nat), L = x :: L1 ∧ wfp (x :: L1) ∧ op.toInt = (L1.length : Int) + 1 ∧ ∀ op1 : Int32, op1.toInt = op.toInt - 1 → SI L1 fa op1 ro ∧ ro (Int32.toNatClampNeg op1) = nI x := by
  obtain ⟨h1, h2, h3⟩ := h hl
  cases L with
  | nil => simp only [List.length_nil] at h2; omega
  | cons x L1 =>
    simp only [List.length_cons] at h2
    refine ⟨x, L1, rfl, h1, by omega, fun op1 e => ?_⟩
    have ht : Int32.toNatClampNeg op1 = L1.length := by show op1.toInt.toNat = _; omega
    refine ⟨fun _ => ⟨h1.tail, by omega, fun j hj => ?_⟩, ?_⟩
    · rw [h3 j (by simp only [List.length_cons]; omega)]
      congr 1
      rw [show (x :: L1).length - 1 - j = (L1.length - 1 - j) + 1 by simp only [List.length_cons]; omega]
      rfl
    · rw [ht, h3 L1.length (by simp)]
      simp
theorem SI_op {L : List Nat} {fa op : Int32} {ro : Nat → Int32} (h : SI L fa op ro) : 0 ≤ fa.toInt ∨ op.toInt = (L.length : Int) := by
  rcases Int.lt_or_le fa.toInt 0 with q | q
  · exact Or.inr (h q).2.1
  · exact Or.inl q

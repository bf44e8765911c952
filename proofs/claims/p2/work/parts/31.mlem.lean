def tk (x : Int32) : Nat := if x = 0 then 0 else 1
theorem tk_spec (x : Int32) : (x.toInt = 0 ∧ tk x = 0) ∨ (x.toInt ≠ 0 ∧ tk x = 1) := by
  unfold tk
  by_cases h : x = 0
  · left
    rw [if_pos h, h]
    exact ⟨by decide, rfl⟩
  · right
    rw [if_neg h]
    exact ⟨fun e => h (Int32.toInt_inj.mp (by rw [e]; decide)), rfl⟩
def lvf (x : Int32) : Nat := if x < 0 then 1 else 0
theorem lv_spec (x : Int32) : (x.toInt < 0 ∧ lvf x = 1) ∨ (0 ≤ x.toInt ∧ lvf x = 0) := by
  unfold lvf
  by_cases h : x < 0
  · left
    rw [if_pos h]
    exact ⟨i_lt h rfl (show Int32.toInt 0 = 0 by decide), rfl⟩
  · right
    rw [if_neg h]
    exact ⟨i_nlt h rfl (show Int32.toInt 0 = 0 by decide), rfl⟩
theorem i_mul {x y : Int32} {a b : Int} (hx : x.toInt = a) (hy : y.toInt = b) (h1 : -2147483648 ≤ a * b) (h2 : a * b ≤ 2147483647) : (x * y).toInt = a * b := by
  rw [Int32.toInt_mul, hx, hy]
  exact Int.bmod_eq_of_le (by omega) (by omega)
theorem i_div8 {x : Int32} {a : Int} (e : x.toInt = a) (h : 0 ≤ a ∧ a < 32) : 0 ≤ (x / 8).toInt ∧ (x / 8).toInt < 4 := by
  have h0 : ¬ x < 0 := fun q => by
    have := i_lt q e (show Int32.toInt 0 = 0 by decide)
    omega
  obtain ⟨j, hj, rfl⟩ := nI_of h0
  rw [nI_toInt hj] at e
  rw [show (8 : Int32) = nI 8 from rfl, pk_div hj (by decide) (by decide), nI_toInt (by omega)]
  omega
def pkI (sr : Nat → Int32) (ss sa q : Int32) : Int := Int32.toInt (if sa + q < ss then sr (Int32.toNatClampNeg (sa + q)) else -1)
theorem pkq_in {sr : Nat → Int32} {ss sa q : Int32} (h : ¬ ss ≤ sa + q) : Int32.toInt (sr (Int32.toNatClampNeg (sa + q))) = pkI sr ss sa q := by
  unfold pkI
  rw [if_pos (Int32.not_le.mp h)]
theorem pkq_out {sr : Nat → Int32} {ss sa q : Int32} (h : ss ≤ sa + q) : Int32.toInt (-1) = pkI sr ss sa q := by
  unfold pkI
  rw [if_neg (Int32.not_lt.mpr h)]

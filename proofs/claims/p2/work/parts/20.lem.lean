/-! Int facts of Int32, for omega -/
theorem i_le {x y : Int32} {a b : Int} (c : x ≤ y) (hx : x.toInt = a) (hy : y.toInt = b) : a ≤ b := by
  have := Int32.le_iff_toInt_le.mp c
  omega
theorem i_nle {x y : Int32} {a b : Int} (c : ¬ x ≤ y) (hx : x.toInt = a) (hy : y.toInt = b) : b < a := by
  have : ¬ x.toInt ≤ y.toInt := fun h => c (Int32.le_iff_toInt_le.mpr h)
  omega
theorem i_lt {x y : Int32} {a b : Int} (c : x < y) (hx : x.toInt = a) (hy : y.toInt = b) : a < b := by
  have := Int32.lt_iff_toInt_lt.mp c
  omega
theorem i_nlt {x y : Int32} {a b : Int} (c : ¬ x < y) (hx : x.toInt = a) (hy : y.toInt = b) : b ≤ a := by
  have : ¬ x.toInt < y.toInt := fun h => c (Int32.lt_iff_toInt_lt.mpr h)
  omega
theorem i_eq {x y : Int32} {a b : Int} (c : x = y) (hx : x.toInt = a) (hy : y.toInt = b) : a = b := by
  rw [← hx, ← hy, c]
theorem i_ne {x y : Int32} {a b : Int} (c : ¬ x = y) (hx : x.toInt = a) (hy : y.toInt = b) : a ≠ b := fun e => c (Int32.toInt_inj.mp (by rw [hx, hy, e]))
theorem i_add {x y : Int32} {a b : Int} (hx : x.toInt = a) (hy : y.toInt = b) (h1 : -2147483648 ≤ a + b) (h2 : a + b ≤ 2147483647) : (x + y).toInt = a + b := by
  rw [Int32.toInt_add, hx, hy]
  exact Int.bmod_eq_of_le (by omega) (by omega)
theorem i_sub {x y : Int32} {a b : Int} (hx : x.toInt = a) (hy : y.toInt = b) (h1 : -2147483648 ≤ a - b) (h2 : a - b ≤ 2147483647) : (x - y).toInt = a - b := by
  rw [Int32.toInt_sub, hx, hy]
  exact Int.bmod_eq_of_le (by omega) (by omega)
theorem i_in {x : Int32} {a : Int} {n : Nat} (e : x.toInt = a) (h0 : 0 ≤ a) (h1 : a < (n : Int)) : vp_in x n := vp_in_iff.mpr ⟨by omega, by omega⟩
theorem i_cl {x : Int32} {a : Int} {n : Nat} (e : x.toInt = a) (h0 : 0 ≤ a) (h1 : a < (n : Int)) : x.toNatClampNeg < n := by
  show x.toInt.toNat < n
  omega
theorem tsw {offs : Array Int} {n : Nat} (L : List Int) (h : (List.range n).all (fun j => match offs[j]? with | some o => L.contains o | none => false) = true) {j : Nat} (hj : j < n) : ∃ off, offs[j]? = some off ∧ off ∈ L := by
  have h1 := List.all_eq_true.mp h j (List.mem_range.mpr hj)
  cases ho : offs[j]? with
  | none => simp [ho] at h1
  | some o => exact ⟨o, rfl, by simpa [ho] using h1⟩
theorem lsw {ps : List (Int × Int)} {d : Int} {L : List Int} (h : (L.contains d && ps.all (fun q => L.contains q.2)) = true) (x : Int) : Op.lookupswitch.offset ps d x ∈ L := by
  simp only [Bool.and_eq_true] at h
  obtain ⟨hd, hp⟩ := h
  induction ps with
  | nil => simpa [Op.lookupswitch.offset] using hd
  | cons q r ih =>
    obtain ⟨a, o⟩ := q
    simp only [List.all_cons, Bool.and_eq_true] at hp
    rw [Op.lookupswitch.offset_cons]
    by_cases e : a = x
    · rw [if_pos e]
      simpa using hp.1
    · rw [if_neg e]
      exact ih hp.2
theorem lsw_ge {ps : List (Int × Int)} {d x off : Int} (ho : Op.lookupswitch.offset ps d x = off) (hne : off ≠ d) (hk : ps.all (fun q => decide (0 ≤ q.1)) = true) : 0 ≤ x := by
  induction ps with
  | nil => exact absurd ho.symm hne
  | cons q r ih =>
    obtain ⟨a, o⟩ := q
    simp only [List.all_cons, Bool.and_eq_true, decide_eq_true_eq] at hk
    rw [Op.lookupswitch.offset_cons] at ho
    by_cases e : a = x
    · rw [← e]; exact hk.1
    · rw [if_neg e] at ho
      exact ih ho hk.2
theorem i_a255 (x : Int32) : 0 ≤ (x &&& 255).toInt ∧ (x &&& 255).toInt ≤ 255 := by
  obtain ⟨j, hj, e⟩ := pk_andE x (m := 255) 8 (by decide)
  rw [e, nI_toInt (by omega)]
  omega
theorem i_max {x y r : Int32} (e : r = if x < y then y else x) : x.toInt ≤ r.toInt ∧ y.toInt ≤ r.toInt ∧ (r.toInt = x.toInt ∨ r.toInt = y.toInt) := by
  by_cases h : x < y
  · rw [if_pos h] at e
    have := Int32.lt_iff_toInt_lt.mp h
    subst e
    omega
  · rw [if_neg h] at e
    have : ¬ x.toInt < y.toInt := fun q => h (Int32.lt_iff_toInt_lt.mpr q)
    subst e
    omega
theorem i_min {x y r : Int32} (e : r = if y < x then y else x) : r.toInt ≤ x.toInt ∧ r.toInt ≤ y.toInt ∧ (r.toInt = x.toInt ∨ r.toInt = y.toInt) := by
  by_cases h : y < x
  · rw [if_pos h] at e
    have := Int32.lt_iff_toInt_lt.mp h
    subst e
    omega
  · rw [if_neg h] at e
    have : ¬ y.toInt < x.toInt := fun q => h (Int32.lt_iff_toInt_lt.mpr q)
    subst e
    omega
def WOk (k : Nat → Nat) (f : Nat → Option Nat) : Prop := ∀ j, f j = none ∨ ∃ i, i < 43 ∧ f j = some (k i)
theorem WOk.up {k : Nat → Nat} {f : Nat → Option Nat} (h : WOk k f) (j : Nat) {i : Nat} (hi : i < 43) : WOk k (va_up f j (some (k i))) := fun q => by
  by_cases e : q = j
  · exact Or.inr ⟨i, hi, if_pos e⟩
  · rw [show va_up f j (some (k i)) q = f q from if_neg e]
    exact h q
theorem cr_of {p : Program} {l : Launch} {e : Env} {R : Room} {s : State} {m : MethodId} {args : Array Value} {below : List Frame} {meth : Method} {c : Code} {H : Heap} {locs : List Loc} {cells slots mc ms : Nat} {g : JFrame} {rest : List Value} {Qa : State → Outcome → State → Prop} {free : Addr → Prop} (h : va_Run p l e R s m args below meth c H locs cells slots mc ms g rest Qa free) : CallRun p l e R s m args below meth c H locs cells slots mc ms g rest Qa free := fun T hT X => by
  obtain ⟨v, st, t, T1, L, a1, a2, a3, a4, _, a6, a7⟩ := h T hT X
  exact ⟨v, st, t, T1, L, a1, a2, a3, a4, a6, a7⟩


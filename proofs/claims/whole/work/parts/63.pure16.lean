/-! the class's rows -/
def rowQ (i : Nat) : Option Nat := if i < 8 then some (15 + 2 * i) else none
theorem rowQ_at {i : Nat} (h : i < 8) : rowQ i = some (15 + 2 * i) := if_pos h
def rowC (r : Int) : Nat := if 0 ≤ r ∧ r ≤ 7 then 15 + 2 * r.toNat else 15
theorem rowC_y {r : Nat} (h : r ≤ 7) : rowC (r : Int) = 15 + 2 * r := by unfold rowC; rw [if_pos (by omega)]; omega
theorem rowC_rng (r : Int) : 15 ≤ rowC r ∧ rowC r ≤ 29 := by unfold rowC; split <;> omega
theorem rowC_ne {r q : Int} (h : r ≠ q) (hr : 0 ≤ r ∧ r ≤ 7) (hq : 0 ≤ q ∧ q ≤ 7) : rowC r + 2 ≤ rowC q ∨ rowC q + 2 ≤ rowC r := by
  unfold rowC; rw [if_pos hr, if_pos hq]; omega
/-- of 24 acts and 2 images -/
def actQ (j : Nat) : Option Nat := if j < 24 then some (31 + 5 * j) else none
theorem actQ_at {i : Nat} (h : i < 24) : actQ i = some (31 + 5 * i) := if_pos h
def imgQ (j : Nat) : Option Nat := if j < 2 then some (151 + 5 * j) else none
theorem imgQ_at {i : Nat} (h : i < 2) : imgQ i = some (151 + 5 * i) := if_pos h
theorem psA_no {c i : Nat} {p : Nat → Int} (h : ¬ (i : Int) < p 4) : psA c p i = none := by unfold psA; rw [if_neg h]

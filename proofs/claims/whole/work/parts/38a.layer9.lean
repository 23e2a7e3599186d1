theorem xCh_rng {i k : Nat} (hi : i < 9) (hk : k < xLen.getD i 0) : 0 ≤ xCh i k ∧ xCh i k ≤ 255 := by
  have h : ∀ i, i < 9 → ∀ k, k < xLen.getD i 0 → 0 ≤ xCh i k ∧ xCh i k ≤ 255 := by decide +kernel
  exact h i hi k hk
theorem afill_s {x y : Nat → Int} {j : Nat} (h : ∀ q : Nat, q < j → x q = y q) (hx : x j = y j) : ∀ q : Nat, q < j + 1 → x q = y q := fun q hq => by
  by_cases h1 : q = j
  · rw [h1]; exact hx
  · exact h q (by omega)

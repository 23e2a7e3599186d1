theorem rowOk_rng (it : Nat → Int) (o : Nat) : ∀ k, 0 ≤ rowOk it o k ∧ rowOk it o k ≤ 1
  | 0 => by show (0 : Int) ≤ 1 ∧ (1 : Int) ≤ 1; omega
  | k + 1 => by
    unfold rowOk
    split <;> omega

theorem wentB_rng (p : Nat → Int) (l : Cor) (it : Nat → Int) (o : Nat) : ∀ q, q ≤ 240 → -1000000 ≤ wentB p l it o q ∧ wentB p l it o q ≤ 240
  | 0, _ => ⟨(by decide : (-1000000 : Int) ≤ -1000000), (by decide : (-1000000 : Int) ≤ 240)⟩
  | q + 1, h => by
    have h1 := wentB_rng p l it o q (by omega)
    unfold wentB
    split <;> omega
theorem rowOk_8 {it : Nat → Int} {o k : Nat} (hk : k < 8) (h : ¬ (0 ≤ it (o + k) ∧ it (o + k) ≤ 6)) : rowOk it o 8 = 0 := by
  have e := rowOk_no h (7 - k)
  rw [show k + 1 + (7 - k) = 8 by omega] at e
  exact e
theorem cp_f {it : Nat → Int} {s d k : Nat} (h : ¬ (d ≤ s + k ∧ s + k < d + k)) : va_up (cpI it it s d k) (d + k) (cpI it it s d k (s + k)) = cpI it it s d (k + 1) := by
  funext q
  by_cases hq : q = d + k
  · subst hq
    rw [va_up_self]
    unfold cpI
    rw [if_neg h, if_pos (by omega), show s + (d + k - d) = s + k by omega]
  · rw [va_up_ne _ _ hq]
    unfold cpI
    by_cases h1 : d ≤ q ∧ q < d + k
    · rw [if_pos h1, if_pos (by omega)]
    · rw [if_neg h1, if_neg (by omega)]
theorem cp_b {it : Nat → Int} {s d m k : Nat} (hm : 1 ≤ m) (h : ¬ (d + m ≤ s + (m - 1) ∧ s + (m - 1) < d + m + k)) : va_up (cpI it it (s + m) (d + m) k) (d + (m - 1)) (cpI it it (s + m) (d + m) k (s + (m - 1))) = cpI it it (s + (m - 1)) (d + (m - 1)) (k + 1) := by
  funext q
  by_cases hq : q = d + (m - 1)
  · subst hq
    rw [va_up_self]
    unfold cpI
    rw [if_neg h, if_pos (by omega), show s + (m - 1) + (d + (m - 1) - (d + (m - 1))) = s + (m - 1) by omega]
  · rw [va_up_ne _ _ hq]
    unfold cpI
    by_cases h1 : d + m ≤ q ∧ q < d + m + k
    · rw [if_pos h1, if_pos (by omega), show s + m + (q - (d + m)) = s + (m - 1) + (q - (d + (m - 1))) by omega]
    · rw [if_neg h1, if_neg (by omega)]

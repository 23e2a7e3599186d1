/-! the line behind the best; one of an outcome of NONE -/
theorem mid_mv {p : Nat → Int} {l : Cor} {who : Nat} {b bl m : Int} (h : bestR (bestF p l who 48) b bl m) : mvA p l who (b + 1).toNat = midA p l who (bestF p l who 48) := by
  rcases bestR_cases h with ⟨h1, h2⟩ | ⟨c, hc, h1, -, h2, -⟩
  · rw [h2]
    show mvA p l who (b + 1).toNat = l
    unfold mvA
    rw [if_pos (by omega)]
  · rw [h2]
    show mvA p l who (b + 1).toNat = crossA (p (5 + who)) (p 2) c l
    unfold mvA
    rw [if_neg (by omega), show (b + 1).toNat - 1 = c by omega]
theorem gameV_rng {p : Nat → Int} {l : Cor} {x y k : Nat} (hp : POk p) : -38400 ≤ gameV p l x y k ∧ gameV p l x y k ≤ 38400 := leadA_rng hp
theorem best_lead {p : Nat → Int} {l : Cor} {who c : Nat} {b bl m : Int} (h : bestR (bestF p l who 48) b bl m) (hb : b = (c : Int)) : bl = leadA p (crossA (p (5 + who)) (p 2) c l) (p (10 + who)) := by
  rcases bestR_cases h with ⟨h1, -⟩ | ⟨c9, hc, h1, -, -, h5⟩
  · omega
  · rw [show c = c9 by omega]; exact h5

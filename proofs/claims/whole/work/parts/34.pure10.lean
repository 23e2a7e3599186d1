/-! a byte of a word; bytes laid behind the tape -/
def bytW (w : Int64) (k : Nat) : Int := ((w >>> ((zI ((8 * k : Nat) : Int)).toInt64 &&& 63)) &&& zL 255).toInt32.toInt
theorem bytW_rng (w : Int64) (k : Nat) : 0 ≤ bytW w k ∧ bytW w k ≤ 255 := by
  unfold bytW
  generalize w >>> ((zI ((8 * k : Nat) : Int)).toInt64 &&& 63) = x
  have h0 : (x.toBitVec &&& 255#64).toNat ≤ 255 := by
    rw [BitVec.toNat_and]
    exact Nat.and_le_right
  have h1 : (x &&& zL 255).toInt = ((x.toBitVec &&& 255#64).toNat : Int) := by
    have e : (x &&& zL 255).toInt = (x.toBitVec &&& 255#64).toInt := rfl
    rw [e, BitVec.toInt_eq_toNat_of_lt (by omega)]
  rw [Int64.toInt_toInt32, h1, Int.bmod_eq_of_le (by omega) (by omega)]
  omega
def fdA (t : Nat → Int) (m n : Nat) (w : Int64) (j : Nat) : Nat → Int := fun q => if m ≤ q ∧ q < m + j then bytW w (n - 1 - (q - m)) else t q
theorem fdA_0 (t : Nat → Int) (m n : Nat) (w : Int64) : fdA t m n w 0 = t := by
  funext q; unfold fdA; rw [if_neg (by omega)]
theorem fdA_s {t : Nat → Int} {m n : Nat} {w : Int64} {j : Nat} (h : j < n) : va_up (fdA t m n w j) (m + j) (bytW w (n - 1 - j)) = fdA t m n w (j + 1) := by
  funext q
  by_cases hq : q = m + j
  · subst hq; rw [va_up_self]; unfold fdA; rw [if_pos (by omega)]; congr 1; omega
  · rw [va_up_ne _ _ hq]
    unfold fdA
    by_cases h2 : m ≤ q ∧ q < m + j
    · rw [if_pos h2, if_pos (by omega)]
    · rw [if_neg h2, if_neg (by omega)]
theorem fdA_rng {t : Nat → Int} {m n : Nat} {w : Int64} {j : Nat} (h : ∀ i, 0 ≤ t i ∧ t i ≤ 255) : ∀ i, 0 ≤ fdA t m n w j i ∧ fdA t m n w j i ≤ 255 := fun i => by
  unfold fdA; split
  · exact bytW_rng _ _
  · exact h i

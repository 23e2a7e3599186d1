/-! the tape's tokens -/
def skG (t : Nat → Int) (n : Nat) : Nat → Nat → Nat
  | 0, a => a
  | f + 1, a => if a < n ∧ (t a = 32 ∨ t a = 10) then skG t n f (a + 1) else a
/-- past the blanks from a on -/
def skT (t : Nat → Int) (n a : Nat) : Nat := skG t n (n - a) a
theorem skT_go {t : Nat → Int} {n a : Nat} (h : a < n) (hb : t a = 32 ∨ t a = 10) : skT t n (a + 1) = skT t n a := by
  unfold skT
  rw [show n - a = n - (a + 1) + 1 by omega, skG, if_pos ⟨h, hb⟩]
theorem skT_end {t : Nat → Int} {n a : Nat} (h : ¬ (a < n ∧ (t a = 32 ∨ t a = 10))) : skT t n a = a := by
  unfold skT
  cases n - a with
  | zero => rfl
  | succ f => rw [skG, if_neg h]
def reG (t : Nat → Int) (n : Nat) (k : Int) : Nat → Nat → Nat
  | 0, a => a
  | f + 1, a => if a < n ∧ srt (t a) = k then reG t n k f (a + 1) else a
/-- the end of the run of one sort from a on -/
def reT (t : Nat → Int) (n : Nat) (k : Int) (a : Nat) : Nat := reG t n k (n - a) a
theorem reT_go {t : Nat → Int} {n a : Nat} {k : Int} (h : a < n) (hb : srt (t a) = k) : reT t n k (a + 1) = reT t n k a := by
  unfold reT
  rw [show n - a = n - (a + 1) + 1 by omega, reG, if_pos ⟨h, hb⟩]
theorem reT_end {t : Nat → Int} {n a : Nat} {k : Int} (h : ¬ (a < n ∧ srt (t a) = k)) : reT t n k a = a := by
  unfold reT
  cases n - a with
  | zero => rfl
  | succ f => rw [reG, if_neg h]
/-- the number that a run of j bytes from b on is -/
def valT (t : Nat → Int) (k : Int) (b : Nat) : Nat → Int
  | 0 => 0
  | j + 1 => if 7 < j then -1 else if k = 1 then 32 * valT t k b j + t (b + j) - 96 else 10 * valT t k b j + t (b + j) - 48
def tokK (t : Nat → Int) (n a : Nat) : Int := if skT t n a < n then (if srt (t (skT t n a)) = 2 ∧ 3 < reT t n 2 (skT t n a) - skT t n a then 4 else srt (t (skT t n a))) else 0
def tokE (t : Nat → Int) (n a : Nat) : Nat := if skT t n a < n then (if srt (t (skT t n a)) = 1 ∨ srt (t (skT t n a)) = 2 then reT t n (srt (t (skT t n a))) (skT t n a) else skT t n a + 1) else skT t n a
def tokV (t : Nat → Int) (n a : Nat) : Int := if skT t n a < n ∧ (srt (t (skT t n a)) = 1 ∨ srt (t (skT t n a)) = 2) then valT t (srt (t (skT t n a))) (skT t n a) (reT t n (srt (t (skT t n a))) (skT t n a) - skT t n a) else 0

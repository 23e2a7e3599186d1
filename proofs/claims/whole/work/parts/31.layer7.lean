/-! places made; what a method leaves as it was -/
theorem cel_gr {N M c : Nat} {v : Nat → va_E} {e : va_E} (h : Cel N v c e) (hM : N ≤ M) : Cel M v c e := ⟨Nat.lt_of_lt_of_le h.1 hM, h.2⟩
theorem cel_fr {N M c : Nat} {v w : Nat → va_E} {e : va_E} (h : Cel N v c e) (hM : N ≤ M) (hw : w c = v c) : Cel M w c e := ⟨Nat.lt_of_lt_of_le h.1 hM, hw.trans h.2⟩
section
variable {Γ : XT} {E : XE} {B : Nat} {cc : ByteArray} {own : String} {Ts : List Cond} {rm : Room} {N : Nat} {v : Nat → va_E} {L : List (Nat × Value)} {kc ks pc : Nat} {st : List Value}
theorem x_N {M : Nat} (h : M = N) (k : XW Γ M v L kc ks pc st) : XW Γ N v L kc ks pc st := h ▸ k
theorem x_kc {kc' ks' : Nat} (h : kc' = kc) (h2 : ks' = ks) (k : XW Γ N v L kc' ks' pc st) : XW Γ N v L kc ks pc st := by subst h; subst h2; exact k
end
theorem cfill_s {x : Nat → Int} {j : Nat} {c : Int} (h : ∀ q : Nat, q < j → x q = c) : ∀ q : Nat, q < j + 1 → va_up x j c q = c := fun q hq => by
  by_cases h1 : q = j
  · rw [h1, va_up_self]
  · rw [va_up_ne _ _ h1]; exact h q (by omega)

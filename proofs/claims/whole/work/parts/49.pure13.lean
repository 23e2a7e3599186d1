/-! what the class's guesses give -/
theorem bestF_lead {p : Nat → Int} {l : Cor} {who : Nat} : ∀ {k c : Nat} {ml mh : Int}, bestF p l who k = some (c, ml, mh) → ml = leadA p (crossA (p (5 + who)) (p 2) c l) (p (10 + who))
  | 0, c, ml, mh, h => by cases h
  | k + 1, c, ml, mh, h => by
    have h : bestS p l who k (bestF p l who k) = some (c, ml, mh) := h
    unfold bestS at h
    split at h
    · cases hs : bestF p l who k with
      | none =>
        rw [hs] at h
        cases h
        rfl
      | some q =>
        obtain ⟨c', ml', mh'⟩ := q
        rw [hs] at h
        simp only at h
        split at h
        · cases h
          rfl
        · cases h
          exact bestF_lead hs
    · exact bestF_lead h
theorem mvA_ok {p : Nat → Int} {l : Cor} {who k : Nat} (h : CorOk l) (hk : k ≤ 48) : CorOk (mvA p l who k) := by
  unfold mvA
  split
  · exact h
  · exact crossA_ok h (by omega)
theorem mvA_len {p : Nat → Int} {l : Cor} {who k : Nat} (hl : (l.length : Int) ≤ p 2) (hp : 0 ≤ p 2 ∧ p 2 ≤ 6) : ((mvA p l who k).length : Int) ≤ p 2 := by
  unfold mvA
  split
  · exact hl
  · exact crossA_len hl hp
/-- of a best that is held in a number: there is none, or that cell, and its lead -/
theorem bestR_cases {p : Nat → Int} {l : Cor} {who : Nat} {b bl m : Int} (h : bestR (bestF p l who 48) b bl m) : (b = -1000000 ∧ bestF p l who 48 = none) ∨ (∃ c : Nat, c < 48 ∧ b = (c : Int) ∧ mayI p l who c = 1 ∧ bestF p l who 48 = some (c, bl, m) ∧ bl = leadA p (crossA (p (5 + who)) (p 2) c l) (p (10 + who))) := by
  rcases h with ⟨h1, h2⟩ | ⟨c, ml, mh, h, rfl, rfl, rfl⟩
  · exact Or.inl ⟨h2, h1⟩
  · have := bestR_may h
    exact Or.inr ⟨c, this.1, rfl, this.2, h, bestF_lead h⟩
theorem repA_none {p : Nat → Int} {l : Cor} {who : Nat} {s : Bst} (h : s = none) : repA p l who s = l := by rw [h]; rfl
theorem repA_yes {p : Nat → Int} {l : Cor} {who c : Nat} {ml mh : Int} {s : Bst} (h : s = some (c, ml, mh)) (h2 : leadA p l (p (10 + who)) < ml) : repA p l who s = crossA (p (5 + who)) (p 2) c l := by
  rw [h]; show (if _ then _ else _) = _; rw [if_pos h2]
theorem repA_no {p : Nat → Int} {l : Cor} {who c : Nat} {ml mh : Int} {s : Bst} (h : s = some (c, ml, mh)) (h2 : ¬ leadA p l (p (10 + who)) < ml) : repA p l who s = l := by
  rw [h]; show (if _ then _ else _) = _; rw [if_neg h2]
theorem heldI_1 {p : Nat → Int} {l : Cor} {ld n : Int} {m k : Nat} (h : heldP p l ld n m k) : heldI p l ld n m k = 1 := by
  unfold heldI; exact if_pos h
theorem heldI_no {p : Nat → Int} {l : Cor} {ld n : Int} {m k : Nat} (h : heldI p l ld n m k = 0) (h2 : p (10 + m) = ld ∨ mayI p l m k = 0 ∨ ¬ sumA p (crossA (p (5 + m)) (p 2) k l) ld 1 48 < n) : heldI p l ld n (m + 1) k = 0 := by
  have hh : ¬ heldP p l ld n m k := fun q => by rw [heldI_1 q] at h; omega
  unfold heldI
  refine if_neg (fun q => ?_)
  obtain ⟨j, a, b, c, d⟩ := q
  by_cases hj : j = m
  · subst hj
    rcases h2 with e | e | e
    · exact b e
    · rw [e] at c; omega
    · exact e d
  · exact hh ⟨j, by omega, b, c, d⟩
theorem wentB_stay {p : Nat → Int} {l : Cor} {it : Nat → Int} {o k : Nat} (h : wentC p l it o k ≠ 0) : ∀ j, wentB p l it o (k + j) = wentB p l it o k ∧ wentC p l it o (k + j) ≠ 0
  | 0 => ⟨rfl, h⟩
  | j + 1 => by
    have ih := wentB_stay h j
    have hr := wentC_rng p l it o (k + j)
    have hi := wentI_rng p l it o (k + j)
    refine ⟨?_, ?_⟩
    · show (if wentI p l it o (k + j) = 1 ∧ wentC p l it o (k + j) = 0 then ((k + j : Nat) : Int) else wentB p l it o (k + j)) = _
      rw [if_neg (fun q => ih.2 q.2)]
      exact ih.1
    · show wentC p l it o (k + j) + wentI p l it o (k + j) ≠ 0
      omega
theorem wentB_none {p : Nat → Int} {l : Cor} {it : Nat → Int} {o : Nat} : ∀ {k : Nat}, wentC p l it o k = 0 → wentB p l it o k = -1000000
  | 0, _ => rfl
  | k + 1, h => by
    have h : wentC p l it o k + wentI p l it o k = 0 := h
    have hr := wentC_rng p l it o k
    have hi := wentI_rng p l it o k
    show (if wentI p l it o k = 1 ∧ wentC p l it o k = 0 then (k : Int) else wentB p l it o k) = _
    rw [if_neg (by omega)]
    exact wentB_none (by omega)
theorem wentB_found {p : Nat → Int} {l : Cor} {it : Nat → Int} {o k m : Nat} (h0 : wentC p l it o k = 0) (h1 : wentI p l it o k = 1) (hm : k + 1 ≤ m) : wentB p l it o m = (k : Int) := by
  have hc : wentC p l it o (k + 1) ≠ 0 := by
    show wentC p l it o k + wentI p l it o k ≠ 0
    omega
  have hs := (wentB_stay hc (m - (k + 1))).1
  rw [show k + 1 + (m - (k + 1)) = m by omega] at hs
  rw [hs]
  show (if wentI p l it o k = 1 ∧ wentC p l it o k = 0 then (k : Int) else _) = _
  rw [if_pos ⟨h1, h0⟩]

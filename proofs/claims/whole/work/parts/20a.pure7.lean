theorem wf_is {w e : Int} {l : Cor} (hok : CorOk l) (hw : 0 ≤ w ∧ w ≤ 5) (he : 0 ≤ e ∧ e ≤ 5) {k : Nat} (hk : k ≤ 7) {a b d g : Int} (h1 : westOf w l k a b) (h2 : eastOf e l k d g) : (a, b, d, g) = wfold w e (k : Int) l := by
  have h := wfold_is hw he (x := (k : Int)) ⟨by omega, by omega⟩ (fun q hq => ⟨(hok.1 q hq).1, (hok.1 q hq).2.1⟩)
  have e1 := westOf_one hok h1 h.1
  have e2 := eastOf_one hok h2 h.2
  rw [e1.1, e1.2, e2.1, e2.2]
theorem westOf_mid {w : Int} {l : Cor} {d a b k : Int} (h : westOf w l (d - 1) a b) (h1 : a < k) (h2 : k < d) : westOf w l k a b := by
  rcases h with ⟨ha, hb, h3⟩ | ⟨q, hq, ha, hb, hx, h3⟩
  · exact Or.inl ⟨ha, hb, fun q hq hh => h3 q hq (by omega)⟩
  · exact Or.inr ⟨q, hq, ha, hb, by omega, fun q' hq' hh => h3 q' hq' (by omega)⟩
theorem west_gap {w : Int} {l : Cor} {d a b : Int} (h : westOf w l (d - 1) a b) {q : Int × Int} (hq : q ∈ l) (h1 : q.1 % 8 < d) : q.1 % 8 ≤ a := by
  rcases h with ⟨ha, hb, h3⟩ | ⟨q', hq', ha, hb, hx, h3⟩
  · exact absurd (show q.1 % 8 ≤ d - 1 by omega) (h3 q hq)
  · exact h3 q hq (by omega)
theorem west_rng {w : Int} {l : Cor} {x a b : Int} (hok : CorOk l) (hw : 0 ≤ w ∧ w ≤ 5) (h : westOf w l x a b) : (-1 ≤ a ∧ a ≤ 7) ∧ (0 ≤ b ∧ b ≤ 5) ∧ (a = -1 ∨ a ≤ x) := by
  rcases h with ⟨ha, hb, h3⟩ | ⟨q, hq, ha, hb, hx, h3⟩
  · omega
  · have := hok.1 q hq
    omega
theorem hB_end {a b x y : Int} : hB a b x y x = y * (x - a) := by
  unfold hB
  rw [← Int.add_mul]
  congr 1
  omega
theorem end_at {a x y : Int} (hy : 0 ≤ y ∧ y ≤ 5) (h : 1 ≤ x - a ∧ x - a ≤ 9) : (y * (x - a) + (x - a) - 1) / (x - a) = y ∧ y * (x - a) / (x - a) + 1 = y + 1 := by
  generalize x - a = w at h
  have hw : w = 1 ∨ w = 2 ∨ w = 3 ∨ w = 4 ∨ w = 5 ∨ w = 6 ∨ w = 7 ∨ w = 8 ∨ w = 9 := by omega
  rcases hw with rfl | rfl | rfl | rfl | rfl | rfl | rfl | rfl | rfl <;> omega
theorem lay_step {w e : Int} {l : Cor} {s t : Nat → Int} (hok : CorOk l) (hw : 0 ≤ w ∧ w ≤ 5) (he : 0 ≤ e ∧ e ≤ 5) {x a b y : Int} {q : Int × Int} (hq : q ∈ l) (hx : q.1 % 8 = x) (hy : q.1 / 8 = y) (h : westOf w l (x - 1) a b) (hs : ∀ k : Nat, (k : Int) ≤ a → SX w e l k (s k) (t k)) : ∀ k : Nat, (k : Int) ≤ x → SX w e l k (lyS s a b x y (x + 1) k) (lyT t a b x y (x + 1) k) := by
  intro k hk
  have hq0 := hok.1 q hq
  have hr := west_rng hok hw h
  by_cases h1 : (k : Int) ≤ a
  · have e1 : lyS s a b x y (x + 1) k = s k := by unfold lyS; rw [if_neg (by omega)]
    have e2 : lyT t a b x y (x + 1) k = t k := by unfold lyT; rw [if_neg (by omega)]
    rw [e1, e2]; exact hs k h1
  · have e1 : lyS s a b x y (x + 1) k = (hB a b x y k + (x - a) - 1) / (x - a) := by unfold lyS; rw [if_pos (by omega)]
    have e2 : lyT t a b x y (x + 1) k = hB a b x y k / (x - a) + 1 := by unfold lyT; rw [if_pos (by omega)]
    rw [e1, e2]
    by_cases h2 : (k : Int) = x
    · have e3 := end_at (a := a) (x := x) (y := y) (by omega) (by omega)
      rw [h2, hB_end, e3.1, e3.2]
      have hwf := wf_is (a := (k : Int)) (b := y) (d := (k : Int)) (g := y) hok hw he (k := k) (by omega) (Or.inr ⟨q, hq, by omega, by omega, by omega, fun q' hq' hh => hh⟩) (Or.inr ⟨q, hq, by omega, by omega, by omega, fun q' hq' hh => hh⟩)
      exact SX_at (by omega) (by omega) hwf rfl
    · have hwf := wf_is (d := x) (g := y) hok hw he (k := k) (by omega) (westOf_mid h (by omega) (by omega)) (Or.inr ⟨q, hq, hx.symm, hy.symm, by omega, fun q' hq' hh => by
        by_cases h9 : q'.1 % 8 < x
        · have := west_gap h hq' h9; omega
        · omega⟩)
      exact SX_of (by omega) (by omega) (by omega) hwf (by omega) (by omega)
theorem lay_end {w e : Int} {l : Cor} {s t : Nat → Int} (hok : CorOk l) (hw : 0 ≤ w ∧ w ≤ 5) (he : 0 ≤ e ∧ e ≤ 5) {a b : Int} (h : westOf w l (8 - 1) a b) (hs : ∀ k : Nat, (k : Int) ≤ a → SX w e l k (s k) (t k)) : SR w e l (lyS s a b 8 e 8) (lyT t a b 8 e 8) := by
  intro k hk
  have hr := west_rng hok hw h
  show SX w e l k _ _
  by_cases h1 : (k : Int) ≤ a
  · have e1 : lyS s a b 8 e 8 k = s k := by unfold lyS; rw [if_neg (by omega)]
    have e2 : lyT t a b 8 e 8 k = t k := by unfold lyT; rw [if_neg (by omega)]
    rw [e1, e2]; exact hs k h1
  · have e1 : lyS s a b 8 e 8 k = (hB a b 8 e k + (8 - a) - 1) / (8 - a) := by unfold lyS; rw [if_pos (by omega)]
    have e2 : lyT t a b 8 e 8 k = hB a b 8 e k / (8 - a) + 1 := by unfold lyT; rw [if_pos (by omega)]
    rw [e1, e2]
    have hwf := wf_is (d := 8) (g := e) hok hw he (k := k) (by omega) (westOf_mid h (by omega) (by omega)) (Or.inl ⟨rfl, rfl, fun q hq hh => by
      have := west_gap h hq (by omega); omega⟩)
    exact SX_of (by omega) (by omega) (by omega) hwf (by omega) (by omega)
theorem westOf_next {w : Int} {l : Cor} {x a b : Int} (h : westOf w l (x - 1) a b) (hn : ∀ q ∈ l, q.1 % 8 ≠ x) : westOf w l (x + 1 - 1) a b := by
  rcases h with ⟨ha, hb, h3⟩ | ⟨q, hq, ha, hb, hx, h3⟩
  · exact Or.inl ⟨ha, hb, fun q hq hh => h3 q hq (by have := hn q hq; omega)⟩
  · exact Or.inr ⟨q, hq, ha, hb, by omega, fun q' hq' hh => h3 q' hq' (by have := hn q' hq'; omega)⟩
theorem westOf_here {w : Int} {l : Cor} {x : Int} {q : Int × Int} (hq : q ∈ l) (hx : q.1 % 8 = x) : westOf w l (x + 1 - 1) x (q.1 / 8) := Or.inr ⟨q, hq, hx.symm, rfl, by omega, fun q' _ hh => by omega⟩
theorem westOf_none {w : Int} {l : Cor} : westOf w l (0 - 1) (-1) w := Or.inl ⟨rfl, rfl, fun q _ hh => by omega⟩
/-- whether the south's cells are what a row says, by the columns' heights -/
theorem soC_is {p : Nat → Int} {l : Cor} {x : Nat} {sx tx : Int} (h : SX (p 0) (p 1) l x sx tx) : soC p l x 6 = sx := by
  have h0 := h.1
  have key : ∀ y : Nat, y ≤ 6 → soC p l x y = min (y : Int) sx := by
    intro y
    induction y with
    | zero => intro _; show (0 : Int) = _; omega
    | succ y ih =>
      intro hy
      have h1 := (h.2.2 y (by omega)).1
      show soC p l x y + _ = _
      rw [ih (by omega)]
      split
      · next hh => have := h1.mp hh; omega
      · next hh => have : ¬ ((y : Int) < sx) := fun q => hh (h1.mpr q); omega
  rw [key 6 (Nat.le_refl _)]
  omega
theorem isSoF_no {p : Nat → Int} {l : Cor} {it : Nat → Int} {o k : Nat} (h : soC p l k 6 ≠ it (o + k)) : ∀ j, isSoF p l it o (k + 1 + j) = 0
  | 0 => by
    show (if _ then _ else _) = _
    rw [if_neg (fun q => h q.2)]
  | j + 1 => by
    show (if isSoF p l it o (k + 1 + j) ≠ 0 ∧ _ then _ else _) = _
    rw [if_neg (fun q => q.1 (isSoF_no h j))]
theorem isSoF_yes {p : Nat → Int} {l : Cor} {it : Nat → Int} {o k : Nat} (h : isSoF p l it o k = 1) (h2 : soC p l k 6 = it (o + k)) : isSoF p l it o (k + 1) = 1 := by
  show (if _ then _ else _) = _
  rw [if_pos ⟨by omega, h2⟩]
theorem zfill_s {x : Nat → Int} {j : Nat} (h : ∀ q : Nat, q < j → x q = 0) : ∀ q : Nat, q < j + 1 → va_up x j 0 q = 0 := fun q hq => by
  by_cases h1 : q = j
  · rw [h1, va_up_self]
  · rw [va_up_ne _ _ h1]; exact h q (by omega)

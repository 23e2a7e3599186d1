/-! the class's line, column by column -/
def westOf (w : Int) (l : Cor) (x a b : Int) : Prop := (a = -1 ∧ b = w ∧ ∀ q ∈ l, ¬ q.1 % 8 ≤ x) ∨ (∃ q ∈ l, a = q.1 % 8 ∧ b = q.1 / 8 ∧ a ≤ x ∧ ∀ q' ∈ l, q'.1 % 8 ≤ x → q'.1 % 8 ≤ a)
def eastOf (e : Int) (l : Cor) (x d g : Int) : Prop := (d = 8 ∧ g = e ∧ ∀ q ∈ l, ¬ x ≤ q.1 % 8) ∨ (∃ q ∈ l, d = q.1 % 8 ∧ g = q.1 / 8 ∧ x ≤ d ∧ ∀ q' ∈ l, x ≤ q'.1 % 8 → d ≤ q'.1 % 8)
theorem wstep_is {w e x : Int} {l : Cor} {c : Int × Int} {s : Wq} (hc : 0 ≤ c.1) (h1 : westOf w l x s.1 s.2.1) (h2 : eastOf e l x s.2.2.1 s.2.2.2) (hb : s.1 ≤ 7 ∧ -1 ≤ s.1 ∧ s.2.2.1 ≤ 8) : westOf w (l ++ [c]) x (wstep x s c.1).1 (wstep x s c.1).2.1 ∧ eastOf e (l ++ [c]) x (wstep x s c.1).2.2.1 (wstep x s c.1).2.2.2 := by
  obtain ⟨a, b, d, g⟩ := s
  simp only at h1 h2 hb
  have key1 : westOf w (l ++ [c]) x (if c.1 % 8 ≤ x ∧ a < c.1 % 8 then c.1 % 8 else a) (if c.1 % 8 ≤ x ∧ a < c.1 % 8 then c.1 / 8 else b) := by
    by_cases hh : c.1 % 8 ≤ x ∧ a < c.1 % 8
    · rw [if_pos hh, if_pos hh]
      refine Or.inr ⟨c, by simp, rfl, rfl, hh.1, fun q' hq hx => ?_⟩
      rcases List.mem_append.mp hq with h | h
      · rcases h1 with ⟨-, -, h3⟩ | ⟨q, -, -, -, -, h3⟩
        · exact absurd hx (h3 q' h)
        · have := h3 q' h hx; omega
      · rw [List.mem_singleton.mp h]; exact Int.le_refl _
    · rw [if_neg hh, if_neg hh]
      rcases h1 with ⟨ha, hb1, h3⟩ | ⟨q, hq, ha, hb1, hax, h3⟩
      · by_cases hcx : c.1 % 8 ≤ x
        · exfalso; omega
        · refine Or.inl ⟨ha, hb1, fun q' hq => ?_⟩
          rcases List.mem_append.mp hq with h | h
          · exact h3 q' h
          · rw [List.mem_singleton.mp h]; exact hcx
      · refine Or.inr ⟨q, List.mem_append_left _ hq, ha, hb1, hax, fun q' hq' hx => ?_⟩
        rcases List.mem_append.mp hq' with h | h
        · exact h3 q' h hx
        · rw [List.mem_singleton.mp h] at hx ⊢; omega
  have key2 : eastOf e (l ++ [c]) x (if x ≤ c.1 % 8 ∧ c.1 % 8 < d then c.1 % 8 else d) (if x ≤ c.1 % 8 ∧ c.1 % 8 < d then c.1 / 8 else g) := by
    by_cases hh : x ≤ c.1 % 8 ∧ c.1 % 8 < d
    · rw [if_pos hh, if_pos hh]
      refine Or.inr ⟨c, by simp, rfl, rfl, hh.1, fun q' hq hx => ?_⟩
      rcases List.mem_append.mp hq with h | h
      · rcases h2 with ⟨-, -, h3⟩ | ⟨q, -, -, -, -, h3⟩
        · exact absurd hx (h3 q' h)
        · have := h3 q' h hx; omega
      · rw [List.mem_singleton.mp h]; exact Int.le_refl _
    · rw [if_neg hh, if_neg hh]
      rcases h2 with ⟨ha, hb1, h3⟩ | ⟨q, hq, ha, hb1, hax, h3⟩
      · by_cases hcx : x ≤ c.1 % 8
        · exfalso; omega
        · refine Or.inl ⟨ha, hb1, fun q' hq => ?_⟩
          rcases List.mem_append.mp hq with h | h
          · exact h3 q' h
          · rw [List.mem_singleton.mp h]; exact hcx
      · refine Or.inr ⟨q, List.mem_append_left _ hq, ha, hb1, hax, fun q' hq' hx => ?_⟩
        rcases List.mem_append.mp hq' with h | h
        · exact h3 q' h hx
        · rw [List.mem_singleton.mp h] at hx ⊢; omega
  unfold wstep
  by_cases hh : c.1 % 8 ≤ x ∧ a < c.1 % 8 <;> by_cases hk : x ≤ c.1 % 8 ∧ c.1 % 8 < d <;> simp only [hh, hk, if_true, if_false, and_self] at key1 key2 ⊢ <;> exact ⟨key1, key2⟩
theorem wfold_is {w e x : Int} {l : Cor} (hw : 0 ≤ w ∧ w ≤ 5) (he : 0 ≤ e ∧ e ≤ 5) (hx : 0 ≤ x ∧ x ≤ 7) (hl : ∀ q ∈ l, 0 ≤ q.1 ∧ q.1 ≤ 47) : westOf w l x (wfold w e x l).1 (wfold w e x l).2.1 ∧ eastOf e l x (wfold w e x l).2.2.1 (wfold w e x l).2.2.2 := by
  have key : ∀ k, k ≤ l.length → westOf w (l.take k) x (wfold w e x (l.take k)).1 (wfold w e x (l.take k)).2.1 ∧ eastOf e (l.take k) x (wfold w e x (l.take k)).2.2.1 (wfold w e x (l.take k)).2.2.2 := by
    intro k
    induction k with
    | zero =>
      intro _
      rw [List.take_zero, wfold_nil]
      exact ⟨Or.inl ⟨rfl, rfl, fun q h => absurd h List.not_mem_nil⟩, Or.inl ⟨rfl, rfl, fun q h => absurd h List.not_mem_nil⟩⟩
    | succ k ih =>
      intro hk
      have hk2 : k < l.length := by omega
      have hi := ih (by omega)
      have hok := wfold_ok (x := x) (l := l.take k) hw he hx (fun q h => hl q (List.mem_of_mem_take h))
      unfold WqOk at hok
      rw [take_snoc hk2, wfold_snoc]
      exact wstep_is (hl _ (List.getElem_mem hk2)).1 hi.1 hi.2 ⟨by omega, by omega, by omega⟩
  have h := key l.length (Nat.le_refl _)
  rw [List.take_length] at h
  exact h
theorem cor_same {l : Cor} (h : CorOk l) {q q' : Int × Int} (hq : q ∈ l) (hq' : q' ∈ l) (he : q.1 % 8 = q'.1 % 8) : q = q' := by
  obtain ⟨i, hi, rfl⟩ := List.mem_iff_getElem.mp hq
  obtain ⟨j, hj, rfl⟩ := List.mem_iff_getElem.mp hq'
  have := cor_one h hi hj he
  subst this
  rfl
theorem westOf_one {w : Int} {l : Cor} (h : CorOk l) {x a b a' b' : Int} (h1 : westOf w l x a b) (h2 : westOf w l x a' b') : a = a' ∧ b = b' := by
  rcases h1 with ⟨rfl, rfl, h3⟩ | ⟨q, hq, rfl, rfl, hx, h3⟩ <;> rcases h2 with ⟨rfl, rfl, h4⟩ | ⟨q', hq', rfl, rfl, hx', h4⟩
  · exact ⟨rfl, rfl⟩
  · exact absurd hx' (h3 q' hq')
  · exact absurd hx (h4 q hq)
  · have e : q.1 % 8 = q'.1 % 8 := by
      have a1 := h3 q' hq' hx'
      have a2 := h4 q hq hx
      omega
    have := cor_same h hq hq' e
    subst this
    exact ⟨rfl, rfl⟩
theorem eastOf_one {e : Int} {l : Cor} (h : CorOk l) {x a b a' b' : Int} (h1 : eastOf e l x a b) (h2 : eastOf e l x a' b') : a = a' ∧ b = b' := by
  rcases h1 with ⟨rfl, rfl, h3⟩ | ⟨q, hq, rfl, rfl, hx, h3⟩ <;> rcases h2 with ⟨rfl, rfl, h4⟩ | ⟨q', hq', rfl, rfl, hx', h4⟩
  · exact ⟨rfl, rfl⟩
  · exact absurd hx' (h3 q' hq')
  · exact absurd hx (h4 q hq)
  · have e : q.1 % 8 = q'.1 % 8 := by
      have a1 := h3 q' hq' hx'
      have a2 := h4 q hq hx
      omega
    have := cor_same h hq hq' e
    subst this
    exact ⟨rfl, rfl⟩
/-- the line's height at x, between two points, times the width -/
def hB (fx fy tx ty x : Int) : Int := fy * (tx - fx) + (ty - fy) * (x - fx)
theorem hB_rng {fx fy tx ty x : Int} (hf : 0 ≤ fy ∧ fy ≤ 5) (ht : 0 ≤ ty ∧ ty ≤ 5) (h1 : fx ≤ x) (h2 : x ≤ tx) : 0 ≤ hB fx fy tx ty x ∧ hB fx fy tx ty x ≤ 5 * (tx - fx) := by
  have e : hB fx fy tx ty x = fy * (tx - x) + ty * (x - fx) := by
    unfold hB
    simp only [Int.mul_sub, Int.sub_mul]
    omega
  rw [e]
  have a1 := Int.mul_nonneg hf.1 (show 0 ≤ tx - x by omega)
  have a2 := Int.mul_nonneg ht.1 (show 0 ≤ x - fx by omega)
  have a3 := Int.mul_le_mul_of_nonneg_right hf.2 (show 0 ≤ tx - x by omega)
  have a4 := Int.mul_le_mul_of_nonneg_right ht.2 (show 0 ≤ x - fx by omega)
  omega
/-- what a column has, by its height h over a width d -/
def SX (w e : Int) (l : Cor) (x : Nat) (sx tx : Int) : Prop := (0 ≤ sx ∧ sx ≤ 6) ∧ (0 ≤ tx ∧ tx ≤ 6) ∧ ∀ y, y < 6 → (whoseA w e l (8 * y + x) = 0 ↔ (y : Int) < sx) ∧ (whoseA w e l (8 * y + x) = 1 ↔ tx ≤ (y : Int))
theorem SX_of {w e : Int} {l : Cor} {x : Nat} {a b d g : Int} (hx : x ≤ 7) (hb : 0 ≤ b ∧ b ≤ 5) (hg : 0 ≤ g ∧ g ≤ 5) (hs : (a, b, d, g) = wfold w e (x : Int) l) (h1 : -1 ≤ a ∧ a < x) (h2 : (x : Int) < d ∧ d ≤ 8) : SX w e l x ((hB a b d g x + (d - a) - 1) / (d - a)) (hB a b d g x / (d - a) + 1) := by
  have hr := hB_rng (fx := a) (tx := d) (x := (x : Int)) hb hg (by omega) (by omega)
  have key : ∀ y : Nat, y < 6 → whoseA w e l (8 * y + x) = (if (y : Int) * (d - a) < hB a b d g x then 0 else if hB a b d g x < (y : Int) * (d - a) then 1 else -1) := by
    intro y hy
    have e1 : ((8 * y + x : Nat) : Int) % 8 = (x : Int) := by omega
    have e2 : ((8 * y + x : Nat) : Int) / 8 = (y : Int) := by omega
    unfold whoseA
    rw [e1, e2, ← hs]
    unfold ownA hgtA
    simp only
    rw [if_neg (show ¬ a = d by omega), if_neg (show ¬ a = d by omega)]
    rfl
  generalize hB a b d g x = h at hr key
  have hw : d - a = 2 ∨ d - a = 3 ∨ d - a = 4 ∨ d - a = 5 ∨ d - a = 6 ∨ d - a = 7 ∨ d - a = 8 ∨ d - a = 9 := by omega
  rcases hw with q | q | q | q | q | q | q | q <;> rw [q] at hr key ⊢ <;> refine ⟨by omega, by omega, fun y hy => ?_⟩ <;> rw [key y hy] <;> constructor <;> split <;> (try split) <;> omega
theorem SX_at {w e : Int} {l : Cor} {x : Nat} {b d g : Int} (hx : x ≤ 7) (hb : 0 ≤ b ∧ b ≤ 5) (hs : ((x : Int), b, d, g) = wfold w e (x : Int) l) (hd : d = x) : SX w e l x b (b + 1) := by
  refine ⟨by omega, by omega, fun y hy => ?_⟩
  have e1 : ((8 * y + x : Nat) : Int) % 8 = (x : Int) := by omega
  have e2 : ((8 * y + x : Nat) : Int) / 8 = (y : Int) := by omega
  unfold whoseA
  rw [e1, e2, ← hs]
  unfold ownA hgtA
  simp only
  rw [if_pos hd.symm, if_pos hd.symm]
  constructor <;> split <;> (try split) <;> omega
/-- laid between two points, as far as x -/
def lyS (s : Nat → Int) (fx fy tx ty x : Int) : Nat → Int := fun k => if fx < (k : Int) ∧ (k : Int) < x then (hB fx fy tx ty k + (tx - fx) - 1) / (tx - fx) else s k
def lyT (t : Nat → Int) (fx fy tx ty x : Int) : Nat → Int := fun k => if fx < (k : Int) ∧ (k : Int) < x then hB fx fy tx ty k / (tx - fx) + 1 else t k
theorem lyS_0 (s : Nat → Int) (fx fy tx ty : Int) : lyS s fx fy tx ty (fx + 1) = s := by
  funext k; unfold lyS; rw [if_neg (by omega)]
theorem lyT_0 (s : Nat → Int) (fx fy tx ty : Int) : lyT s fx fy tx ty (fx + 1) = s := by
  funext k; unfold lyT; rw [if_neg (by omega)]
theorem lyS_s {s : Nat → Int} {fx fy tx ty : Int} {j : Nat} (h : fx < (j : Int)) : va_up (lyS s fx fy tx ty (j : Int)) j ((hB fx fy tx ty j + (tx - fx) - 1) / (tx - fx)) = lyS s fx fy tx ty ((j : Int) + 1) := by
  funext k
  by_cases hk : k = j
  · subst hk; rw [va_up_self]; unfold lyS; rw [if_pos (by omega)]
  · rw [va_up_ne _ _ hk]
    unfold lyS
    by_cases h2 : fx < (k : Int) ∧ (k : Int) < (j : Int)
    · rw [if_pos h2, if_pos (by omega)]
    · rw [if_neg h2, if_neg (by omega)]
theorem lyT_s {t : Nat → Int} {fx fy tx ty : Int} {j : Nat} (h : fx < (j : Int)) : va_up (lyT t fx fy tx ty (j : Int)) j (hB fx fy tx ty j / (tx - fx) + 1) = lyT t fx fy tx ty ((j : Int) + 1) := by
  funext k
  by_cases hk : k = j
  · subst hk; rw [va_up_self]; unfold lyT; rw [if_pos (by omega)]
  · rw [va_up_ne _ _ hk]
    unfold lyT
    by_cases h2 : fx < (k : Int) ∧ (k : Int) < (j : Int)
    · rw [if_pos h2, if_pos (by omega)]
    · rw [if_neg h2, if_neg (by omega)]

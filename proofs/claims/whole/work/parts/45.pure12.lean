/-! the class's ground: sums by columns -/
theorem rf_some {B : Nat} {h : Nat → Option Nat} {j o : Nat} (e : h j = some o) : rf B (h j) = .ref (B + o) := by rw [e]; rfl
theorem rf_none {B : Nat} {h : Nat → Option Nat} {j : Nat} (e : h j = none) : rf B (h j) = .null := by rw [e]; rfl
abbrev perE (p : Nat → Int) (i : Nat) : va_E := .inr (kci (p (5 + i)), [.int (zI (i : Int)), .int (zI (p (10 + i))), .int (zI (p (15 + i))), .int (zI (p (20 + i)))])
def sumF (f : Nat → Int) : Nat → Int
  | 0 => 0
  | k + 1 => sumF f k + f k
def wtA (p : Nat → Int) (l : Cor) (land what : Int) (k : Nat) : Int := if whoseA (p 0) (p 1) l k = land then (if what = 0 then 1 else p (73 + k)) else 0
theorem sumA_F (p : Nat → Int) (l : Cor) (land what : Int) : ∀ k, sumA p l land what k = sumF (wtA p l land what) k
  | 0 => rfl
  | k + 1 => by
    show sumA p l land what k + _ = sumF (wtA p l land what) k + _
    rw [sumA_F p l land what k]
    rfl
def colF (f : Nat → Int) (x : Nat) : Int := f (8 * 0 + x) + f (8 * 1 + x) + f (8 * 2 + x) + f (8 * 3 + x) + f (8 * 4 + x) + f (8 * 5 + x)
theorem sumF_48 (f : Nat → Int) : sumF f 48 = colF f 0 + colF f 1 + colF f 2 + colF f 3 + colF f 4 + colF f 5 + colF f 6 + colF f 7 := by
  simp only [sumF, colF, Nat.reduceMul, Nat.reduceAdd, Nat.zero_add, Nat.add_zero]
  omega
/-- of a column: the worth of its cells below y -/
def wbS (p : Nat → Int) (x : Nat) : Nat → Int
  | 0 => 0
  | y + 1 => wbS p x y + p (73 + (8 * y + x))
theorem wt_lo {p : Nat → Int} {l : Cor} {x : Nat} {sx tx what : Int} (h : SX (p 0) (p 1) l x sx tx) : ∀ y, y < 6 → wtA p l 0 what (8 * y + x) = if (y : Int) < sx then (if what = 0 then 1 else p (73 + (8 * y + x))) else 0 := fun y hy => by
  have h1 := (h.2.2 y hy).1
  unfold wtA
  by_cases q : (y : Int) < sx
  · rw [if_pos (h1.mpr q), if_pos q]
  · rw [if_neg (fun z => q (h1.mp z)), if_neg q]
theorem wt_hi {p : Nat → Int} {l : Cor} {x : Nat} {sx tx what : Int} (h : SX (p 0) (p 1) l x sx tx) : ∀ y, y < 6 → wtA p l 1 what (8 * y + x) = if tx ≤ (y : Int) then (if what = 0 then 1 else p (73 + (8 * y + x))) else 0 := fun y hy => by
  have h1 := (h.2.2 y hy).2
  unfold wtA
  by_cases q : tx ≤ (y : Int)
  · rw [if_pos (h1.mpr q), if_pos q]
  · rw [if_neg (fun z => q (h1.mp z)), if_neg q]
theorem col_w0 {p : Nat → Int} {l : Cor} {x : Nat} {sx tx : Int} (h : SX (p 0) (p 1) l x sx tx) : colF (wtA p l 0 1) x = wbS p x sx.toNat := by
  have c := wt_lo (what := 1) h
  have hs := h.1
  unfold colF
  rw [c 0 (by omega), c 1 (by omega), c 2 (by omega), c 3 (by omega), c 4 (by omega), c 5 (by omega)]
  have : sx = 0 ∨ sx = 1 ∨ sx = 2 ∨ sx = 3 ∨ sx = 4 ∨ sx = 5 ∨ sx = 6 := by omega
  rcases this with rfl | rfl | rfl | rfl | rfl | rfl | rfl <;> simp [wbS]
theorem col_w1 {p : Nat → Int} {l : Cor} {x : Nat} {sx tx : Int} (h : SX (p 0) (p 1) l x sx tx) : colF (wtA p l 1 1) x = wbS p x 6 - wbS p x tx.toNat := by
  have c := wt_hi (what := 1) h
  have hs := h.2.1
  unfold colF
  rw [c 0 (by omega), c 1 (by omega), c 2 (by omega), c 3 (by omega), c 4 (by omega), c 5 (by omega)]
  have : tx = 0 ∨ tx = 1 ∨ tx = 2 ∨ tx = 3 ∨ tx = 4 ∨ tx = 5 ∨ tx = 6 := by omega
  rcases this with rfl | rfl | rfl | rfl | rfl | rfl | rfl <;> simp [wbS] <;> omega
theorem col_h0 {p : Nat → Int} {l : Cor} {x : Nat} {sx tx : Int} (h : SX (p 0) (p 1) l x sx tx) : colF (wtA p l 0 0) x = sx := by
  have c := wt_lo (what := 0) h
  have hs := h.1
  unfold colF
  rw [c 0 (by omega), c 1 (by omega), c 2 (by omega), c 3 (by omega), c 4 (by omega), c 5 (by omega)]
  have : sx = 0 ∨ sx = 1 ∨ sx = 2 ∨ sx = 3 ∨ sx = 4 ∨ sx = 5 ∨ sx = 6 := by omega
  rcases this with rfl | rfl | rfl | rfl | rfl | rfl | rfl <;> simp
theorem col_h1 {p : Nat → Int} {l : Cor} {x : Nat} {sx tx : Int} (h : SX (p 0) (p 1) l x sx tx) : colF (wtA p l 1 0) x = 6 - tx := by
  have c := wt_hi (what := 0) h
  have hs := h.2.1
  unfold colF
  rw [c 0 (by omega), c 1 (by omega), c 2 (by omega), c 3 (by omega), c 4 (by omega), c 5 (by omega)]
  have : tx = 0 ∨ tx = 1 ∨ tx = 2 ∨ tx = 3 ∨ tx = 4 ∨ tx = 5 ∨ tx = 6 := by omega
  rcases this with rfl | rfl | rfl | rfl | rfl | rfl | rfl <;> simp
/-- what a land has, by columns -/
def worF (p s t : Nat → Int) (land : Int) : Nat → Int
  | 0 => 0
  | x + 1 => worF p s t land x + (if land = 0 then wbS p x (s x).toNat else wbS p x 6 - wbS p x (t x).toNat)
def celF (s t : Nat → Int) (land : Int) : Nat → Int
  | 0 => 0
  | x + 1 => celF s t land x + (if land = 0 then s x else 6 - t x)
theorem worF_is {p s t : Nat → Int} {l : Cor} {land : Int} (h : SR (p 0) (p 1) l s t) (hl : 0 ≤ land ∧ land ≤ 1) : worF p s t land 8 = sumA p l land 1 48 := by
  rw [sumA_F, sumF_48]
  have hl2 : land = 0 ∨ land = 1 := by omega
  rcases hl2 with rfl | rfl
  · rw [col_w0 (h 0 (by omega)), col_w0 (h 1 (by omega)), col_w0 (h 2 (by omega)), col_w0 (h 3 (by omega)), col_w0 (h 4 (by omega)), col_w0 (h 5 (by omega)), col_w0 (h 6 (by omega)), col_w0 (h 7 (by omega))]
    simp [worF]
  · rw [col_w1 (h 0 (by omega)), col_w1 (h 1 (by omega)), col_w1 (h 2 (by omega)), col_w1 (h 3 (by omega)), col_w1 (h 4 (by omega)), col_w1 (h 5 (by omega)), col_w1 (h 6 (by omega)), col_w1 (h 7 (by omega))]
    simp [worF]
theorem celF_is {p s t : Nat → Int} {l : Cor} {land : Int} (h : SR (p 0) (p 1) l s t) (hl : 0 ≤ land ∧ land ≤ 1) : celF s t land 8 = sumA p l land 0 48 := by
  rw [sumA_F, sumF_48]
  have hl2 : land = 0 ∨ land = 1 := by omega
  rcases hl2 with rfl | rfl
  · rw [col_h0 (h 0 (by omega)), col_h0 (h 1 (by omega)), col_h0 (h 2 (by omega)), col_h0 (h 3 (by omega)), col_h0 (h 4 (by omega)), col_h0 (h 5 (by omega)), col_h0 (h 6 (by omega)), col_h0 (h 7 (by omega))]
    simp [celF]
  · rw [col_h1 (h 0 (by omega)), col_h1 (h 1 (by omega)), col_h1 (h 2 (by omega)), col_h1 (h 3 (by omega)), col_h1 (h 4 (by omega)), col_h1 (h 5 (by omega)), col_h1 (h 6 (by omega)), col_h1 (h 7 (by omega))]
    simp [celF]
theorem wbS_rng {p : Nat → Int} (hp : POk p) {x : Nat} (hx : x < 8) : ∀ y, y ≤ 6 → 0 ≤ wbS p x y ∧ wbS p x y ≤ 800 * y
  | 0, _ => ⟨Int.le_refl _, by simp [wbS]⟩
  | y + 1, h => by
    have ih := wbS_rng hp hx y (by omega)
    have h1 := (hp.2.2.2.2.2.2 (8 * y + x) (by omega)).2
    show 0 ≤ wbS p x y + p (73 + (8 * y + x)) ∧ wbS p x y + p (73 + (8 * y + x)) ≤ _
    omega
theorem worF_rng {p s t : Nat → Int} {l : Cor} {land : Int} (hp : POk p) (h : SR (p 0) (p 1) l s t) : ∀ x : Nat, x ≤ 8 → -4800 * (x : Int) ≤ worF p s t land x ∧ worF p s t land x ≤ 4800 * (x : Int)
  | 0, _ => by show -4800 * ((0 : Nat) : Int) ≤ 0 ∧ (0 : Int) ≤ 4800 * ((0 : Nat) : Int); omega
  | x + 1, hx => by
    have ih := worF_rng (land := land) hp h x (by omega)
    have hs := h x (by omega)
    have h1 := wbS_rng hp (show x < 8 by omega) (s x).toNat (by omega)
    have h2 := wbS_rng hp (show x < 8 by omega) (t x).toNat (by omega)
    have h3 := wbS_rng hp (show x < 8 by omega) 6 (by omega)
    show _ ≤ worF p s t land x + (if land = 0 then wbS p x (s x).toNat else wbS p x 6 - wbS p x (t x).toNat) ∧ worF p s t land x + (if land = 0 then wbS p x (s x).toNat else wbS p x 6 - wbS p x (t x).toNat) ≤ _
    split <;> omega
theorem celF_rng {s t : Nat → Int} {w e : Int} {l : Cor} {land : Int} (h : SR w e l s t) : ∀ x, x ≤ 8 → 0 ≤ celF s t land x ∧ celF s t land x ≤ 6 * (x : Int)
  | 0, _ => by show (0 : Int) ≤ 0 ∧ (0 : Int) ≤ 6 * ((0 : Nat) : Int); omega
  | x + 1, hx => by
    have ih := celF_rng (land := land) h x (by omega)
    have hs := h x (by omega)
    show 0 ≤ celF s t land x + (if land = 0 then s x else 6 - t x) ∧ celF s t land x + (if land = 0 then s x else 6 - t x) ≤ _
    split <;> omega
/-- a village more -/
theorem wbS_vil {r : Nat → Int} {x y : Nat} {w : Int} (hx : x < 8) (hy : y < 6) : ∀ k, wbS (vilR r ((8 * y + x : Nat) : Int) w) x k = wbS r x k + (if y < k then w else 0)
  | 0 => by show (0 : Int) = 0 + _; rw [if_neg (by omega)]; omega
  | k + 1 => by
    have ih := wbS_vil (r := r) (w := w) hx hy k
    show wbS (vilR r ((8 * y + x : Nat) : Int) w) x k + vilR r ((8 * y + x : Nat) : Int) w (73 + (8 * k + x)) = wbS r x k + r (73 + (8 * k + x)) + _
    rw [ih]
    have e : vilR r ((8 * y + x : Nat) : Int) w (73 + (8 * k + x)) = if k = y then r (73 + (8 * k + x)) + w else r (73 + (8 * k + x)) := by
      unfold vilR
      rw [va_up_ne _ _ (by omega)]
      by_cases q : k = y
      · subst q
        rw [if_pos rfl, Int.toNat_natCast, va_up_self]
      · rw [if_neg q, va_up_ne _ _ (by omega)]
    rw [e]
    by_cases q : k = y
    · subst q
      rw [if_pos rfl, if_neg (by omega), if_pos (by omega)]; omega
    · rw [if_neg q]
      by_cases q2 : y < k
      · rw [if_pos q2, if_pos (by omega)]; omega
      · rw [if_neg q2, if_neg (by omega)]; omega
theorem wbS_other {r : Nat → Int} {x y x2 : Nat} {w : Int} (hx : x < 8) (hx2 : x2 < 8) (hne : x2 ≠ x) : ∀ k, wbS (vilR r ((8 * y + x : Nat) : Int) w) x2 k = wbS r x2 k
  | 0 => rfl
  | k + 1 => by
    have ih := wbS_other (r := r) (y := y) (w := w) hx hx2 hne k
    show wbS (vilR r ((8 * y + x : Nat) : Int) w) x2 k + vilR r ((8 * y + x : Nat) : Int) w (73 + (8 * k + x2)) = wbS r x2 k + r (73 + (8 * k + x2))
    rw [ih]
    unfold vilR
    rw [va_up_ne _ _ (by omega), va_up_ne _ _ (by omega)]
/-- w more at the places from a on, below k -/
def adA (g : Nat → Int) (a k : Nat) (w : Int) : Nat → Int := fun q => if a ≤ q ∧ q < k then g q + w else g q
theorem adA_0 (g : Nat → Int) (a : Nat) (w : Int) : adA g a a w = g := by
  funext q; unfold adA; rw [if_neg (by omega)]
theorem adA_s {g : Nat → Int} {a k : Nat} {w : Int} (h : a ≤ k) : va_up (adA g a k w) k (adA g a k w k + w) = adA g a (k + 1) w := by
  funext q
  by_cases hq : q = k
  · subst hq; rw [va_up_self]; unfold adA; rw [if_neg (by omega), if_pos (by omega)]
  · rw [va_up_ne _ _ hq]
    unfold adA
    by_cases h2 : a ≤ q ∧ q < k
    · rw [if_pos h2, if_pos (by omega)]
    · rw [if_neg h2, if_neg (by omega)]
/-- the arrays of a ground: worths, guards, people, columns -/
def wA (p : Nat → Int) : Nat → Int := fun k => if k < 48 then p (73 + k) else 0
def gA (p : Nat → Int) : Nat → Int := fun k => if k < 48 then p (25 + k) else 0
def psA (c : Nat) (p : Nat → Int) : Nat → Option Nat := fun i => if (i : Int) < p 4 then some (c + 23 + i) else none
def ouA (c : Nat) : Nat → Option Nat := fun i => if i < 8 then some (c + 5 + i) else none
theorem wA_at {p : Nat → Int} {k : Nat} (h : k < 48) : wA p k = p (73 + k) := if_pos h
theorem gA_at {p : Nat → Int} {k : Nat} (h : k < 48) : gA p k = p (25 + k) := if_pos h
theorem psA_at {c : Nat} {p : Nat → Int} {i : Nat} (h : (i : Int) < p 4) : psA c p i = some (c + 23 + i) := if_pos h
theorem ouA_at {c i : Nat} (h : i < 8) : ouA c i = some (c + 5 + i) := if_pos h
theorem vil_wor {r : Nat → Int} {x y : Nat} {w : Int} (h : 8 * y + x < 48) : va_up (wA r) (8 * y + x) (wA r (8 * y + x) + w) = wA (vilR r ((8 * y + x : Nat) : Int) w) := by
  funext k
  by_cases q : k = 8 * y + x
  · subst q
    rw [va_up_self, wA_at h, wA_at h]
    unfold vilR
    rw [va_up_ne _ _ (by omega), Int.toNat_natCast, va_up_self]
  · rw [va_up_ne _ _ q]
    unfold wA
    split
    · unfold vilR
      rw [va_up_ne _ _ (by omega), Int.toNat_natCast, va_up_ne _ _ (by omega)]
    · rfl
theorem vil_gua {r : Nat → Int} {c w : Int} (hc : 0 ≤ c ∧ c ≤ 47) : gA (vilR r c w) = gA r := by
  funext k
  unfold gA
  split
  · unfold vilR
    rw [va_up_ne _ _ (by omega), va_up_ne _ _ (by omega)]
  · rfl
theorem gua_gua {r : Nat → Int} {c : Int} (hc : 0 ≤ c ∧ c ≤ 47) : va_up (gA r) c.toNat 1 = gA (guaR r c) := by
  funext k
  by_cases q : k = c.toNat
  · subst q
    rw [va_up_self, gA_at (by omega)]
    unfold guaR
    rw [va_up_self]
  · rw [va_up_ne _ _ q]
    unfold gA
    split
    · unfold guaR
      rw [va_up_ne _ _ (by omega)]
    · rfl
theorem gua_wor {r : Nat → Int} {c : Int} (hc : 0 ≤ c ∧ c ≤ 47) : wA (guaR r c) = wA r := by
  funext k
  unfold wA guaR
  split
  · rw [va_up_ne _ _ (by omega)]
  · rfl
theorem per_wor {r : Nat → Int} {q : Per4} (h4 : 0 ≤ r 4 ∧ r 4 < 5) : wA (perR r q) = wA r ∧ gA (perR r q) = gA r := by
  refine ⟨funext fun k => ?_, funext fun k => ?_⟩
  · unfold wA
    rw [perR_ne h4 (by omega) (by omega)]
  · unfold gA
    rw [perR_ne h4 (by omega) (by omega)]
theorem gua_wbS {r : Nat → Int} {c : Int} (hc : 0 ≤ c ∧ c ≤ 47) {x : Nat} : ∀ k, wbS (guaR r c) x k = wbS r x k
  | 0 => rfl
  | k + 1 => by
    show wbS (guaR r c) x k + guaR r c (73 + (8 * k + x)) = wbS r x k + r (73 + (8 * k + x))
    rw [gua_wbS hc k]
    unfold guaR
    rw [va_up_ne _ _ (by omega)]
theorem per_wbS {r : Nat → Int} {q : Per4} (h4 : 0 ≤ r 4 ∧ r 4 < 5) {x : Nat} : ∀ k, wbS (perR r q) x k = wbS r x k
  | 0 => rfl
  | k + 1 => by
    show wbS (perR r q) x k + perR r q (73 + (8 * k + x)) = wbS r x k + r (73 + (8 * k + x))
    rw [per_wbS h4 k, perR_ne h4 (by omega) (by omega)]
theorem psA_push {r : Nat → Int} {q : Per4} {c N : Nat} (h4 : 0 ≤ r 4 ∧ r 4 < 5) (hN : N = c + 23 + (r 4).toNat) : psA c (perR r q) = va_up (psA c r) (r 4).toNat (some N) := by
  funext i
  have e4 := (perR_at (q := q) h4 (show 0 < 5 by omega)).2.2.2.2
  by_cases h : i = (r 4).toNat
  · subst h
    rw [va_up_self, psA_at (by rw [e4]; omega), hN]
  · rw [va_up_ne _ _ h]
    unfold psA
    rw [e4]
    by_cases h2 : (i : Int) < r 4
    · rw [if_pos h2, if_pos (by omega)]
    · rw [if_neg h2, if_neg (by omega)]
theorem wbS_vil2 {r : Nat → Int} {x y : Nat} {w : Int} (hx : x < 8) (hy : y < 6) : ∀ k, k < 7 → wbS (vilR r ((8 * y + x : Nat) : Int) w) x k = adA (wbS r x) (y + 1) 7 w k := fun k hk => by
  rw [wbS_vil hx hy]
  unfold adA
  by_cases q : y + 1 ≤ k ∧ k < 7
  · rw [if_pos q, if_pos (by omega)]
  · rw [if_neg q, if_neg (by omega)]; omega

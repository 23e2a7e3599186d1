theorem isCorA_snoc (l : Cor) (q : Int × Int) (c : Int) : isCorA (l ++ [q]) c = if isCorA l c = 1 ∨ q.1 = c then 1 else 0 := by
  unfold isCorA
  rw [List.any_append]
  by_cases h : l.any (fun q => decide (q.1 = c)) = true
  · rw [bI_1 (by simp only [h, Bool.true_or]), bI_1 h, if_pos (Or.inl rfl)]
  · rw [bI_0 h]
    by_cases hq : q.1 = c
    · rw [if_pos (Or.inr hq), bI_1]
      simp [hq]
    · rw [if_neg (by omega), bI_0]
      simp only [Bool.not_eq_true] at h
      simp [h, hq]
theorem isCorA_rng (l : Cor) (c : Int) : 0 ≤ isCorA l c ∧ isCorA l c ≤ 1 := bI_rng _
theorem ior01 {a b : Int} (ha : 0 ≤ a ∧ a ≤ 1) (hb : 0 ≤ b ∧ b ≤ 1) : (zI a ||| zI b) = zI (if a = 1 ∨ b = 1 then 1 else 0) := by
  have h1 : a = 0 ∨ a = 1 := by omega
  have h2 : b = 0 ∨ b = 1 := by omega
  rcases h1 with rfl | rfl <;> rcases h2 with rfl | rfl <;> decide
/-- how many rows there are -/
def cntR (sz : Nat → Int) : Nat → Int
  | 0 => 0
  | k + 1 => cntR sz k + (if sz k < 0 then 0 else 1)
theorem cntR_rng (sz : Nat → Int) : ∀ k, 0 ≤ cntR sz k ∧ cntR sz k ≤ k
  | 0 => ⟨Int.le_refl _, Int.le_refl _⟩
  | k + 1 => by
    have := cntR_rng sz k
    show 0 ≤ cntR sz k + _ ∧ cntR sz k + _ ≤ _
    split <;> omega
/-- how many cells have a guard -/
def cntG (p : Nat → Int) : Nat → Int
  | 0 => 0
  | k + 1 => cntG p k + p (25 + k)
theorem cntG_rng {p : Nat → Int} (hp : POk p) : ∀ {k}, k ≤ 48 → 0 ≤ cntG p k ∧ cntG p k ≤ k
  | 0, _ => ⟨Int.le_refl _, Int.le_refl _⟩
  | k + 1, h => by
    have h1 := cntG_rng hp (k := k) (by omega)
    have h2 := (hp.2.2.2.2.2.2 k (by omega)).1
    show 0 ≤ cntG p k + p (25 + k) ∧ cntG p k + p (25 + k) ≤ _
    omega
/-- the corners after the best crossing, where there is one -/
def midA (p : Nat → Int) (l : Cor) (who : Nat) (s : Bst) : Cor := match s with
  | none => l
  | some (c, _, _) => crossA (p (5 + who)) (p 2) c l
/-- the corners after the best crossing, where it gains -/
def repA (p : Nat → Int) (l : Cor) (who : Nat) (s : Bst) : Cor := match s with
  | none => l
  | some (c, ld, _) => if leadA p l (p (10 + who)) < ld then crossA (p (5 + who)) (p 2) c l else l
def mvA (p : Nat → Int) (l : Cor) (who k : Nat) : Cor := if k = 0 then l else crossA (p (5 + who)) (p 2) (k - 1) l
noncomputable def gameV (p : Nat → Int) (l : Cor) (x y k : Nat) : Int := leadA p (repA p (mvA p l x k) y (bestF p (mvA p l x k) y 48)) (p (10 + x))
noncomputable def gameF (p : Nat → Int) (l : Cor) (x y : Nat) : Nat → Option (Nat × Int)
  | 0 => none
  | k + 1 => if k = 0 ∨ mayI p l x (k - 1) = 1 then
      (match gameF p l x y k with
      | none => some (k, gameV p l x y k)
      | some (c, w) => if w < gameV p l x y k then some (k, gameV p l x y k) else some (c, w))
    else gameF p l x y k
def gameR (s : Option (Nat × Int)) (b v : Int) : Prop := (s = none ∧ b = -1000000) ∨ (∃ (c : Nat) (w : Int), s = some (c, w) ∧ b = (c : Int) - 1 ∧ v = w)
theorem gameR_no {p : Nat → Int} {l : Cor} {x y k : Nat} {b v : Int} (h : gameR (gameF p l x y k) b v) (hk : ¬ (k = 0 ∨ mayI p l x (k - 1) = 1)) : gameR (gameF p l x y (k + 1)) b v := by
  have e : gameF p l x y (k + 1) = gameF p l x y k := by
    show (if _ then _ else _) = _
    rw [if_neg hk]
  rw [e]; exact h
theorem gameR_new {p : Nat → Int} {l : Cor} {x y k : Nat} {b v : Int} (h : gameR (gameF p l x y k) b v) (hk : k = 0 ∨ mayI p l x (k - 1) = 1) (hn : b = -1000000 ∨ v < gameV p l x y k) : gameR (gameF p l x y (k + 1)) ((k : Int) - 1) (gameV p l x y k) := by
  have e : gameF p l x y (k + 1) = some (k, gameV p l x y k) := by
    show (if _ then _ else _) = _
    rw [if_pos hk]
    rcases h with ⟨h1, -⟩ | ⟨c, w, h1, h2, h3⟩
    · rw [h1]
    · rw [h1]
      show (if _ then _ else _) = _
      rw [if_pos (by omega)]
  exact Or.inr ⟨k, _, e, rfl, rfl⟩
theorem gameR_old {p : Nat → Int} {l : Cor} {x y k : Nat} {b v : Int} (h : gameR (gameF p l x y k) b v) (hk : k = 0 ∨ mayI p l x (k - 1) = 1) (hn : b ≠ -1000000 ∧ ¬ v < gameV p l x y k) : gameR (gameF p l x y (k + 1)) b v := by
  rcases h with ⟨-, h2⟩ | ⟨c, w, h1, h2, h3⟩
  · exact absurd h2 hn.1
  · have e : gameF p l x y (k + 1) = some (c, w) := by
      show (if _ then _ else _) = _
      rw [if_pos hk, h1]
      show (if _ then _ else _) = _
      rw [if_neg (by omega)]
    exact Or.inr ⟨c, w, e, h2, h3⟩
def gameW (s : Option (Nat × Int)) (what : Int) : Int := match s with
  | none => -1000000
  | some (c, w) => if what = 0 then (c : Int) - 1 else w
/-- one of the other land may take the cell so that a land holds less than it should -/
def heldP (p : Nat → Int) (l : Cor) (ld n : Int) (m k : Nat) : Prop := ∃ j, j < m ∧ p (10 + j) ≠ ld ∧ mayI p l j k = 1 ∧ sumA p (crossA (p (5 + j)) (p 2) k l) ld 1 48 < n
noncomputable def heldI (p : Nat → Int) (l : Cor) (ld n : Int) (m k : Nat) : Int := @ite Int (heldP p l ld n m k) (Classical.propDecidable _) 1 0
theorem heldI_rng (p : Nat → Int) (l : Cor) (ld n : Int) (m k : Nat) : 0 ≤ heldI p l ld n m k ∧ heldI p l ld n m k ≤ 1 := by
  unfold heldI
  split <;> omega
theorem heldI_0 (p : Nat → Int) (l : Cor) (ld n : Int) (k : Nat) : heldI p l ld n 0 k = 0 := by
  unfold heldI
  exact if_neg (fun ⟨j, h, _⟩ => absurd h (Nat.not_lt_zero _))
theorem heldI_skip {p : Nat → Int} {l : Cor} {ld n : Int} {m k : Nat} (h : p (10 + m) = ld ∨ mayI p l m k = 0) : heldI p l ld n (m + 1) k = heldI p l ld n m k := by
  have e : heldP p l ld n (m + 1) k ↔ heldP p l ld n m k := by
    constructor
    · rintro ⟨j, h1, h2, h3, h4⟩
      by_cases hj : j = m
      · subst hj
        rcases h with h | h
        · exact absurd h h2
        · rw [h] at h3; exact absurd h3 (by omega)
      · exact ⟨j, by omega, h2, h3, h4⟩
    · rintro ⟨j, h1, h2⟩
      exact ⟨j, by omega, h2⟩
  unfold heldI
  by_cases hh : heldP p l ld n m k
  · rw [if_pos hh, if_pos (e.mpr hh)]
  · rw [if_neg hh, if_neg (fun q => hh (e.mp q))]
theorem heldI_step {p : Nat → Int} {l : Cor} {ld n z : Int} {m k : Nat} (h1 : p (10 + m) ≠ ld) (h2 : mayI p l m k = 1) (hz : z = heldI p l ld n m k) : (if z ≠ 0 ∨ sumA p (crossA (p (5 + m)) (p 2) k l) ld 1 48 < n then 1 else 0) = heldI p l ld n (m + 1) k := by
  subst hz
  unfold heldI
  by_cases hh : heldP p l ld n m k
  · have h3 : heldP p l ld n (m + 1) k := by
      obtain ⟨j, a, b⟩ := hh
      exact ⟨j, by omega, b⟩
    rw [if_pos hh, if_pos h3, if_pos (Or.inl (by omega))]
  · rw [if_neg hh]
    by_cases hs : sumA p (crossA (p (5 + m)) (p 2) k l) ld 1 48 < n
    · have h3 : heldP p l ld n (m + 1) k := ⟨m, by omega, h1, h2, hs⟩
      rw [if_pos h3, if_pos (Or.inr hs)]
    · have h3 : ¬ heldP p l ld n (m + 1) k := by
        rintro ⟨j, a, b, c, d⟩
        by_cases hj : j = m
        · subst hj; exact hs d
        · exact hh ⟨j, by omega, b, c, d⟩
      rw [if_neg h3, if_neg (by omega)]
noncomputable def heldC (p : Nat → Int) (l : Cor) (ld n : Int) (m : Nat) : Nat → Int
  | 0 => 0
  | k + 1 => heldC p l ld n m k + heldI p l ld n m k
theorem heldC_rng (p : Nat → Int) (l : Cor) (ld n : Int) (m : Nat) : ∀ k, 0 ≤ heldC p l ld n m k ∧ heldC p l ld n m k ≤ k
  | 0 => ⟨Int.le_refl _, Int.le_refl _⟩
  | k + 1 => by
    have h1 := heldC_rng p l ld n m k
    have h2 := heldI_rng p l ld n m k
    show 0 ≤ heldC p l ld n m k + heldI p l ld n m k ∧ heldC p l ld n m k + heldI p l ld n m k ≤ _
    omega
/-- the cell that is the nth -/
noncomputable def heldW (p : Nat → Int) (l : Cor) (ld n : Int) (m : Nat) (w : Int) : Nat → Option Nat
  | 0 => none
  | k + 1 => match heldW p l ld n m w k with
    | some c => some c
    | none => if heldI p l ld n m k = 1 ∧ heldC p l ld n m k = w then some k else none
theorem heldW_no {p : Nat → Int} {l : Cor} {ld n w : Int} {m k : Nat} (h : heldW p l ld n m w k = none) (hn : ¬ (heldI p l ld n m k = 1 ∧ heldC p l ld n m k = w)) : heldW p l ld n m w (k + 1) = none := by
  show (match heldW p l ld n m w k with
    | some c => some c
    | none => if heldI p l ld n m k = 1 ∧ heldC p l ld n m k = w then some k else none) = none
  rw [h]
  exact if_neg hn
theorem heldW_yes {p : Nat → Int} {l : Cor} {ld n w : Int} {m k : Nat} (h : heldW p l ld n m w k = none) (hn : heldI p l ld n m k = 1 ∧ heldC p l ld n m k = w) : heldW p l ld n m w (k + 1) = some k := by
  show (match heldW p l ld n m w k with
    | some c => some c
    | none => if heldI p l ld n m k = 1 ∧ heldC p l ld n m k = w then some k else none) = some k
  rw [h]
  exact if_pos hn
theorem heldW_stays {p : Nat → Int} {l : Cor} {ld n w : Int} {m k c : Nat} (h : heldW p l ld n m w k = some c) : ∀ j, heldW p l ld n m w (k + j) = some c
  | 0 => h
  | j + 1 => by
    show (match heldW p l ld n m w (k + j) with
      | some c => some c
      | none => if heldI p l ld n m (k + j) = 1 ∧ heldC p l ld n m (k + j) = w then some (k + j) else none) = some c
    rw [heldW_stays h j]
noncomputable def heldA (p : Nat → Int) (l : Cor) (ld n w : Int) (m : Nat) : Int := match heldW p l ld n m w 48 with
  | some c => (c : Int)
  | none => if w < 0 then heldC p l ld n m 48 else -1000000
theorem heldA_yes {p : Nat → Int} {l : Cor} {ld n w : Int} {m k : Nat} (h : heldW p l ld n m w k = none) (hn : heldI p l ld n m k = 1 ∧ heldC p l ld n m k = w) (hk : k < 48) : (k : Int) = heldA p l ld n w m := by
  have e := heldW_stays (heldW_yes h hn) (48 - (k + 1))
  rw [show k + 1 + (48 - (k + 1)) = 48 by omega] at e
  unfold heldA
  rw [e]
theorem heldA_no {p : Nat → Int} {l : Cor} {ld n w : Int} {m : Nat} (h : heldW p l ld n m w 48 = none) : (if w < 0 then heldC p l ld n m 48 else -1000000) = heldA p l ld n w m := by
  unfold heldA
  rw [h]
/-- the south's cells of a column -/
def soC (p : Nat → Int) (l : Cor) (x : Nat) : Nat → Int
  | 0 => 0
  | y + 1 => soC p l x y + (if whoseA (p 0) (p 1) l (8 * y + x) = 0 then 1 else 0)
theorem soC_rng (p : Nat → Int) (l : Cor) (x : Nat) : ∀ y, 0 ≤ soC p l x y ∧ soC p l x y ≤ y
  | 0 => ⟨Int.le_refl _, Int.le_refl _⟩
  | y + 1 => by
    have := soC_rng p l x y
    show 0 ≤ soC p l x y + _ ∧ soC p l x y + _ ≤ _
    split <;> omega
/-- the south's cells are what a row says, as far as the column k -/
def isSoF (p : Nat → Int) (l : Cor) (it : Nat → Int) (o : Nat) : Nat → Int
  | 0 => 1
  | k + 1 => if isSoF p l it o k ≠ 0 ∧ soC p l k 6 = it (o + k) then 1 else 0
theorem isSoF_rng (p : Nat → Int) (l : Cor) (it : Nat → Int) (o : Nat) : ∀ k, 0 ≤ isSoF p l it o k ∧ isSoF p l it o k ≤ 1
  | 0 => ⟨(by decide : (0 : Int) ≤ 1), (by decide : (1 : Int) ≤ 1)⟩
  | k + 1 => by
    unfold isSoF
    split <;> omega
/-- the crossings after which it is so -/
noncomputable def wentI (p : Nat → Int) (l : Cor) (it : Nat → Int) (o q : Nat) : Int := if mayI p l (q / 48) (q % 48) = 1 ∧ isSoF p (crossA (p (5 + q / 48)) (p 2) (q % 48) l) it o 8 = 1 then 1 else 0
noncomputable def wentC (p : Nat → Int) (l : Cor) (it : Nat → Int) (o : Nat) : Nat → Int
  | 0 => 0
  | q + 1 => wentC p l it o q + wentI p l it o q
noncomputable def wentB (p : Nat → Int) (l : Cor) (it : Nat → Int) (o : Nat) : Nat → Int
  | 0 => -1000000
  | q + 1 => if wentI p l it o q = 1 ∧ wentC p l it o q = 0 then (q : Int) else wentB p l it o q
theorem wentI_rng (p : Nat → Int) (l : Cor) (it : Nat → Int) (o q : Nat) : 0 ≤ wentI p l it o q ∧ wentI p l it o q ≤ 1 := by unfold wentI; split <;> omega
theorem wentC_rng (p : Nat → Int) (l : Cor) (it : Nat → Int) (o : Nat) : ∀ q, 0 ≤ wentC p l it o q ∧ wentC p l it o q ≤ q
  | 0 => ⟨Int.le_refl _, Int.le_refl _⟩
  | q + 1 => by
    have h1 := wentC_rng p l it o q
    have h2 := wentI_rng p l it o q
    show 0 ≤ wentC p l it o q + wentI p l it o q ∧ wentC p l it o q + wentI p l it o q ≤ _
    omega
theorem wentI_at {p : Nat → Int} {l : Cor} {it : Nat → Int} {o j k : Nat} (hk : k < 48) : wentI p l it o (48 * j + k) = if mayI p l j k = 1 ∧ isSoF p (crossA (p (5 + j)) (p 2) k l) it o 8 = 1 then 1 else 0 := by
  unfold wentI
  rw [show (48 * j + k) / 48 = j by omega, show (48 * j + k) % 48 = k by omega]
theorem went_no {p : Nat → Int} {l : Cor} {it : Nat → Int} {o q : Nat} {n b : Int} (h : n = wentC p l it o q ∧ b = wentB p l it o q) (hi : wentI p l it o q = 0) : n = wentC p l it o (q + 1) ∧ b = wentB p l it o (q + 1) := by
  refine ⟨?_, ?_⟩
  · show n = wentC p l it o q + wentI p l it o q
    omega
  · show b = if wentI p l it o q = 1 ∧ wentC p l it o q = 0 then (q : Int) else wentB p l it o q
    rw [if_neg (by omega)]; exact h.2
theorem went_yes {p : Nat → Int} {l : Cor} {it : Nat → Int} {o q : Nat} {n b : Int} (h : n = wentC p l it o q ∧ b = wentB p l it o q) (hi : wentI p l it o q = 1) : n + 1 = wentC p l it o (q + 1) ∧ (if n = 0 then (q : Int) else b) = wentB p l it o (q + 1) := by
  refine ⟨?_, ?_⟩
  · show n + 1 = wentC p l it o q + wentI p l it o q
    omega
  · show _ = if wentI p l it o q = 1 ∧ wentC p l it o q = 0 then (q : Int) else wentB p l it o q
    by_cases h0 : n = 0
    · rw [if_pos h0, if_pos ⟨hi, by omega⟩]
    · rw [if_neg h0, if_neg (by omega)]; exact h.2
/-- whether all eight are cells' counts -/
def rowOk (it : Nat → Int) (o : Nat) : Nat → Int
  | 0 => 1
  | k + 1 => if rowOk it o k = 1 ∧ (0 ≤ it (o + k) ∧ it (o + k) ≤ 6) then 1 else 0
theorem rowOk_no {it : Nat → Int} {o k : Nat} (h : ¬ (0 ≤ it (o + k) ∧ it (o + k) ≤ 6)) : ∀ j, rowOk it o (k + 1 + j) = 0
  | 0 => by
    show (if _ then _ else _) = _
    rw [if_neg (fun q => h q.2)]
  | j + 1 => by
    show (if rowOk it o (k + 1 + j) = 1 ∧ _ then _ else _) = _
    rw [if_neg (by rw [rowOk_no h j]; omega)]
theorem rowOk_yes {it : Nat → Int} {o k : Nat} (h : rowOk it o k = 1) (h2 : 0 ≤ it (o + k) ∧ it (o + k) ≤ 6) : rowOk it o (k + 1) = 1 := by
  show (if _ then _ else _) = _
  rw [if_pos ⟨h, h2⟩]
/-- a list written into an array, from n on -/
def wrL (tr : Nat → Int) (n : Nat) : List Int → Nat → Int
  | [] => tr
  | d :: ds => wrL (va_up tr n d) (n + 1) ds
theorem wrL_app : ∀ (ds es : List Int) (tr : Nat → Int) (n : Nat), wrL (wrL tr n ds) (n + ds.length) es = wrL tr n (ds ++ es)
  | [], _, _, _ => rfl
  | d :: ds, es, tr, n => by
    show wrL (wrL (va_up tr n d) (n + 1) ds) (n + (ds.length + 1)) es = wrL (va_up tr n d) (n + 1) (ds ++ es)
    rw [← wrL_app ds es, show n + (ds.length + 1) = n + 1 + ds.length by omega]
def markD (o : Int) : List Int := if o = 2 then [24, 21, 20] else if o = 3 then [22, 21, 20] else [21, 20]
def markV (o z : Int) : Int := if o = 2 then 2 * z else if o = 3 then z - 1000 else z
def sizeD (o : Int) : List Int := if o = 5 then [14, 13, 10] else [13, 10]
def sizeV (o z : Int) : Int := if o = 5 then 2 * (z - 100) else z - 100
def askD (o what : Int) : List Int := if o < 4 then (if what = 1 then markD o else (if o = 2 then [12, 11, 10] else [11, 10]) ++ markD o) else (if what = 0 then sizeD o else [23, 20] ++ sizeD o)
def askV (o x z s what : Int) : Int := if o < 4 then (if what = 1 then markV o z else (if o = 2 then -(s + markV o z) else s + markV o z)) else (if what = 0 then sizeV o s else x - sizeV o s)
theorem gameF_some {p : Nat → Int} {l : Cor} {x y : Nat} : ∀ k, ∃ c w, gameF p l x y (k + 1) = some (c, w)
  | 0 => ⟨0, _, if_pos (Or.inl rfl)⟩
  | k + 1 => by
    obtain ⟨c, w, h⟩ := gameF_some (p := p) (l := l) (x := x) (y := y) k
    rw [gameF, h]
    by_cases h1 : k + 1 = 0 ∨ mayI p l x (k + 1 - 1) = 1
    · rw [if_pos h1]
      by_cases h2 : w < gameV p l x y (k + 1)
      · exact ⟨_, _, if_pos h2⟩
      · exact ⟨_, _, if_neg h2⟩
    · exact ⟨_, _, if_neg h1⟩
theorem gameW_of {p : Nat → Int} {l : Cor} {x y : Nat} {b q what r : Int} (h : gameR (gameF p l x y 49) b q) (hr : (what = 0 ∧ r = b) ∨ (what ≠ 0 ∧ r = q)) : r = gameW (gameF p l x y 49) what := by
  obtain ⟨c', w', e⟩ := gameF_some (p := p) (l := l) (x := x) (y := y) 48
  rcases h with ⟨h1, -⟩ | ⟨c, w, h1, h2, h3⟩
  · rw [show (49 : Nat) = 48 + 1 from rfl, e] at h1
    exact absurd h1 (by simp)
  · rw [h1]
    unfold gameW
    show r = if what = 0 then (c : Int) - 1 else w
    split <;> omega
theorem gameR_new2 {p : Nat → Int} {l : Cor} {x y k : Nat} {b v c' v' : Int} (h : gameR (gameF p l x y k) b v) (hk : k = 0 ∨ mayI p l x (k - 1) = 1) (hc : c' = (k : Int) - 1) (hv : v' = gameV p l x y k) (hn : b = -1000000 ∨ v < v') : gameR (gameF p l x y (k + 1)) c' v' := by
  subst hc; subst hv; exact gameR_new h hk hn
theorem gameR_old2 {p : Nat → Int} {l : Cor} {x y k : Nat} {b v v' : Int} (h : gameR (gameF p l x y k) b v) (hk : k = 0 ∨ mayI p l x (k - 1) = 1) (hv : v' = gameV p l x y k) (hn : b ≠ -1000000 ∧ ¬ v < v') : gameR (gameF p l x y (k + 1)) b v := by
  subst hv; exact gameR_old h hk hn

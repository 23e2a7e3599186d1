/-! reading a ground, token by token -/
theorem srt_rng (c : Int) : 1 ≤ srt c ∧ srt c ≤ 4 := by
  unfold srt; split
  · omega
  · split
    · omega
    · split <;> omega
theorem skT_rng {t : Nat → Int} {n : Nat} : ∀ {f a : Nat}, a ≤ n → a ≤ skG t n f a ∧ skG t n f a ≤ n
  | 0, a, h => ⟨Nat.le_refl _, h⟩
  | f + 1, a, h => by
    unfold skG
    split
    · next q =>
      have := skT_rng (t := t) (f := f) (show a + 1 ≤ n by omega)
      omega
    · exact ⟨Nat.le_refl _, h⟩
theorem skT_le {t : Nat → Int} {n a : Nat} (h : a ≤ n) : a ≤ skT t n a ∧ skT t n a ≤ n := skT_rng h
theorem reT_rng {t : Nat → Int} {n : Nat} {k : Int} : ∀ {f a : Nat}, a ≤ n → a ≤ reG t n k f a ∧ reG t n k f a ≤ n
  | 0, a, h => ⟨Nat.le_refl _, h⟩
  | f + 1, a, h => by
    unfold reG
    split
    · next q =>
      have := reT_rng (t := t) (k := k) (f := f) (show a + 1 ≤ n by omega)
      omega
    · exact ⟨Nat.le_refl _, h⟩
theorem reT_le {t : Nat → Int} {n a : Nat} {k : Int} (h : a ≤ n) : a ≤ reT t n k a ∧ reT t n k a ≤ n := reT_rng h
theorem tokE_rng {t : Nat → Int} {n a : Nat} (h : a ≤ n) : a ≤ tokE t n a ∧ tokE t n a ≤ n ∧ (tokK t n a ≠ 0 → a < tokE t n a) := by
  have h1 := skT_le (t := t) h
  unfold tokE tokK
  by_cases q : skT t n a < n
  · rw [if_pos q, if_pos q]
    by_cases q2 : srt (t (skT t n a)) = 1 ∨ srt (t (skT t n a)) = 2
    · rw [if_pos q2]
      have h2 := reT_le (t := t) (k := srt (t (skT t n a))) h1.2
      have h3 := reT_go (t := t) (n := n) (k := srt (t (skT t n a))) q rfl
      have h4 := reT_le (t := t) (k := srt (t (skT t n a))) (show skT t n a + 1 ≤ n by omega)
      rw [h3] at h4
      exact ⟨by omega, by omega, fun _ => by omega⟩
    · rw [if_neg q2]
      exact ⟨by omega, by omega, fun _ => by omega⟩
  · rw [if_neg q, if_neg q]
    exact ⟨by omega, by omega, fun h => absurd rfl h⟩
theorem tokK_rng (t : Nat → Int) (n a : Nat) : 0 ≤ tokK t n a ∧ tokK t n a ≤ 4 := by
  have h := srt_rng (t (skT t n a))
  unfold tokK
  split
  · split <;> omega
  · omega
theorem valT_rng {t : Nat → Int} {k : Int} {b : Nat} (ht : ∀ i, 0 ≤ t i ∧ t i ≤ 255) : ∀ j, -(300 * 64 ^ (min j 8) : Int) ≤ valT t k b j ∧ valT t k b j ≤ (300 * 64 ^ (min j 8) : Int)
  | 0 => by
    show -(300 * 64 ^ 0 : Int) ≤ 0 ∧ (0 : Int) ≤ 300 * 64 ^ 0
    omega
  | j + 1 => by
    have ih := valT_rng (k := k) (b := b) ht j
    have hb := ht (b + j)
    unfold valT
    by_cases h : 7 < j
    · rw [if_pos h, show min (j + 1) 8 = 8 by omega]
      omega
    · rw [if_neg h]
      rw [show min (j + 1) 8 = j + 1 by omega]
      rw [show min j 8 = j by omega] at ih
      rw [show (64 : Int) ^ (j + 1) = 64 * 64 ^ j from by rw [Int.pow_succ, Int.mul_comm]]
      have h0 : (0 : Int) < 64 ^ j := Int.pow_pos (by decide)
      generalize (64 : Int) ^ j = w at *
      split <;> omega
theorem valT_rng2 {t : Nat → Int} {k : Int} {b j : Nat} (ht : ∀ i, 0 ≤ t i ∧ t i ≤ 255) : -100000000000000000 ≤ valT t k b j ∧ valT t k b j ≤ 100000000000000000 := by
  have h := valT_rng (k := k) (b := b) ht j
  have h2 : (64 : Int) ^ (min j 8) ≤ 64 ^ 8 := by
    have : min j 8 = 0 ∨ min j 8 = 1 ∨ min j 8 = 2 ∨ min j 8 = 3 ∨ min j 8 = 4 ∨ min j 8 = 5 ∨ min j 8 = 6 ∨ min j 8 = 7 ∨ min j 8 = 8 := by omega
    rcases this with q | q | q | q | q | q | q | q | q <;> rw [q] <;> decide
  have h3 : (64 : Int) ^ 8 = 281474976710656 := by decide
  omega
theorem tokV_rng {t : Nat → Int} {n a : Nat} (ht : ∀ i, 0 ≤ t i ∧ t i ≤ 255) : -100000000000000000 ≤ tokV t n a ∧ tokV t n a ≤ 100000000000000000 := by
  unfold tokV
  split
  · exact valT_rng2 ht
  · omega
theorem tok_fin {t : Nat → Int} {n a b z2 : Nat} {tk y : Int} (hb : skT t n a = b) (htk : tk = if b < n then srt (t b) else 0)
    (h : ((tk = 1 ∨ tk = 2) ∧ b ≤ z2 ∧ reT t n tk z2 = reT t n tk b ∧ y = valT t tk b (z2 - b)) ∨ (¬ (tk = 1 ∨ tk = 2) ∧ (z2 : Int) = (b : Int) + (if 2 < tk then 1 else 0) ∧ y = 0))
    (he : (tk = 1 ∨ tk = 2) → ¬ (z2 < n ∧ srt (t z2) = tk)) : tokE t n a = z2 ∧ tokV t n a = y ∧ tokK t n a = (if tk = 2 ∧ 3 < z2 - b then 4 else tk) := by
  unfold tokE tokV tokK
  rw [hb]
  by_cases q : b < n
  · rw [if_pos q] at htk
    rw [if_pos q, if_pos q, ← htk]
    have hr := srt_rng (t b)
    rw [← htk] at hr
    rcases h with ⟨h1, h2, h3, h4⟩ | ⟨h1, h2, h3⟩
    · rw [reT_end (he h1)] at h3
      rw [if_pos h1, if_pos ⟨q, h1⟩, ← h3]
      refine ⟨rfl, h4.symm, ?_⟩
      by_cases q2 : tk = 2
      · rw [q2] at h3
        rw [← h3]
      · rw [if_neg (fun z => q2 z.1), if_neg (fun z => q2 z.1)]
    · rw [if_neg h1, if_neg (fun z => h1 z.2)]
      rw [if_pos (show 2 < tk by omega)] at h2
      refine ⟨by omega, h3.symm, ?_⟩
      rw [if_neg (fun z => h1 (Or.inr z.1)), if_neg (fun z => h1 (Or.inr z.1))]
  · rw [if_neg q] at htk
    rw [if_neg q, if_neg q, if_neg (fun z => q z.1)]
    rcases h with ⟨h1, -⟩ | ⟨h1, h2, h3⟩
    · omega
    · rw [if_neg (show ¬ 2 < tk by omega)] at h2
      refine ⟨by omega, h3.symm, ?_⟩
      rw [if_neg (by omega)]; exact htk.symm
/-- what a piece of the text tells, and where it ends; or the fault and its place -/
abbrev PE (α : Type) : Type := Except (Int × Nat) (α × Nat)
def pThen {α β : Type} (x : PE α) (f : α → Nat → PE β) : PE β := match x with
  | .error e => .error e
  | .ok q => f q.1 q.2
theorem pThen_ok {α β : Type} {x : PE α} {f : α → Nat → PE β} {v : α} {e : Nat} (h : x = .ok (v, e)) : pThen x f = f v e := by rw [h]; rfl
theorem pThen_err {α β : Type} {x : PE α} {f : α → Nat → PE β} {e : Int × Nat} (h : x = .error e) : pThen x f = .error e := by rw [h]; rfl
def pNum (t : Nat → Int) (n : Nat) (lo hi : Int) (a : Nat) : PE Int := if tokK t n a ≠ 2 then .error (1, skT t n a) else if lo ≤ tokV t n a ∧ tokV t n a ≤ hi then .ok (tokV t n a, tokE t n a) else .error (2, skT t n a)
def pSig (t : Nat → Int) (n : Nat) (a : Nat) : PE Int := if tokK t n a = 3 then .ok (0, tokE t n a) else .error (1, skT t n a)
def pCell (t : Nat → Int) (n : Nat) (a : Nat) : PE Int := pThen (pNum t n 0 7 a) fun x e => pThen (pNum t n 0 5 e) fun y e => .ok (x + 8 * y, e)
def pVil (t : Nat → Int) (n : Nat) (a : Nat) : PE (Int × Int) := pThen (pCell t n a) fun c e => pThen (pNum t n 1 99 e) fun w e => pThen (pSig t n e) fun _ e => .ok ((c, w), e)
def pGua (t : Nat → Int) (n : Nat) (a : Nat) : PE Int := pThen (pCell t n a) fun c e => pThen (pSig t n e) fun _ e => .ok (c, e)
def kdT (t : Nat → Int) (n : Nat) (a : Nat) : Int := if tokK t n a = 1 then (if tokV t n a = 54740 then 1 else if tokV t n a = 5724665 then 2 else if tokV t n a = 679214 then 3 else if tokV t n a = 3417476 then 4 else if tokV t n a = 441803 then 5 else 0) else 0
def bgT (t : Nat → Int) (n : Nat) (a : Nat) : Int := if tokK t n a = 1 then (if tokV t n a = 23937287397 then 1 else if tokV t n a = 8029764 then 2 else if tokV t n a = 542723566 then 3 else 0) else 0
theorem kdT_rng (t : Nat → Int) (n a : Nat) : 0 ≤ kdT t n a ∧ kdT t n a ≤ 5 := by
  unfold kdT; split
  · split
    · omega
    · split
      · omega
      · split
        · omega
        · split
          · omega
          · split <;> omega
  · omega
theorem bgT_rng (t : Nat → Int) (n a : Nat) : 0 ≤ bgT t n a ∧ bgT t n a ≤ 3 := by
  unfold bgT; split
  · split
    · omega
    · split
      · omega
      · split <;> omega
  · omega
theorem bgT_0 {t : Nat → Int} {n a : Nat} (h : tokK t n a ≠ 1) : bgT t n a = 0 := if_neg h
theorem kdT_1 {t : Nat → Int} {n a : Nat} (h : kdT t n a ≠ 0) : tokK t n a = 1 := by
  unfold kdT at h
  split at h
  · assumption
  · exact absurd rfl h
abbrev Per4 : Type := Int × Int × Int × Int
def pPer (t : Nat → Int) (n : Nat) (a : Nat) : PE Per4 := if kdT t n a = 0 then .error (1, skT t n a) else
  pThen (pNum t n 0 1 (tokE t n a)) fun ld e => pThen (pCell t n e) fun h e => pThen (pNum t n 0 13 e) fun m e => pThen (pSig t n e) fun _ e => .ok ((kdT t n a, ld, h, m), e)
def vilR (r : Nat → Int) (c w : Int) : Nat → Int := va_up (va_up r (73 + c.toNat) (r (73 + c.toNat) + w)) 3 (r 3 + 1)
def guaR (r : Nat → Int) (c : Int) : Nat → Int := va_up r (25 + c.toNat) 1
def perR (r : Nat → Int) (q : Per4) : Nat → Int := va_up (va_up (va_up (va_up (va_up r (5 + (r 4).toNat) q.1) (10 + (r 4).toNat) q.2.1) (15 + (r 4).toNat) q.2.2.1) (20 + (r 4).toNat) q.2.2.2) 4 (r 4 + 1)
def pV (t : Nat → Int) (n : Nat) (r : Nat → Int) (b a : Nat) : PE (Nat → Int) := if r 3 < 8 then pThen (pVil t n a) fun q e => .ok (vilR r q.1 q.2, e) else .error (3, b)
def pG (t : Nat → Int) (n : Nat) (r : Nat → Int) (g : Int) (b a : Nat) : PE (Nat → Int) := if g < 8 then pThen (pGua t n a) fun c e => .ok (guaR r c, e) else .error (3, b)
def pP (t : Nat → Int) (n : Nat) (r : Nat → Int) (b a : Nat) : PE (Nat → Int) := if r 4 < 5 then pThen (pPer t n a) fun q e => .ok (perR r q, e) else .error (3, b)
def pItem (t : Nat → Int) (n : Nat) (what : Int) (r : Nat → Int) (g : Int) (a : Nat) : PE ((Nat → Int) × Int) :=
  if what = 1 then pThen (pV t n r (skT t n a) (tokE t n a)) fun r2 e => .ok ((r2, g), e)
  else if what = 2 then pThen (pG t n r g (skT t n a) (tokE t n a)) fun r2 e => .ok ((r2, g + 1), e)
  else pThen (pP t n r (skT t n a) (tokE t n a)) fun r2 e => .ok ((r2, g), e)
def pLoop (t : Nat → Int) (n : Nat) : Nat → Int → (Nat → Int) → Int → Nat → Except (Int × Nat) (Nat → Int)
  | 0, _, r, _, _ => .ok r
  | f + 1, ahead, r, g, a => if tokK t n a = 0 then .ok r else if bgT t n a < ahead then .error (1, skT t n a) else
      match pItem t n (bgT t n a) r g a with
      | .error e => .error e
      | .ok q => pLoop t n f (bgT t n a) q.1.1 q.1.2 q.2
def postR (w e k : Int) : Nat → Int := va_up (va_up (va_up (fun _ => 0) 0 w) 1 e) 2 k
def pPost (t : Nat → Int) (n : Nat) : PE (Nat → Int) := if tokK t n 0 = 1 ∧ tokV t n 0 = 17288851 then
    pThen (pNum t n 0 5 (tokE t n 0)) fun w e => pThen (pNum t n 0 5 e) fun x e => pThen (pNum t n 1 6 e) fun k e => pThen (pSig t n e) fun _ e => .ok (postR w x k, e)
  else .error (1, skT t n 0)
/-- the whole text: the ground that it tells, or its fault -/
def pAll (t : Nat → Int) (n : Nat) : Except (Int × Nat) (Nat → Int) := match pPost t n with
  | .error e => .error e
  | .ok q => pLoop t n (n + 1) 1 q.1 0 q.2
theorem pNum_ok {t : Nat → Int} {n : Nat} {lo hi v : Int} {a e : Nat} (h : pNum t n lo hi a = .ok (v, e)) (ha : a ≤ n) : (lo ≤ v ∧ v ≤ hi) ∧ a < e ∧ e ≤ n := by
  have hr := tokE_rng (t := t) ha
  unfold pNum at h
  split at h
  · cases h
  · next q =>
    split at h
    · next q2 =>
      have e1 : tokV t n a = v ∧ tokE t n a = e := by
        have := Except.ok.inj h
        exact ⟨congrArg Prod.fst this, congrArg Prod.snd this⟩
      rw [← e1.1, ← e1.2]
      exact ⟨q2, hr.2.2 (by omega), hr.2.1⟩
    · cases h
theorem pSig_ok {t : Nat → Int} {n : Nat} {v : Int} {a e : Nat} (h : pSig t n a = .ok (v, e)) (ha : a ≤ n) : a < e ∧ e ≤ n := by
  have hr := tokE_rng (t := t) ha
  unfold pSig at h
  split at h
  · next q =>
    have e1 : tokE t n a = e := congrArg Prod.snd (Except.ok.inj h)
    rw [← e1]
    exact ⟨hr.2.2 (by omega), hr.2.1⟩
  · cases h
/-- a ground as it is read -/
def rOk (r : Nat → Int) : Prop := POk r ∧ (1 ≤ r 2) ∧ (∀ k, k < 48 → r (73 + k) ≤ 99 * r 3) ∧ (∀ k, 121 ≤ k → r k = 0) ∧ (∀ i : Nat, i < 5 → (i : Int) < r 4 → 1 ≤ r (5 + i))
theorem rOk_post {w e k : Int} (hw : 0 ≤ w ∧ w ≤ 5) (he : 0 ≤ e ∧ e ≤ 5) (hk : 1 ≤ k ∧ k ≤ 6) : rOk (postR w e k) := by
  have h0 : postR w e k 0 = w := by unfold postR; rw [va_up_ne _ _ (by omega), va_up_ne _ _ (by omega), va_up_self]
  have h1 : postR w e k 1 = e := by unfold postR; rw [va_up_ne _ _ (by omega), va_up_self]
  have h2 : postR w e k 2 = k := by unfold postR; rw [va_up_self]
  have h3 : ∀ j, 3 ≤ j → postR w e k j = 0 := fun j hj => by
    unfold postR; rw [va_up_ne _ _ (by omega), va_up_ne _ _ (by omega), va_up_ne _ _ (by omega)]
  refine ⟨⟨by omega, by omega, by omega, ?_, ?_, fun i hi => ?_, fun j hj => ?_⟩, by omega, fun j hj => ?_, fun j hj => h3 j (by omega), fun i hi hl => ?_⟩
  · rw [h3 3 (by omega)]; omega
  · rw [h3 4 (by omega)]; omega
  · rw [h3 (5 + i) (by omega), h3 (10 + i) (by omega), h3 (15 + i) (by omega), h3 (20 + i) (by omega)]; omega
  · rw [h3 (25 + j) (by omega), h3 (73 + j) (by omega)]; omega
  · rw [h3 (73 + j) (by omega), h3 3 (by omega)]; omega
  · rw [h3 4 (by omega)] at hl; omega
theorem vilR_at {r : Nat → Int} {c w : Int} (hc : 0 ≤ c ∧ c ≤ 47) (j : Nat) : vilR r c w j = if j = 3 then r 3 + 1 else if j = 73 + c.toNat then r j + w else r j := by
  unfold vilR
  by_cases h3 : j = 3
  · rw [if_pos h3, h3, va_up_self]
  · rw [if_neg h3, va_up_ne _ _ h3]
    by_cases h4 : j = 73 + c.toNat
    · rw [if_pos h4, h4, va_up_self]
    · rw [if_neg h4, va_up_ne _ _ h4]
theorem rOk_vil {r : Nat → Int} {c w : Int} (h : rOk r) (h8 : r 3 < 8) (hc : 0 ≤ c ∧ c ≤ 47) (hw : 1 ≤ w ∧ w ≤ 99) : rOk (vilR r c w) := by
  obtain ⟨⟨p0, p1, p2, p3, p4, p5, p6⟩, q1, q2, q3, q4⟩ := h
  have e : ∀ j, j ≠ 3 → ¬ (73 ≤ j ∧ j < 121) → vilR r c w j = r j := fun j h1 h2 => by
    rw [vilR_at hc, if_neg h1, if_neg (by omega)]
  have e3 : vilR r c w 3 = r 3 + 1 := by rw [vilR_at hc, if_pos rfl]
  refine ⟨⟨by rw [e 0 (by omega) (by omega)]; exact p0, by rw [e 1 (by omega) (by omega)]; exact p1, by rw [e 2 (by omega) (by omega)]; exact p2, by rw [e3]; omega, by rw [e 4 (by omega) (by omega)]; exact p4, fun i hi => ?_, fun j hj => ?_⟩, by rw [e 2 (by omega) (by omega)]; exact q1, fun j hj => ?_, fun j hj => by rw [e j (by omega) (by omega)]; exact q3 j hj, fun i hi hl => ?_⟩
  · rw [e (5 + i) (by omega) (by omega), e (10 + i) (by omega) (by omega), e (15 + i) (by omega) (by omega), e (20 + i) (by omega) (by omega)]; exact p5 i hi
  · have a1 := p6 j hj
    have a2 := q2 j hj
    rw [e (25 + j) (by omega) (by omega), vilR_at hc (73 + j), if_neg (by omega)]
    split <;> omega
  · have a1 := p6 j hj
    have a2 := q2 j hj
    rw [e3, vilR_at hc (73 + j), if_neg (by omega)]
    split <;> omega
  · rw [e 4 (by omega) (by omega)] at hl
    rw [e (5 + i) (by omega) (by omega)]; exact q4 i hi hl
theorem rOk_gua {r : Nat → Int} {c : Int} (h : rOk r) (hc : 0 ≤ c ∧ c ≤ 47) : rOk (guaR r c) := by
  obtain ⟨⟨p0, p1, p2, p3, p4, p5, p6⟩, q1, q2, q3, q4⟩ := h
  have e : ∀ j, ¬ (25 ≤ j ∧ j < 73) → guaR r c j = r j := fun j h1 => by
    unfold guaR; rw [va_up_ne _ _ (by omega)]
  refine ⟨⟨by rw [e 0 (by omega)]; exact p0, by rw [e 1 (by omega)]; exact p1, by rw [e 2 (by omega)]; exact p2, by rw [e 3 (by omega)]; exact p3, by rw [e 4 (by omega)]; exact p4, fun i hi => ?_, fun j hj => ?_⟩, by rw [e 2 (by omega)]; exact q1, fun j hj => ?_, fun j hj => by rw [e j (by omega)]; exact q3 j hj, fun i hi hl => ?_⟩
  · rw [e (5 + i) (by omega), e (10 + i) (by omega), e (15 + i) (by omega), e (20 + i) (by omega)]; exact p5 i hi
  · have a1 := p6 j hj
    rw [e (73 + j) (by omega)]
    refine ⟨?_, a1.2⟩
    unfold guaR
    by_cases h4 : 25 + j = 25 + c.toNat
    · rw [h4, va_up_self]; omega
    · rw [va_up_ne _ _ h4]; exact a1.1
  · rw [e (73 + j) (by omega), e 3 (by omega)]; exact q2 j hj
  · rw [e 4 (by omega)] at hl
    rw [e (5 + i) (by omega)]; exact q4 i hi hl
theorem perR_ne {r : Nat → Int} {q : Per4} {j : Nat} (h4 : 0 ≤ r 4 ∧ r 4 < 5) (h : j ≠ 4) (h1 : j < 5 ∨ 25 ≤ j) : perR r q j = r j := by
  unfold perR
  rw [va_up_ne _ _ h, va_up_ne _ _ (by omega), va_up_ne _ _ (by omega), va_up_ne _ _ (by omega), va_up_ne _ _ (by omega)]
theorem perR_at {r : Nat → Int} {q : Per4} {i : Nat} (h4 : 0 ≤ r 4 ∧ r 4 < 5) (hi : i < 5) : perR r q (5 + i) = (if i = (r 4).toNat then q.1 else r (5 + i)) ∧ perR r q (10 + i) = (if i = (r 4).toNat then q.2.1 else r (10 + i)) ∧ perR r q (15 + i) = (if i = (r 4).toNat then q.2.2.1 else r (15 + i)) ∧ perR r q (20 + i) = (if i = (r 4).toNat then q.2.2.2 else r (20 + i)) ∧ perR r q 4 = r 4 + 1 := by
  unfold perR
  refine ⟨?_, ?_, ?_, ?_, ?_⟩
  · rw [va_up_ne _ _ (by omega), va_up_ne _ _ (by omega), va_up_ne _ _ (by omega), va_up_ne _ _ (by omega)]
    by_cases h : i = (r 4).toNat
    · rw [if_pos h, h, va_up_self]
    · rw [if_neg h, va_up_ne _ _ (by omega)]
  · rw [va_up_ne _ _ (by omega), va_up_ne _ _ (by omega), va_up_ne _ _ (by omega)]
    by_cases h : i = (r 4).toNat
    · rw [if_pos h, h, va_up_self]
    · rw [if_neg h, va_up_ne _ _ (by omega), va_up_ne _ _ (by omega)]
  · rw [va_up_ne _ _ (by omega), va_up_ne _ _ (by omega)]
    by_cases h : i = (r 4).toNat
    · rw [if_pos h, h, va_up_self]
    · rw [if_neg h, va_up_ne _ _ (by omega), va_up_ne _ _ (by omega), va_up_ne _ _ (by omega)]
  · rw [va_up_ne _ _ (by omega)]
    by_cases h : i = (r 4).toNat
    · rw [if_pos h, h, va_up_self]
    · rw [if_neg h, va_up_ne _ _ (by omega), va_up_ne _ _ (by omega), va_up_ne _ _ (by omega), va_up_ne _ _ (by omega)]
  · rw [va_up_self]
theorem rOk_per {r : Nat → Int} {q : Per4} (h : rOk r) (h5 : r 4 < 5) (hk : 1 ≤ q.1 ∧ q.1 ≤ 5) (hl : 0 ≤ q.2.1 ∧ q.2.1 ≤ 1) (hh : 0 ≤ q.2.2.1 ∧ q.2.2.1 ≤ 47) (hm : 0 ≤ q.2.2.2 ∧ q.2.2.2 ≤ 13) : rOk (perR r q) := by
  obtain ⟨⟨p0, p1, p2, p3, p4, p5, p6⟩, q1, q2, q3, q4⟩ := h
  have h4 : 0 ≤ r 4 ∧ r 4 < 5 := by omega
  have e : ∀ j, j ≠ 4 → (j < 5 ∨ 25 ≤ j) → perR r q j = r j := fun j h1 h2 => perR_ne h4 h1 h2
  have e4 := (perR_at (q := q) h4 (show 0 < 5 by omega)).2.2.2.2
  refine ⟨⟨by rw [e 0 (by omega) (by omega)]; exact p0, by rw [e 1 (by omega) (by omega)]; exact p1, by rw [e 2 (by omega) (by omega)]; exact p2, by rw [e 3 (by omega) (by omega)]; exact p3, by rw [e4]; omega, fun i hi => ?_, fun j hj => ?_⟩, by rw [e 2 (by omega) (by omega)]; exact q1, fun j hj => ?_, fun j hj => by rw [e j (by omega) (by omega)]; exact q3 j hj, fun i hi hl => ?_⟩
  · have a := perR_at (q := q) h4 hi
    have b := p5 i hi
    rw [a.1, a.2.1, a.2.2.1, a.2.2.2.1]
    by_cases hc : i = (r 4).toNat
    · rw [if_pos hc, if_pos hc, if_pos hc, if_pos hc]; omega
    · rw [if_neg hc, if_neg hc, if_neg hc, if_neg hc]; exact b
  · rw [e (25 + j) (by omega) (by omega), e (73 + j) (by omega) (by omega)]; exact p6 j hj
  · rw [e (73 + j) (by omega) (by omega), e 3 (by omega) (by omega)]; exact q2 j hj
  · rw [e4] at hl
    rw [(perR_at (q := q) h4 hi).1]
    by_cases hc : i = (r 4).toNat
    · rw [if_pos hc]; exact hk.1
    · rw [if_neg hc]; exact q4 i hi (by omega)
theorem pLoop_0 {t : Nat → Int} {n f : Nat} {ahead g : Int} {r : Nat → Int} {a : Nat} (h : tokK t n a = 0) : pLoop t n (f + 1) ahead r g a = .ok r := by
  show (if _ then _ else _) = _
  rw [if_pos h]
theorem pLoop_low {t : Nat → Int} {n f : Nat} {ahead g : Int} {r : Nat → Int} {a : Nat} (h : tokK t n a ≠ 0) (h2 : bgT t n a < ahead) : pLoop t n (f + 1) ahead r g a = .error (1, skT t n a) := by
  show (if _ then _ else _) = _
  rw [if_neg h, if_pos h2]
theorem pLoop_err {t : Nat → Int} {n f : Nat} {ahead g : Int} {r : Nat → Int} {a : Nat} {e : Int × Nat} (h : tokK t n a ≠ 0) (h2 : ahead ≤ bgT t n a) (h3 : pItem t n (bgT t n a) r g a = .error e) : pLoop t n (f + 1) ahead r g a = .error e := by
  show (if _ then _ else _) = _
  rw [if_neg h, if_neg (by omega), h3]
theorem pLoop_ok {t : Nat → Int} {n f : Nat} {ahead g g2 : Int} {r r2 : Nat → Int} {a e : Nat} (h : tokK t n a ≠ 0) (h2 : ahead ≤ bgT t n a) (h3 : pItem t n (bgT t n a) r g a = .ok ((r2, g2), e)) : pLoop t n (f + 1) ahead r g a = pLoop t n f (bgT t n a) r2 g2 e := by
  show (if _ then _ else _) = _
  rw [if_neg h, if_neg (by omega), h3]
/-- the reference's numbers that reading tokens leaves as they are -/
def nxF (m : Nat) (F F2 : Nat → Int) : Prop := ∀ k, k ≠ 6 → k ≠ 15 → k ≠ 16 → k ≠ 17 → (m ≤ 0 ∨ k ≠ 22) → (m ≤ 1 ∨ k ≠ 21) → F2 k = F k
theorem nxF_r (m : Nat) (F : Nat → Int) : nxF m F F := fun _ _ _ _ _ _ _ => rfl
theorem nxF_t {m j : Nat} {F F2 F3 : Nat → Int} (h : nxF j F F2) (h2 : nxF m F2 F3) (hm : j ≤ m) : nxF m F F3 := fun k a b c d e f => (h2 k a b c d e f).trans (h k a b c d (by omega) (by omega))
theorem nxF_u {m i : Nat} {F F2 : Nat → Int} (h : nxF i F F2) {j : Nat} {x : Int} (hm : i ≤ m) (hj : j = 6 ∨ j = 15 ∨ j = 16 ∨ j = 17 ∨ (j = 22 ∧ 1 ≤ m) ∨ (j = 21 ∧ 2 ≤ m)) : nxF m F (va_up F2 j x) := fun k a b c d e f => by
  rw [va_up_ne _ _ (by omega)]; exact h k a b c d (by omega) (by omega)
theorem up_same {F : Nat → Int} {j : Nat} {x : Int} (h : F j = x) : va_up F j x = F := by
  funext k
  by_cases hk : k = j
  · subst hk; rw [va_up_self]; exact h.symm
  · rw [va_up_ne _ _ hk]
theorem pCell_ok {t : Nat → Int} {n : Nat} {v : Int} {a e : Nat} (h : pCell t n a = .ok (v, e)) (ha : a ≤ n) : (0 ≤ v ∧ v ≤ 47) ∧ a < e ∧ e ≤ n := by
  unfold pCell at h
  cases h1 : pNum t n 0 7 a with
  | error q => rw [pThen_err h1] at h; cases h
  | ok q =>
    obtain ⟨x, e1⟩ := q
    rw [pThen_ok h1] at h
    have o1 := pNum_ok h1 ha
    cases h2 : pNum t n 0 5 e1 with
    | error q => rw [pThen_err h2] at h; cases h
    | ok q =>
      obtain ⟨y, e2⟩ := q
      rw [pThen_ok h2] at h
      have o2 := pNum_ok h2 o1.2.2
      have := Except.ok.inj h
      have e3 := congrArg Prod.fst this
      have e4 := congrArg Prod.snd this
      simp only at e3 e4
      omega
theorem pItem_ok {t : Nat → Int} {n : Nat} {what g g2 : Int} {r r2 : Nat → Int} {a e : Nat} (h : pItem t n what r g a = .ok ((r2, g2), e)) (hr : rOk r) (ha : a ≤ n) (hk : tokK t n a ≠ 0) (hg : 0 ≤ g ∧ g ≤ 8) : rOk r2 ∧ (0 ≤ g2 ∧ g2 ≤ 8) ∧ a < e ∧ e ≤ n := by
  have her := tokE_rng (t := t) ha
  have her2 := her.2.2 hk
  unfold pItem at h
  have hr4 := hr.1.2.2.2.2.1
  split at h
  · cases h1 : pV t n r (skT t n a) (tokE t n a) with
    | error q => rw [pThen_err h1] at h; cases h
    | ok q =>
      obtain ⟨x, e1⟩ := q
      rw [pThen_ok h1] at h
      have h := Except.ok.inj h
      have hx : x = r2 := congrArg (fun q => q.1.1) h
      have hg2 : g = g2 := congrArg (fun q => q.1.2) h
      have he : e1 = e := congrArg (fun q => q.2) h
      subst hx; subst hg2; subst he
      unfold pV at h1
      split at h1
      · next h8 =>
        unfold pVil at h1
        cases h2 : pCell t n (tokE t n a) with
        | error q => rw [pThen_err h2] at h1; cases h1
        | ok q =>
          obtain ⟨c, e2⟩ := q
          have o2 := pCell_ok h2 her.2.1
          rw [pThen_ok h2] at h1
          cases h3 : pNum t n 1 99 e2 with
          | error q => rw [pThen_err h3] at h1; cases h1
          | ok q =>
            obtain ⟨w, e3⟩ := q
            have o3 := pNum_ok h3 o2.2.2
            rw [pThen_ok h3] at h1
            cases h4 : pSig t n e3 with
            | error q => rw [pThen_err h4] at h1; cases h1
            | ok q =>
              obtain ⟨z, e4⟩ := q
              have o4 := pSig_ok h4 o3.2.2
              rw [pThen_ok h4] at h1
              have h1 := Except.ok.inj h1
              have hx : vilR r c w = x := congrArg (fun q => q.1) h1
              have he : e4 = e1 := congrArg (fun q => q.2) h1
              subst he
              rw [← hx]
              exact ⟨rOk_vil hr h8 o2.1 o3.1, hg, by omega, by omega⟩
      · cases h1
  · split at h
    · cases h1 : pG t n r g (skT t n a) (tokE t n a) with
      | error q => rw [pThen_err h1] at h; cases h
      | ok q =>
        obtain ⟨x, e1⟩ := q
        rw [pThen_ok h1] at h
        have h := Except.ok.inj h
        have hx : x = r2 := congrArg (fun q => q.1.1) h
        have hg2 : g + 1 = g2 := congrArg (fun q => q.1.2) h
        have he : e1 = e := congrArg (fun q => q.2) h
        subst hx; subst hg2; subst he
        unfold pG at h1
        split at h1
        · next h8 =>
          unfold pGua at h1
          cases h2 : pCell t n (tokE t n a) with
          | error q => rw [pThen_err h2] at h1; cases h1
          | ok q =>
            obtain ⟨c, e2⟩ := q
            have o2 := pCell_ok h2 her.2.1
            rw [pThen_ok h2] at h1
            cases h4 : pSig t n e2 with
            | error q => rw [pThen_err h4] at h1; cases h1
            | ok q =>
              obtain ⟨z, e4⟩ := q
              have o4 := pSig_ok h4 o2.2.2
              rw [pThen_ok h4] at h1
              have h1 := Except.ok.inj h1
              have hx : guaR r c = x := congrArg (fun q => q.1) h1
              have he : e4 = e1 := congrArg (fun q => q.2) h1
              subst he
              rw [← hx]
              exact ⟨rOk_gua hr o2.1, by omega, by omega, by omega⟩
        · cases h1
    · cases h1 : pP t n r (skT t n a) (tokE t n a) with
      | error q => rw [pThen_err h1] at h; cases h
      | ok q =>
        obtain ⟨x, e1⟩ := q
        rw [pThen_ok h1] at h
        have h := Except.ok.inj h
        have hx : x = r2 := congrArg (fun q => q.1.1) h
        have hg2 : g = g2 := congrArg (fun q => q.1.2) h
        have he : e1 = e := congrArg (fun q => q.2) h
        subst hx; subst hg2; subst he
        unfold pP at h1
        split at h1
        · next h8 =>
          unfold pPer at h1
          have hkr := kdT_rng t n (tokE t n a)
          split at h1
          · cases h1
          · next hkd =>
            have her3 := tokE_rng (t := t) her.2.1
            cases h2 : pNum t n 0 1 (tokE t n (tokE t n a)) with
            | error q => rw [pThen_err h2] at h1; cases h1
            | ok q =>
              obtain ⟨c, e2⟩ := q
              have o2 := pNum_ok h2 her3.2.1
              rw [pThen_ok h2] at h1
              cases h3 : pCell t n e2 with
              | error q => rw [pThen_err h3] at h1; cases h1
              | ok q =>
                obtain ⟨w, e3⟩ := q
                have o3 := pCell_ok h3 o2.2.2
                rw [pThen_ok h3] at h1
                cases h5 : pNum t n 0 13 e3 with
                | error q => rw [pThen_err h5] at h1; cases h1
                | ok q =>
                  obtain ⟨m, e5⟩ := q
                  have o5 := pNum_ok h5 o3.2.2
                  rw [pThen_ok h5] at h1
                  cases h4 : pSig t n e5 with
                  | error q => rw [pThen_err h4] at h1; cases h1
                  | ok q =>
                    obtain ⟨z, e4⟩ := q
                    have o4 := pSig_ok h4 o5.2.2
                    rw [pThen_ok h4] at h1
                    have h1 := Except.ok.inj h1
                    have hx : perR r (kdT t n (tokE t n a), c, w, m) = x := congrArg (fun q => q.1) h1
                    have he : e4 = e1 := congrArg (fun q => q.2) h1
                    subst he
                    rw [← hx]
                    exact ⟨rOk_per hr h8 ⟨by show 1 ≤ kdT t n (tokE t n a); omega, hkr.2⟩ o2.1 o3.1 o5.1, hg, by omega, by omega⟩
        · cases h1
theorem pPost_ok {t : Nat → Int} {n : Nat} {r : Nat → Int} {e : Nat} (h : pPost t n = .ok (r, e)) : rOk r ∧ e ≤ n := by
  unfold pPost at h
  split at h
  · have her := tokE_rng (t := t) (Nat.zero_le n)
    cases h2 : pNum t n 0 5 (tokE t n 0) with
    | error q => rw [pThen_err h2] at h; cases h
    | ok q =>
      obtain ⟨c, e2⟩ := q
      have o2 := pNum_ok h2 her.2.1
      rw [pThen_ok h2] at h
      cases h3 : pNum t n 0 5 e2 with
      | error q => rw [pThen_err h3] at h; cases h
      | ok q =>
        obtain ⟨w, e3⟩ := q
        have o3 := pNum_ok h3 o2.2.2
        rw [pThen_ok h3] at h
        cases h5 : pNum t n 1 6 e3 with
        | error q => rw [pThen_err h5] at h; cases h
        | ok q =>
          obtain ⟨m, e5⟩ := q
          have o5 := pNum_ok h5 o3.2.2
          rw [pThen_ok h5] at h
          cases h4 : pSig t n e5 with
          | error q => rw [pThen_err h4] at h; cases h
          | ok q =>
            obtain ⟨z, e4⟩ := q
            have o4 := pSig_ok h4 o5.2.2
            rw [pThen_ok h4] at h
            have h := Except.ok.inj h
            have hx : postR c w m = r := congrArg (fun q => q.1) h
            have he : e4 = e := congrArg (fun q => q.2) h
            subst he
            rw [← hx]
            exact ⟨rOk_post o2.1 o3.1 o5.1, o4.2⟩
  · cases h

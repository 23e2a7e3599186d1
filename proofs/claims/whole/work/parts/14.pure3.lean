/-! what is foretold -/
theorem trimA_sub {keeps : Int} : ∀ (m : Nat) (l : Cor), (trimA keeps m l).Sublist l
  | 0, l => List.Sublist.refl l
  | m + 1, l => by
    unfold trimA
    split
    · exact (trimA_sub m (l.eraseIdx (outA l))).trans (List.eraseIdx_sublist l _)
    · exact List.Sublist.refl l
theorem trimA_len {keeps : Int} (hk : 0 ≤ keeps) : ∀ (m : Nat) (l : Cor), l.length ≤ m → ((trimA keeps m l).length : Int) ≤ keeps
  | 0, l, h => by
    unfold trimA
    omega
  | m + 1, l, h => by
    unfold trimA
    split
    · have h0 : 0 < l.length := by omega
      have h1 := List.length_eraseIdx_of_lt (outA_lt h0)
      exact trimA_len hk m _ (by omega)
    · omega
theorem crossA_ok {kind keeps : Int} {cell : Nat} {l : Cor} (h : CorOk l) (hc : cell ≤ 47) : CorOk (crossA kind keeps cell l) := by
  unfold crossA
  have hm := mirA_le hc
  split
  · exact h
  · refine CorOk.sub ?_ (trimA_sub _ _)
    split
    · refine comesA_ok (comesA_ok h (by omega) ?_) (by omega) (by omega)
      split <;> omega
    · refine comesA_ok h (by omega) ?_
      split <;> omega
theorem crossA_len {kind keeps : Int} {cell : Nat} {l : Cor} (hl : (l.length : Int) ≤ keeps) (hk : 0 ≤ keeps ∧ keeps ≤ 6) : ((crossA kind keeps cell l).length : Int) ≤ keeps := by
  unfold crossA
  split
  · exact hl
  · refine trimA_len hk.1 8 _ ?_
    split
    · have h1 := comesA_len (mirA cell : Int) 0 (comesA (cell : Int) (if kind = 4 then 1 else 0) l)
      have h2 := comesA_len (cell : Int) (if kind = 4 then 1 else 0) l
      omega
    · have h2 := comesA_len (cell : Int) (if kind = 4 then 1 else 0) l
      omega
abbrev Bst : Type := Option (Nat × Int × Int)
noncomputable def bestS (p : Nat → Int) (l : Cor) (who k : Nat) (s : Bst) : Bst :=
  if mayI p l who k = 1 then
    (match s with
    | none => some (k, leadA p (crossA (p (5 + who)) (p 2) k l) (p (10 + who)), sumA p (crossA (p (5 + who)) (p 2) k l) (p (10 + who)) 0 48)
    | some (c, ml, mh) => if ml < leadA p (crossA (p (5 + who)) (p 2) k l) (p (10 + who)) ∨ (leadA p (crossA (p (5 + who)) (p 2) k l) (p (10 + who)) = ml ∧ mh < sumA p (crossA (p (5 + who)) (p 2) k l) (p (10 + who)) 0 48) then some (k, leadA p (crossA (p (5 + who)) (p 2) k l) (p (10 + who)), sumA p (crossA (p (5 + who)) (p 2) k l) (p (10 + who)) 0 48) else some (c, ml, mh))
  else s
noncomputable def bestF (p : Nat → Int) (l : Cor) (who : Nat) : Nat → Bst
  | 0 => none
  | k + 1 => bestS p l who k (bestF p l who k)
/-- the numbers in which a best is held: the cell or NONE, its lead, what it has -/
def bestR (s : Bst) (b ld m : Int) : Prop := (s = none ∧ b = -1000000) ∨ (∃ (c : Nat) (ml mh : Int), s = some (c, ml, mh) ∧ b = (c : Int) ∧ ld = ml ∧ m = mh)
theorem bestR_no {p : Nat → Int} {l : Cor} {who k : Nat} {b ld m : Int} (h : bestR (bestF p l who k) b ld m) (hm : mayI p l who k = 0) : bestR (bestF p l who (k + 1)) b ld m := by
  have e : bestF p l who (k + 1) = bestF p l who k := by
    show bestS p l who k (bestF p l who k) = _
    unfold bestS; rw [if_neg (by omega)]
  rw [e]; exact h
theorem bestR_new {p : Nat → Int} {l : Cor} {who k : Nat} {b ld m : Int} (h : bestR (bestF p l who k) b ld m) (hm : mayI p l who k = 1)
    (hc : b = -1000000 ∨ ld < leadA p (crossA (p (5 + who)) (p 2) k l) (p (10 + who)) ∨ (leadA p (crossA (p (5 + who)) (p 2) k l) (p (10 + who)) = ld ∧ m < sumA p (crossA (p (5 + who)) (p 2) k l) (p (10 + who)) 0 48)) :
    bestR (bestF p l who (k + 1)) (k : Int) (leadA p (crossA (p (5 + who)) (p 2) k l) (p (10 + who))) (sumA p (crossA (p (5 + who)) (p 2) k l) (p (10 + who)) 0 48) := by
  have e : bestF p l who (k + 1) = some (k, leadA p (crossA (p (5 + who)) (p 2) k l) (p (10 + who)), sumA p (crossA (p (5 + who)) (p 2) k l) (p (10 + who)) 0 48) := by
    show bestS p l who k (bestF p l who k) = _
    unfold bestS
    rw [if_pos hm]
    rcases h with ⟨h1, -⟩ | ⟨c, ml, mh, h1, rfl, rfl, rfl⟩
    · rw [h1]
    · rw [h1]
      rcases hc with q | q
      · omega
      · simp only
        rw [if_pos q]
  rw [e]
  exact Or.inr ⟨k, _, _, rfl, rfl, rfl, rfl⟩
theorem bestR_old {p : Nat → Int} {l : Cor} {who k : Nat} {b ld m : Int} (h : bestR (bestF p l who k) b ld m)
    (hc : ¬ (b = -1000000 ∨ ld < leadA p (crossA (p (5 + who)) (p 2) k l) (p (10 + who)) ∨ (leadA p (crossA (p (5 + who)) (p 2) k l) (p (10 + who)) = ld ∧ m < sumA p (crossA (p (5 + who)) (p 2) k l) (p (10 + who)) 0 48))) :
    bestR (bestF p l who (k + 1)) b ld m := by
  rcases h with ⟨h1, h2⟩ | ⟨c, ml, mh, h1, rfl, rfl, rfl⟩
  · exact absurd (Or.inl h2) hc
  · have e : bestF p l who (k + 1) = some (c, ld, m) := by
      show bestS p l who k (bestF p l who k) = _
      unfold bestS
      split
      · rw [h1]
        simp only
        rw [if_neg (fun q => hc (Or.inr q))]
      · exact h1
    rw [e]
    exact Or.inr ⟨c, ld, m, rfl, rfl, rfl, rfl⟩
theorem bestR_may {p : Nat → Int} {l : Cor} {who : Nat} : ∀ {k c : Nat} {ml mh : Int}, bestF p l who k = some (c, ml, mh) → c < k ∧ mayI p l who c = 1
  | 0, c, ml, mh, h => by cases h
  | k + 1, c, ml, mh, h => by
    have h : bestS p l who k (bestF p l who k) = some (c, ml, mh) := h
    unfold bestS at h
    split at h
    · rename_i hm
      cases hs : bestF p l who k with
      | none =>
        rw [hs] at h
        cases h
        exact ⟨by omega, hm⟩
      | some q =>
        obtain ⟨c', ml', mh'⟩ := q
        rw [hs] at h
        simp only at h
        split at h
        · cases h
          exact ⟨by omega, hm⟩
        · cases h
          have := bestR_may hs
          exact ⟨by omega, this.2⟩
    · have := bestR_may h
      exact ⟨by omega, this.2⟩
theorem bestR_in {p : Nat → Int} {l : Cor} {who : Nat} {b ld m : Int} (h : bestR (bestF p l who 48) b ld m) : b = -1000000 ∨ (∃ c : Nat, c < 48 ∧ b = (c : Int) ∧ mayI p l who c = 1 ∧ bestF p l who 48 = some (c, ld, m)) := by
  rcases h with ⟨-, h⟩ | ⟨c, ml, mh, h, rfl, rfl, rfl⟩
  · exact Or.inl h
  · have := bestR_may h
    exact Or.inr ⟨c, this.1, rfl, this.2, h⟩
theorem cpI_PR {f g p : Nat → Int} {l : Cor} {i : Nat} (h : PR (fun k => f (i + k)) p l) (hl : l.length ≤ 8) : PR (cpI f g i 0 138) p l := by
  have e : ∀ k, k < 138 → cpI f g i 0 138 k = f (i + k) := fun k hk => by
    rw [cpI_in (by omega), Nat.sub_zero]
  refine ⟨fun k hk => by rw [e k (by omega)]; exact h.1 k hk, by rw [e 121 (by omega)]; exact h.2.1, fun k hk => ?_⟩
  rw [e (122 + k) (by omega), e (130 + k) (by omega)]
  exact h.2.2 k hk
theorem PR_0 {f p : Nat → Int} {l : Cor} (h : PR f p l) : PR (fun k => f (0 + k)) p l := by
  have e : (fun k => f (0 + k)) = f := by funext k; rw [Nat.zero_add]
  rw [e]; exact h
/-- what is told of a best: the cell, or its lead -/
def bestW (s : Bst) (what : Int) : Int := match s with
  | none => -1000000
  | some (c, ml, _) => if what = 0 then (c : Int) else ml
theorem bestW_of {s : Bst} {b ld m what r : Int} (h : bestR s b ld m) (hr : (b = -1000000 ∧ r = b) ∨ (what = 0 ∧ r = b) ∨ (b ≠ -1000000 ∧ what ≠ 0 ∧ r = ld)) : r = bestW s what := by
  rcases h with ⟨rfl, h2⟩ | ⟨c, ml, mh, rfl, rfl, rfl, rfl⟩
  · show r = -1000000
    omega
  · show r = if what = 0 then (c : Int) else ld
    split <;> omega
/-- to how many cells one may cross -/
noncomputable def waysA (p : Nat → Int) (l : Cor) (who : Nat) : Nat → Int
  | 0 => 0
  | k + 1 => waysA p l who k + mayI p l who k
theorem PR_congr {a b p : Nat → Int} {l : Cor} (e : ∀ k, k < 138 → a k = b k) (h8 : l.length ≤ 8) (h : PR b p l) : PR a p l := by
  refine ⟨fun k hk => by rw [e k (by omega)]; exact h.1 k hk, by rw [e 121 (by omega)]; exact h.2.1, fun k hk => ?_⟩
  rw [e (122 + k) (by omega), e (130 + k) (by omega)]
  exact h.2.2 k hk
/-- the acts that can be undone, the oldest first -/
def AR (bf p : Nat → Int) (as : List Cor) : Prop := as.length ≤ 24 ∧ ∀ (j : Nat) (h : j < as.length), PR (fun k => bf (138 * j + k)) p as[j]
def AsOk (p : Nat → Int) (as : List Cor) : Prop := ∀ l ∈ as, CorOk l ∧ (l.length : Int) ≤ p 2
def pushA (as : List Cor) (l : Cor) : List Cor := (if as.length = 24 then as.tail else as) ++ [l]
theorem pushA_len (as : List Cor) (l : Cor) (h : as.length ≤ 24) : (pushA as l).length ≤ 24 := by
  unfold pushA; split <;> simp <;> omega
theorem AR_ext {bf bg p : Nat → Int} {as : List Cor} (h : AR bf p as) (hl : ∀ l ∈ as, l.length ≤ 8) (he : ∀ q, q < 138 * as.length → bg q = bf q) : AR bg p as := by
  refine ⟨h.1, fun j hj => ?_⟩
  have h0 := h.2 j hj
  have h8 := hl _ (List.getElem_mem hj)
  exact PR_congr (fun k hk => he (138 * j + k) (by omega)) h8 h0
theorem AR_push {bf a p : Nat → Int} {as : List Cor} {l : Cor} (h : AR bf p as) (hl : ∀ m ∈ as, m.length ≤ 8) (hn : as.length ≤ 23) (ha : PR a p l) (h8 : l.length ≤ 8) : AR (cpI a bf 0 (138 * as.length) 138) p (as ++ [l]) := by
  refine ⟨by simp; omega, fun j hj => ?_⟩
  have hj2 : j < as.length + 1 := by simpa using hj
  by_cases hjl : j < as.length
  · rw [List.getElem_append_left hjl]
    have h0 := (AR_ext (bg := cpI a bf 0 (138 * as.length) 138) h hl (fun q hq => cpI_out (by omega))).2 j hjl
    exact h0
  · have hje : j = as.length := by omega
    subst hje
    simp only [List.getElem_append_right (Nat.le_refl _), Nat.sub_self, List.getElem_cons_zero]
    have e : ∀ k, k < 138 → cpI a bf 0 (138 * as.length) 138 (138 * as.length + k) = a k := fun k hk => by
      rw [cpI_in (by omega)]
      congr 1; omega
    exact PR_congr e h8 ha
/-- moved down by one act, as far as k -/
def dnA (bf : Nat → Int) (k : Nat) : Nat → Int := fun q => if q < k then bf (q + 138) else bf q
theorem dnA_0 (bf : Nat → Int) : dnA bf 0 = bf := by
  funext q; unfold dnA; rw [if_neg (by omega)]
theorem dnA_s (bf : Nat → Int) (k : Nat) : va_up (dnA bf k) k (dnA bf k (k + 138)) = dnA bf (k + 1) := by
  funext q
  by_cases h : q = k
  · subst h; rw [va_up_self]; unfold dnA; rw [if_neg (by omega), if_pos (by omega)]
  · rw [va_up_ne _ _ h]
    unfold dnA
    by_cases h2 : q < k
    · rw [if_pos h2, if_pos (by omega)]
    · rw [if_neg h2, if_neg (by omega)]
theorem AR_down {bf p : Nat → Int} {as : List Cor} (h : AR bf p as) (hl : ∀ m ∈ as, m.length ≤ 8) (h24 : as.length = 24) : AR (dnA bf 3174) p as.tail := by
  refine ⟨by simp; omega, fun j hj => ?_⟩
  have hj2 : j + 1 < as.length := by simp at hj; omega
  rw [List.getElem_tail]
  have h0 := h.2 (j + 1) hj2
  have h8 := hl _ (List.getElem_mem hj2)
  have e : ∀ k, k < 138 → dnA bf 3174 (138 * j + k) = bf (138 * (j + 1) + k) := fun k hk => by
    unfold dnA; rw [if_pos (by omega)]; congr 1; omega
  exact PR_congr e h8 h0
theorem AsOk.len {p : Nat → Int} {as : List Cor} (h : AsOk p as) (hp : POk p) : ∀ l ∈ as, l.length ≤ 8 := fun l hl => by
  have := (h l hl).2
  have := hp.2.2.1
  omega

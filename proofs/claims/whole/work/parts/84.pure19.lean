/-! the class as it is new -/
def rq (k j : Nat) : Option Nat := if j < k then some (15 + 2 * j) else none
def aq (k j : Nat) : Option Nat := if j < k then some (31 + 5 * j) else none
def iq (k j : Nat) : Option Nat := if j < k then some (151 + 5 * j) else none
theorem rq_0 : rq 0 = fun _ => none := funext fun j => if_neg (Nat.not_lt_zero j)
theorem aq_0 : aq 0 = fun _ => none := funext fun j => if_neg (Nat.not_lt_zero j)
theorem iq_0 : iq 0 = fun _ => none := funext fun j => if_neg (Nat.not_lt_zero j)
theorem rq_s {k c : Nat} (hc : c = 15 + 2 * k) : va_up (rq k) k (some c) = rq (k + 1) := by
  funext j
  by_cases h : j = k
  · subst h; rw [va_up_self]; unfold rq; rw [if_pos (by omega), hc]
  · rw [va_up_ne _ _ h]; unfold rq; split <;> split <;> first | rfl | omega
theorem aq_s {k c : Nat} (hc : c = 31 + 5 * k) : va_up (aq k) k (some c) = aq (k + 1) := by
  funext j
  by_cases h : j = k
  · subst h; rw [va_up_self]; unfold aq; rw [if_pos (by omega), hc]
  · rw [va_up_ne _ _ h]; unfold aq; split <;> split <;> first | rfl | omega
theorem iq_s {k c : Nat} (hc : c = 151 + 5 * k) : va_up (iq k) k (some c) = iq (k + 1) := by
  funext j
  by_cases h : j = k
  · subst h; rw [va_up_self]; unfold iq; rw [if_pos (by omega), hc]
  · rw [va_up_ne _ _ h]; unfold iq; split <;> split <;> first | rfl | omega
theorem rq_8 : rq 8 = rowQ := rfl
theorem aq_24 : aq 24 = actQ := rfl
theorem iq_2 : iq 2 = imgQ := rfl
abbrev oR (B c : Nat) : va_E := .inr (6, [.ref (B + (c + 1)), .int (zI (-1)), .int (zI 0)])
abbrev oX0 (B : Nat) : va_E := .inr (10, [.ref (B + 1), .ref (B + 2), .ref (B + 5), .ref (B + 7), .ref (B + 12), .ref (B + 13), .ref (B + 14), .null, .int (zI 0), .int (zI 0), .int (zI 0), .int (zI 0)])
def LZ (E : XE) (B N : Nat) (v : Nat → va_E) (c : Nat) : Prop := Cel N v c (oLine B c 0) ∧ Cel N v (c + 1) (iarr E 8 (fun _ => 0)) ∧ Cel N v (c + 2) (barr E 8 (fun _ => 0)) ∧ Cel N v (c + 3) (iarr E 8 (fun _ => 0)) ∧ Cel N v (c + 4) (iarr E 8 (fun _ => 0))
theorem LZ_fr {E : XE} {B N M c : Nat} {v w : Nat → va_E} (h : LZ E B N v c) (hM : N ≤ M) (hw : ∀ k, c ≤ k → k < c + 5 → k < N → w k = v k) : LZ E B M w c := by
  obtain ⟨a0, a1, a2, a3, a4⟩ := h
  exact ⟨cel_fr a0 hM (hw _ (by omega) (by omega) a0.1), cel_fr a1 hM (hw _ (by omega) (by omega) a1.1), cel_fr a2 hM (hw _ (by omega) (by omega) a2.1), cel_fr a3 hM (hw _ (by omega) (by omega) a3.1), cel_fr a4 hM (hw _ (by omega) (by omega) a4.1)⟩
def XI (E : XE) (B N : Nat) (v : Nat → va_E) (k1 k2 k3 : Nat) : Prop :=
  N = 15 + 2 * k1 + 5 * k2 + 5 * k3 ∧ Cel N v 0 (oX0 B) ∧ Cel N v 1 (rarr E 2 8 B (rq k1)) ∧ Cel N v 2 (oT B 0 0 0 0 0 0 0) ∧ Cel N v 3 (iarr E 400 (fun _ => 0)) ∧ Cel N v 4 (iarr E 4 (fun _ => 0)) ∧ Cel N v 5 (.inr (8, [.ref (B + 6), .int (zI 0)])) ∧ Cel N v 6 (iarr E 16 (fun _ => 0)) ∧ LZ E B N v 7 ∧ Cel N v 12 (rarr E 3 24 B (aq k2)) ∧ Cel N v 13 (rarr E 3 2 B (iq k3)) ∧ Cel N v 14 (rarr E 4 2 B (fun _ => none)) ∧ (∀ i, i < k1 → Cel N v (15 + 2 * i) (oR B (15 + 2 * i)) ∧ Cel N v (16 + 2 * i) (iarr E 40 (fun _ => 0))) ∧ (∀ j, j < k2 → LZ E B N v (31 + 5 * j)) ∧ (∀ j, j < k3 → LZ E B N v (151 + 5 * j))
theorem XI_row {E : XE} {B N : Nat} {v : Nat → va_E} {k : Nat} (h : XI E B N v k 0 0) (hk : k < 8) : XI E B (N + 2) (va_up (va_up (va_up v N (oR B N)) (N + 1) (iarr E 40 (fun _ => 0))) 1 (rarr E 2 8 B (va_up (rq k) k (some N)))) (k + 1) 0 0 := by
  obtain ⟨eN, x0, x1, x2, x3, x4, x5, x6, x7, x12, x13, x14, xr, xa, xm⟩ := h
  have fr : ∀ q, q < N → q ≠ 1 → (va_up (va_up (va_up v N (oR B N)) (N + 1) (iarr E 40 (fun _ => 0))) 1 (rarr E 2 8 B (va_up (rq k) k (some N)))) q = v q := fun q h1 h2 => by
    rw [va_up_ne _ _ h2, va_up_ne _ _ (by omega), va_up_ne _ _ (by omega)]
  have K : ∀ c e, Cel N v c e → c ≠ 1 → Cel (N + 2) (va_up (va_up (va_up v N (oR B N)) (N + 1) (iarr E 40 (fun _ => 0))) 1 (rarr E 2 8 B (va_up (rq k) k (some N)))) c e := fun c e hc h1 => cel_fr hc (by omega) (fr c hc.1 h1)
  refine ⟨by omega, K _ _ x0 (by omega), ?_, K _ _ x2 (by omega), K _ _ x3 (by omega), K _ _ x4 (by omega), K _ _ x5 (by omega), K _ _ x6 (by omega), LZ_fr x7 (by omega) (fun q h1 h2 h3 => fr q h3 (by omega)), K _ _ x12 (by omega), K _ _ x13 (by omega), K _ _ x14 (by omega), fun i hi => ?_, fun j hj => absurd hj (Nat.not_lt_zero _), fun j hj => absurd hj (Nat.not_lt_zero _)⟩
  · rw [rq_s (show N = 15 + 2 * k by omega)]
    exact cel_self (by omega)
  · by_cases hq : i = k
    · subst hq
      rw [show 15 + 2 * i = N by omega, show 16 + 2 * i = N + 1 by omega]
      exact ⟨cel_ne (cel_ne (cel_self (by omega)) (by omega)) (by omega), cel_ne (cel_self (by omega)) (by omega)⟩
    · have := xr i (by omega)
      exact ⟨K _ _ this.1 (by omega), K _ _ this.2 (by omega)⟩
theorem XI_act {E : XE} {B N : Nat} {v : Nat → va_E} {k : Nat} (h : XI E B N v 8 k 0) (hk : k < 24) : XI E B (N + 5) (va_up (va_up (va_up (va_up (va_up (va_up v N (oLine B N 0)) (N + 1) (iarr E 8 (fun _ => 0))) (N + 2) (barr E 8 (fun _ => 0))) (N + 3) (iarr E 8 (fun _ => 0))) (N + 4) (iarr E 8 (fun _ => 0))) 12 (rarr E 3 24 B (va_up (aq k) k (some N)))) 8 (k + 1) 0 := by
  obtain ⟨eN, x0, x1, x2, x3, x4, x5, x6, x7, x12, x13, x14, xr, xa, xm⟩ := h
  generalize hw : (va_up (va_up (va_up (va_up (va_up v N (oLine B N 0)) (N + 1) (iarr E 8 (fun _ => 0))) (N + 2) (barr E 8 (fun _ => 0))) (N + 3) (iarr E 8 (fun _ => 0))) (N + 4) (iarr E 8 (fun _ => 0))) = w
  have fr : ∀ q, q < N → q ≠ 12 → va_up w 12 (rarr E 3 24 B (va_up (aq k) k (some N))) q = v q := fun q h1 h2 => by
    rw [va_up_ne _ _ h2, ← hw, va_up_ne _ _ (by omega), va_up_ne _ _ (by omega), va_up_ne _ _ (by omega), va_up_ne _ _ (by omega), va_up_ne _ _ (by omega)]
  have K : ∀ c e, Cel N v c e → c ≠ 12 → Cel (N + 5) (va_up w 12 (rarr E 3 24 B (va_up (aq k) k (some N)))) c e := fun c e hc h1 => cel_fr hc (by omega) (fr c hc.1 h1)
  refine ⟨by omega, K _ _ x0 (by omega), K _ _ x1 (by omega), K _ _ x2 (by omega), K _ _ x3 (by omega), K _ _ x4 (by omega), K _ _ x5 (by omega), K _ _ x6 (by omega), LZ_fr x7 (by omega) (fun q h1 h2 h3 => fr q h3 (by omega)), ?_, K _ _ x13 (by omega), K _ _ x14 (by omega), fun i hi => ⟨K _ _ (xr i hi).1 (by omega), K _ _ (xr i hi).2 (by omega)⟩, fun j hj => ?_, fun j hj => absurd hj (Nat.not_lt_zero _)⟩
  · rw [aq_s (show N = 31 + 5 * k by omega)]
    exact cel_self (by omega)
  · by_cases hq : j = k
    · subst hq
      rw [show 31 + 5 * j = N by omega, ← hw]
      exact ⟨cel_ne (cel_ne (cel_ne (cel_ne (cel_ne (cel_self (by omega)) (by omega)) (by omega)) (by omega)) (by omega)) (by omega), cel_ne (cel_ne (cel_ne (cel_ne (cel_self (by omega)) (by omega)) (by omega)) (by omega)) (by omega), cel_ne (cel_ne (cel_ne (cel_self (by omega)) (by omega)) (by omega)) (by omega), cel_ne (cel_ne (cel_self (by omega)) (by omega)) (by omega), cel_ne (cel_self (by omega)) (by omega)⟩
    · exact LZ_fr (xa j (by omega)) (by omega) (fun q h1 h2 h3 => fr q h3 (by omega))
theorem XI_img {E : XE} {B N : Nat} {v : Nat → va_E} {k : Nat} (h : XI E B N v 8 24 k) (hk : k < 2) : XI E B (N + 5) (va_up (va_up (va_up (va_up (va_up (va_up v N (oLine B N 0)) (N + 1) (iarr E 8 (fun _ => 0))) (N + 2) (barr E 8 (fun _ => 0))) (N + 3) (iarr E 8 (fun _ => 0))) (N + 4) (iarr E 8 (fun _ => 0))) 13 (rarr E 3 2 B (va_up (iq k) k (some N)))) 8 24 (k + 1) := by
  obtain ⟨eN, x0, x1, x2, x3, x4, x5, x6, x7, x12, x13, x14, xr, xa, xm⟩ := h
  generalize hw : (va_up (va_up (va_up (va_up (va_up v N (oLine B N 0)) (N + 1) (iarr E 8 (fun _ => 0))) (N + 2) (barr E 8 (fun _ => 0))) (N + 3) (iarr E 8 (fun _ => 0))) (N + 4) (iarr E 8 (fun _ => 0))) = w
  have fr : ∀ q, q < N → q ≠ 13 → va_up w 13 (rarr E 3 2 B (va_up (iq k) k (some N))) q = v q := fun q h1 h2 => by
    rw [va_up_ne _ _ h2, ← hw, va_up_ne _ _ (by omega), va_up_ne _ _ (by omega), va_up_ne _ _ (by omega), va_up_ne _ _ (by omega), va_up_ne _ _ (by omega)]
  have K : ∀ c e, Cel N v c e → c ≠ 13 → Cel (N + 5) (va_up w 13 (rarr E 3 2 B (va_up (iq k) k (some N)))) c e := fun c e hc h1 => cel_fr hc (by omega) (fr c hc.1 h1)
  refine ⟨by omega, K _ _ x0 (by omega), K _ _ x1 (by omega), K _ _ x2 (by omega), K _ _ x3 (by omega), K _ _ x4 (by omega), K _ _ x5 (by omega), K _ _ x6 (by omega), LZ_fr x7 (by omega) (fun q h1 h2 h3 => fr q h3 (by omega)), K _ _ x12 (by omega), ?_, K _ _ x14 (by omega), fun i hi => ⟨K _ _ (xr i hi).1 (by omega), K _ _ (xr i hi).2 (by omega)⟩, fun j hj => LZ_fr (xa j hj) (by omega) (fun q h1 h2 h3 => fr q h3 (by omega)), fun j hj => ?_⟩
  · rw [iq_s (show N = 151 + 5 * k by omega)]
    exact cel_self (by omega)
  · by_cases hq : j = k
    · subst hq
      rw [show 151 + 5 * j = N by omega, ← hw]
      exact ⟨cel_ne (cel_ne (cel_ne (cel_ne (cel_ne (cel_self (by omega)) (by omega)) (by omega)) (by omega)) (by omega)) (by omega), cel_ne (cel_ne (cel_ne (cel_ne (cel_self (by omega)) (by omega)) (by omega)) (by omega)) (by omega), cel_ne (cel_ne (cel_ne (cel_self (by omega)) (by omega)) (by omega)) (by omega), cel_ne (cel_ne (cel_self (by omega)) (by omega)) (by omega), cel_ne (cel_self (by omega)) (by omega)⟩
    · exact LZ_fr (xm j (by omega)) (by omega) (fun q h1 h2 h3 => fr q h3 (by omega))

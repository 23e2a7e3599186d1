/-! a ground at its places -/
abbrev goX (B c : Nat) (w e k : Int) (p : Nat → Int) : va_E := .inr (3, [.int (zI w), .int (zI e), .int (zI k), .ref (B + (c + 1)), .ref (B + (c + 2)), .int (zI (p 3)), .ref (B + (c + 3)), .int (zI (p 4)), .ref (B + (c + 4)), .ref (B + (c + 13)), .ref (B + (c + 18))])
abbrev goE (B c : Nat) (p : Nat → Int) : va_E := goX B c (p 0) (p 1) (p 2) p
def LNA (E : XE) (B N : Nat) (v : Nat → va_E) (c : Nat) : Prop := ∃ (n : Nat) (g h s t : Nat → Int), Cel N v c (oLine B c n) ∧ Cel N v (c + 1) (iarr E 8 g) ∧ Cel N v (c + 2) (barr E 8 h) ∧ Cel N v (c + 3) (iarr E 8 s) ∧ Cel N v (c + 4) (iarr E 8 t)
def GSx (E : XE) (B N : Nat) (v : Nat → va_E) (c : Nat) (w e k : Int) (p : Nat → Int) : Prop :=
  Cel N v c (goX B c w e k p) ∧ Cel N v (c + 1) (iarr E 48 (wA p)) ∧ Cel N v (c + 2) (barr E 48 (gA p)) ∧ Cel N v (c + 3) (rarr E 5 5 B (psA c p)) ∧ Cel N v (c + 4) (rarr E 6 8 B (ouA c)) ∧ (∀ x : Nat, x < 8 → Cel N v (c + 5 + x) (iarr E 7 (wbS p x))) ∧ (∀ x : Nat, (x : Int) < p 4 → Cel N v (c + 23 + x) (perE p x)) ∧ LNA E B N v (c + 13) ∧ LNA E B N v (c + 18)
def GS (E : XE) (B N : Nat) (v : Nat → va_E) (c : Nat) (p : Nat → Int) : Prop := GSx E B N v c (p 0) (p 1) (p 2) p
theorem LNA_fr {E : XE} {B N M c : Nat} {v w : Nat → va_E} (h : LNA E B N v c) (hM : N ≤ M) (hw : ∀ k, c ≤ k → k < c + 5 → w k = v k) : LNA E B M w c := by
  obtain ⟨n, g, h', s, t, a0, a1, a2, a3, a4⟩ := h
  exact ⟨n, g, h', s, t, cel_fr a0 hM (hw _ (by omega) (by omega)), cel_fr a1 hM (hw _ (by omega) (by omega)), cel_fr a2 hM (hw _ (by omega) (by omega)), cel_fr a3 hM (hw _ (by omega) (by omega)), cel_fr a4 hM (hw _ (by omega) (by omega))⟩
theorem GSx_fr {E : XE} {B N M c : Nat} {v w : Nat → va_E} {w0 e0 k0 : Int} {p : Nat → Int} (h : GSx E B N v c w0 e0 k0 p) (h4 : p 4 ≤ 5) (hM : N ≤ M) (hw : ∀ k, c ≤ k → k < c + 28 → k < N → w k = v k) : GSx E B M w c w0 e0 k0 p := by
  obtain ⟨a0, a1, a2, a3, a4, a5, a6, a7, a8⟩ := h
  have b7 : c + 18 ≤ N := by
    obtain ⟨_, _, _, _, _, _, _, _, _, q⟩ := a7
    have := q.1; omega
  have b8 : c + 23 ≤ N := by
    obtain ⟨_, _, _, _, _, _, _, _, _, q⟩ := a8
    have := q.1; omega
  exact ⟨cel_fr a0 hM (hw _ (by omega) (by omega) (by omega)), cel_fr a1 hM (hw _ (by omega) (by omega) (by omega)), cel_fr a2 hM (hw _ (by omega) (by omega) (by omega)), cel_fr a3 hM (hw _ (by omega) (by omega) (by omega)), cel_fr a4 hM (hw _ (by omega) (by omega) (by omega)),
    fun x hx => cel_fr (a5 x hx) hM (hw _ (by omega) (by omega) (by omega)), fun x hx => cel_fr (a6 x hx) hM (hw _ (by omega) (by omega) (a6 x hx).1), LNA_fr a7 hM (fun k h1 h2 => hw k (by omega) (by omega) (by omega)), LNA_fr a8 hM (fun k h1 h2 => hw k (by omega) (by omega) (by omega))⟩
theorem GS_fr {E : XE} {B N M c : Nat} {v w : Nat → va_E} {p : Nat → Int} (h : GS E B N v c p) (h4 : p 4 ≤ 5) (hM : N ≤ M) (hw : ∀ k, c ≤ k → k < c + 28 → k < N → w k = v k) : GS E B M w c p := GSx_fr h h4 hM hw
theorem GS_vil {E : XE} {B N c : Nat} {v : Nat → va_E} {r : Nat → Int} {x y o : Nat} {w : Int} (h : GS E B N v c r) (h4 : r 4 ≤ 5) (ho : o = c + 5 + x) (hx : x < 8) (hy : y < 6) : GS E B N (va_up (va_up (va_up v c (goE B c (vilR r ((8 * y + x : Nat) : Int) w))) (c + 1) (iarr E 48 (wA (vilR r ((8 * y + x : Nat) : Int) w)))) o (iarr E 7 (wbS (vilR r ((8 * y + x : Nat) : Int) w) x))) c (vilR r ((8 * y + x : Nat) : Int) w) := by
  subst ho
  obtain ⟨a0, a1, a2, a3, a4, a5, a6, a7, a8⟩ := h
  have e : ∀ j, j ≠ 3 → j < 73 → vilR r ((8 * y + x : Nat) : Int) w j = r j := fun j h1 h2 => by unfold vilR; rw [va_up_ne _ _ h1, va_up_ne _ _ (by omega)]
  have hps : psA c (vilR r ((8 * y + x : Nat) : Int) w) = psA c r := by
    funext i; unfold psA; rw [e 4 (by omega) (by omega)]
  refine ⟨cel_ne (cel_ne (cel_self a0.1) (by omega)) (by omega), cel_ne (cel_self a1.1) (by omega), ?_, ?_, cel_ne (cel_ne (cel_ne a4 (by omega)) (by omega)) (by omega), fun x2 hx2 => ?_, fun i hi => ?_, LNA_fr a7 (Nat.le_refl _) (fun k h1 h2 => by rw [va_up_ne _ _ (by omega), va_up_ne _ _ (by omega), va_up_ne _ _ (by omega)]), LNA_fr a8 (Nat.le_refl _) (fun k h1 h2 => by rw [va_up_ne _ _ (by omega), va_up_ne _ _ (by omega), va_up_ne _ _ (by omega)])⟩
  · rw [vil_gua (by omega)]
    exact cel_ne (cel_ne (cel_ne a2 (by omega)) (by omega)) (by omega)
  · rw [hps]
    exact cel_ne (cel_ne (cel_ne a3 (by omega)) (by omega)) (by omega)
  · by_cases hq : x2 = x
    · subst hq
      exact cel_self (a5 x2 hx2).1
    · have e2 : wbS (vilR r ((8 * y + x : Nat) : Int) w) x2 = wbS r x2 := funext fun k => wbS_other hx hx2 hq k
      rw [e2]
      exact cel_ne (cel_ne (cel_ne (a5 x2 hx2) (by omega)) (by omega)) (by omega)
  · rw [e 4 (by omega) (by omega)] at hi
    have e3 : perE (vilR r ((8 * y + x : Nat) : Int) w) i = perE r i := by
      unfold perE
      rw [e (5 + i) (by omega) (by omega), e (10 + i) (by omega) (by omega), e (15 + i) (by omega) (by omega), e (20 + i) (by omega) (by omega)]
    rw [e3]
    exact cel_ne (cel_ne (cel_ne (a6 i hi) (by omega)) (by omega)) (by omega)
theorem GS_gua {E : XE} {B N c : Nat} {v : Nat → va_E} {r : Nat → Int} {cl : Int} (h : GS E B N v c r) (h4 : r 4 ≤ 5) (hc : 0 ≤ cl ∧ cl ≤ 47) : GS E B N (va_up v (c + 2) (barr E 48 (gA (guaR r cl)))) c (guaR r cl) := by
  obtain ⟨a0, a1, a2, a3, a4, a5, a6, a7, a8⟩ := h
  have e : ∀ j, j < 25 → guaR r cl j = r j := fun j h1 => by unfold guaR; rw [va_up_ne _ _ (by omega)]
  have hps : psA c (guaR r cl) = psA c r := by
    funext i; unfold psA; rw [e 4 (by omega)]
  have hgo : goX B c (guaR r cl 0) (guaR r cl 1) (guaR r cl 2) (guaR r cl) = goX B c (r 0) (r 1) (r 2) r := by
    unfold goX; rw [e 0 (by omega), e 1 (by omega), e 2 (by omega), e 3 (by omega), e 4 (by omega)]
  refine ⟨by rw [hgo]; exact cel_ne a0 (by omega), by rw [gua_wor hc]; exact cel_ne a1 (by omega), cel_self a2.1, by rw [hps]; exact cel_ne a3 (by omega), cel_ne a4 (by omega), fun x hx => ?_, fun i hi => ?_, LNA_fr a7 (Nat.le_refl _) (fun k h1 h2 => by rw [va_up_ne _ _ (by omega)]), LNA_fr a8 (Nat.le_refl _) (fun k h1 h2 => by rw [va_up_ne _ _ (by omega)])⟩
  · have e2 : wbS (guaR r cl) x = wbS r x := funext fun k => gua_wbS hc k
    rw [e2]
    exact cel_ne (a5 x hx) (by omega)
  · rw [e 4 (by omega)] at hi
    have e3 : perE (guaR r cl) i = perE r i := by
      unfold perE
      rw [e (5 + i) (by omega), e (10 + i) (by omega), e (15 + i) (by omega), e (20 + i) (by omega)]
    rw [e3]
    exact cel_ne (a6 i hi) (by omega)
theorem GS_per {E : XE} {B N c : Nat} {v : Nat → va_E} {r : Nat → Int} {q : Per4} (h : GS E B N v c r) (h4 : 0 ≤ r 4 ∧ r 4 < 5) (hN : N = c + 23 + (r 4).toNat) : GS E B (N + 1) (va_up (va_up (va_up v c (goE B c (perR r q))) (c + 3) (rarr E 5 5 B (psA c (perR r q)))) N (.inr (kci q.1, [.int (zI (((r 4).toNat : Nat) : Int)), .int (zI q.2.1), .int (zI q.2.2.1), .int (zI q.2.2.2)]))) c (perR r q) := by
  obtain ⟨a0, a1, a2, a3, a4, a5, a6, a7, a8⟩ := h
  have e4 := (perR_at (q := q) h4 (show 0 < 5 by omega)).2.2.2.2
  have hw := per_wor (q := q) h4
  have c0 := a0.1
  have c1 := a1.1
  have c2 := a2.1
  have c3 := a3.1
  have c4 := a4.1
  refine ⟨cel_ne (cel_ne (cel_self (by omega)) (by omega)) (by omega), ?_, ?_, cel_ne (cel_self (by omega)) (by omega), cel_gr (cel_ne (cel_ne (cel_ne a4 (by omega)) (by omega)) (by omega)) (by omega), fun x hx => ?_, fun i hi => ?_, LNA_fr a7 (by omega) (fun k h1 h2 => by rw [va_up_ne _ _ (by omega), va_up_ne _ _ (by omega), va_up_ne _ _ (by omega)]), LNA_fr a8 (by omega) (fun k h1 h2 => by rw [va_up_ne _ _ (by omega), va_up_ne _ _ (by omega), va_up_ne _ _ (by omega)])⟩
  · rw [hw.1]
    exact cel_gr (cel_ne (cel_ne (cel_ne a1 (by omega)) (by omega)) (by omega)) (by omega)
  · rw [hw.2]
    exact cel_gr (cel_ne (cel_ne (cel_ne a2 (by omega)) (by omega)) (by omega)) (by omega)
  · have e2 : wbS (perR r q) x = wbS r x := funext fun k => per_wbS h4 k
    rw [e2]
    exact cel_gr (cel_ne (cel_ne (cel_ne (a5 x hx) (by omega)) (by omega)) (by omega)) (by omega)
  · rw [e4] at hi
    have hp := perR_at (q := q) h4 (show i < 5 by omega)
    by_cases hq : i = (r 4).toNat
    · have e3 : perE (perR r q) i = .inr (kci q.1, [.int (zI (((r 4).toNat : Nat) : Int)), .int (zI q.2.1), .int (zI q.2.2.1), .int (zI q.2.2.2)]) := by
        unfold perE
        rw [hp.1, hp.2.1, hp.2.2.1, hp.2.2.2.1, if_pos hq, if_pos hq, if_pos hq, if_pos hq, hq]
      rw [e3, show c + 23 + i = N by omega]
      exact cel_self (by omega)
    · have e3 : perE (perR r q) i = perE r i := by
        unfold perE
        rw [hp.1, hp.2.1, hp.2.2.1, hp.2.2.2.1, if_neg hq, if_neg hq, if_neg hq, if_neg hq]
      rw [e3]
      have hlt : i < (r 4).toNat := by omega
      exact cel_gr (cel_ne (cel_ne (cel_ne (a6 i (by omega)) (by omega)) (by omega)) (by omega)) (by omega)
/-- behind the posts -/
theorem GS_post {E : XE} {B N c : Nat} {v : Nat → va_E} {w0 e0 k0 w e k : Int} (h : GSx E B N v c w0 e0 k0 (fun _ => 0)) : GS E B N (va_up v c (goX B c w e k (fun _ => 0))) c (postR w e k) := by
  obtain ⟨a0, a1, a2, a3, a4, a5, a6, a7, a8⟩ := h
  have z : ∀ j, 3 ≤ j → postR w e k j = 0 := fun j hj => by
    unfold postR; rw [va_up_ne _ _ (by omega), va_up_ne _ _ (by omega), va_up_ne _ _ (by omega)]
  have h0 : postR w e k 0 = w := by unfold postR; rw [va_up_ne _ _ (by omega), va_up_ne _ _ (by omega), va_up_self]
  have h1 : postR w e k 1 = e := by unfold postR; rw [va_up_ne _ _ (by omega), va_up_self]
  have h2 : postR w e k 2 = k := by unfold postR; rw [va_up_self]
  have hgo : goX B c (postR w e k 0) (postR w e k 1) (postR w e k 2) (postR w e k) = goX B c w e k (fun _ => 0) := by
    unfold goX; rw [h0, h1, h2, z 3 (by omega), z 4 (by omega)]
  have hwa : wA (postR w e k) = wA (fun _ => 0) := by
    funext i; unfold wA; split
    · exact z _ (by omega)
    · rfl
  have hga : gA (postR w e k) = gA (fun _ => 0) := by
    funext i; unfold gA; split
    · exact z _ (by omega)
    · rfl
  have hps : psA c (postR w e k) = psA c (fun _ => 0) := by
    funext i; unfold psA; rw [z 4 (by omega)]
  have hwb : ∀ x, wbS (postR w e k) x = wbS (fun _ => 0) x := fun x => by
    funext i
    induction i with
    | zero => rfl
    | succ i ih =>
      show wbS (postR w e k) x i + postR w e k (73 + (8 * i + x)) = wbS (fun _ => 0) x i + 0
      rw [ih, z _ (by omega)]
  refine ⟨by rw [hgo]; exact cel_self a0.1, by rw [hwa]; exact cel_ne a1 (by omega), by rw [hga]; exact cel_ne a2 (by omega), by rw [hps]; exact cel_ne a3 (by omega), cel_ne a4 (by omega), fun x hx => by rw [hwb]; exact cel_ne (a5 x hx) (by omega), fun i hi => ?_, LNA_fr a7 (Nat.le_refl _) (fun k h1 h2 => by rw [va_up_ne _ _ (by omega)]), LNA_fr a8 (Nat.le_refl _) (fun k h1 h2 => by rw [va_up_ne _ _ (by omega)])⟩
  rw [z 4 (by omega)] at hi
  omega
theorem wbS_0 (x : Nat) : wbS (fun _ => 0) x = fun _ => 0 := by
  funext i
  induction i with
  | zero => rfl
  | succ i ih =>
    show wbS (fun _ => 0) x i + 0 = 0
    rw [ih]; rfl
theorem arr_0 (c : Nat) : wA (fun _ => 0) = (fun _ => 0) ∧ gA (fun _ => 0) = (fun _ => 0) ∧ psA c (fun _ => 0) = fun _ => none := by
  refine ⟨?_, ?_, ?_⟩
  · funext i; unfold wA; split <;> rfl
  · funext i; unfold gA; split <;> rfl
  · funext i; unfold psA; rw [if_neg (show ¬ (i : Int) < 0 by omega)]
/-- a village more, a guard more, by the text -/
theorem pLoop_up {t : Nat → Int} {n f : Nat} {k g : Int} {r : Nat → Int} {a : Nat} (h : bgT t n a ≠ k) : pLoop t n (f + 1) k r g a = pLoop t n (f + 1) (k + 1) r g a := by
  show (if _ then _ else if _ then _ else _) = (if _ then _ else if _ then _ else _)
  by_cases h0 : tokK t n a = 0
  · rw [if_pos h0, if_pos h0]
  · rw [if_neg h0, if_neg h0]
    by_cases h1 : bgT t n a < k
    · rw [if_pos h1, if_pos (by omega)]
    · rw [if_neg h1, if_neg (by omega)]
theorem isW_bg {t : Nat → Int} {n a : Nat} (ha : a ≤ n) : (isW t n a 1 ↔ bgT t n a = 1) ∧ (isW t n a 2 ↔ bgT t n a = 2) ∧ (isW t n a 3 ↔ bgT t n a = 3) := by
  rw [isW_1 ha, isW_2 ha, isW_3 ha]
  unfold bgT
  by_cases h : tokK t n a = 1
  · rw [if_pos h]
    refine ⟨?_, ?_, ?_⟩ <;> (constructor <;> intro q <;> (try split) <;> (try split) <;> (try split) <;> (first | omega | (simp_all; done) | (split at q <;> (try split at q) <;> (try split at q) <;> omega)))
  · rw [if_neg h]
    omega
theorem isW_kd {t : Nat → Int} {n a : Nat} (ha : a ≤ n) : kdT t n a = if tokK t n a = 1 then (if tokV t n a = 54740 then 1 else if tokV t n a = 5724665 then 2 else if tokV t n a = 679214 then 3 else if tokV t n a = 3417476 then 4 else if tokV t n a = 441803 then 5 else 0) else 0 := rfl

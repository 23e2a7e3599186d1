/-! the two worlds, side by side -/
theorem gM_mono {y : MethodName} {ws : List Cond} {rm : Room} {E : XE} {B N : Nat} {v : Nat → va_E} {As : List Value} {po po' : Option Value → Nat → (Nat → va_E) → Prop} (h : gM y ws rm E B N v As po) (k : ∀ r N' v', po r N' v' → N ≤ N' → po' r N' v') : gM y ws rm E B N v As po' := by
  intro l p e ha hc hk s m args below h1 h2 h3 h4
  obtain ⟨n, o, a1, a2, a3, ⟨⟨r, N', v', b1, b2, b3, b4⟩, bF⟩, bL⟩ := h l p e ha hc hk s m args below h1 h2 h3 h4
  exact ⟨n, o, a1, a2, a3, ⟨⟨r, N', v', b1, k _ _ _ b2 b3, b3, b4⟩, bF⟩, bL⟩
abbrev oX (B : Nat) (cu : Option Nat) (old kept : Nat) (fau fin : Int) : va_E := .inr (10, [.ref (B + 1), .ref (B + 2), .ref (B + 5), .ref (B + 7), .ref (B + 12), .ref (B + 13), .ref (B + 14), rf B cu, .int (zI (old : Int)), .int (zI (kept : Int)), .int (zI fau), .int (zI fin)])
abbrev oRw (B c : Nat) (la sz : Int) : va_E := .inr (6, [.ref (B + (c + 1)), .int (zI la), .int (zI sz)])
def HB (h : Nat → Int) : Prop := ∀ k, k < 8 → 0 ≤ h k ∧ h k ≤ 1
def LNx (E : XE) (B N : Nat) (v : Nat → va_E) (c n : Nat) (g h s t : Nat → Int) : Prop := Cel N v c (oLine B c (n : Int)) ∧ Cel N v (c + 1) (iarr E 8 g) ∧ Cel N v (c + 2) (barr E 8 h) ∧ Cel N v (c + 3) (iarr E 8 s) ∧ Cel N v (c + 4) (iarr E 8 t)
def RwA1 (i : Nat) (la sz : Int) (it : Nat → Int) (la2 sz2 : Int) (it2 : Nat → Int) : Prop := (-1 ≤ la ∧ la ≤ 2) ∧ (0 ≤ sz ∧ sz ≤ 40) ∧ (0 ≤ la2 ∧ la2 ≤ 2) ∧ (-1 ≤ sz2 ∧ sz2 ≤ 40) ∧ (sz2 < 0 ↔ la = -1) ∧ (la ≠ -1 → la2 = la ∧ sz2 = sz ∧ ∀ k : Nat, (k : Int) < sz → it2 (40 * i + k) = it k)
def RwA (la sz : Nat → Int) (it : Nat → Nat → Int) (la2 sz2 it2 : Nat → Int) : Prop := ∀ i, i < 8 → RwA1 i (la i) (sz i) (it i) (la2 i) (sz2 i) it2
def RwC (E : XE) (B N : Nat) (v : Nat → va_E) (la sz : Nat → Int) (it : Nat → Nat → Int) : Prop := Cel N v 1 (rarr E 2 8 B rowQ) ∧ ∀ i, i < 8 → Cel N v (15 + 2 * i) (oRw B (15 + 2 * i) (la i) (sz i)) ∧ Cel N v (15 + 2 * i + 1) (iarr E 40 (it i))
def Rw (E : XE) (B N : Nat) (v : Nat → va_E) : Prop := ∃ (la sz : Nat → Int) (it : Nat → Nat → Int) (la2 sz2 it2 : Nat → Int), RwC E B N v la sz it ∧ Cel N v 162 (iarr E 8 la2) ∧ Cel N v 163 (iarr E 8 sz2) ∧ Cel N v 164 (iarr E 320 it2) ∧ RwA la sz it la2 sz2 it2
def Tp (E : XE) (B N : Nat) (v : Nat → va_E) (m : Int) : Prop := ∃ (n : Nat) (f pl so s e vv : Int) (t tl : Nat → Int), m = (n : Int) ∧ n ≤ 400 ∧ (∀ i : Nat, 0 ≤ t i ∧ t i ≤ 255) ∧ Cel N v 2 (oT B n f pl so s e vv) ∧ Cel N v 3 (iarr E 400 t) ∧ Cel N v 4 (iarr E 4 tl) ∧ Cel N v 165 (iarr E 400 t)
abbrev oTr (B : Nat) (n : Nat) : va_E := .inr (8, [.ref (B + 6), .int (zI (n : Int))])
def Tr (E : XE) (B N : Nat) (v : Nat → va_E) (m : Int) : Prop := ∃ (n : Nat) (tr : Nat → Int), m = (n : Int) ∧ n ≤ 16 ∧ Cel N v 5 (oTr B n) ∧ Cel N v 6 (iarr E 16 tr) ∧ Cel N v 170 (iarr E 16 tr)
def Ln (E : XE) (B N : Nat) (v : Nat → va_E) (cu : Option Nat) (p : Nat → Int) (l : Cor) : Prop := ∃ (n : Nat) (g h s t : Nat → Int), LNx E B N v 7 n g h s t ∧ LR g h l ∧ n = l.length ∧ (cu ≠ none → SR (p 0) (p 1) l s t)
def No (E : XE) (B N : Nat) (v : Nat → va_E) (p : Nat → Int) (l : Cor) : Prop := ∃ a : Nat → Int, Cel N v 166 (iarr E 138 a) ∧ PR a p l
def LNk (E : XE) (B N : Nat) (v : Nat → va_E) (c : Nat) (w e : Int) (l : Cor) : Prop := ∃ (n : Nat) (g h s t : Nat → Int), LNx E B N v c n g h s t ∧ LR g h l ∧ n = l.length ∧ SR w e l s t
def LNb (E : XE) (B N : Nat) (v : Nat → va_E) (c : Nat) : Prop := ∃ (n : Nat) (g h s t : Nat → Int), LNx E B N v c n g h s t ∧ HB h
def Ac (E : XE) (B N : Nat) (v : Nat → va_E) (p : Nat → Int) (old kept : Nat) : Prop := ∃ (as : List Cor) (bf : Nat → Int), Cel N v 12 (rarr E 3 24 B actQ) ∧ (∀ j, j < 24 → LNb E B N v (31 + 5 * j)) ∧ (∀ (j : Nat) (hj : j < as.length), LNk E B N v (31 + 5 * ((old + j) % 24)) (p 0) (p 1) as[j]) ∧ Cel N v 167 (iarr E 3312 bf) ∧ AR bf p as ∧ AsOk p as ∧ old < 24 ∧ kept = as.length
def Gr (E : XE) (B N : Nat) (v : Nat → va_E) (cu : Option Nat) (p : Nat → Int) : Prop := (cu = none → p = fun _ => 0) ∧ ∀ c, cu = some c → 174 ≤ c ∧ GS E B N v c p ∧ rOk p
def Im1 (E : XE) (B N : Nat) (v : Nat → va_E) (k : Nat) (qo : Option Nat) (im : Nat → Int) (kp : Int) : Prop := LNb E B N v (151 + 5 * k) ∧ (qo = none → kp = 0) ∧ ∀ q, qo = some q → kp = 1 ∧ 174 ≤ q ∧ ∃ (pk : Nat → Int) (lk : Cor), GS E B N v q pk ∧ rOk pk ∧ CorOk lk ∧ (lk.length : Int) ≤ pk 2 ∧ PR (fun j => im (138 * k + j)) pk lk ∧ LNk E B N v (151 + 5 * k) (pk 0) (pk 1) lk
def Im (E : XE) (B N : Nat) (v : Nat → va_E) (cu : Option Nat) : Prop := ∃ (gq : Nat → Option Nat) (im kp : Nat → Int), Cel N v 13 (rarr E 3 2 B imgQ) ∧ Cel N v 14 (rarr E 4 2 B gq) ∧ Cel N v 168 (iarr E 276 im) ∧ Cel N v 169 (barr E 2 kp) ∧ (∀ k, k < 2 → Im1 E B N v k (gq k) im (kp k)) ∧ (cu = none → ∀ k, k < 2 → gq k = none)
def Sc (E : XE) (B N : Nat) (v : Nat → va_E) : Prop := ∃ r f t : Nat → Int, Cel N v 171 (iarr E 138 r) ∧ Cel N v 172 (iarr E 138 f) ∧ Cel N v 173 (iarr E 138 t)
def kF (cu : Option Nat) (kept : Nat) (fau fin : Int) (F : Nat → Int) : Prop := F 3 = fin ∧ F 6 = fau ∧ F 9 = (kept : Int) ∧ (cu = none → F 7 = 0) ∧ (∀ c, cu = some c → F 7 = 1)
def kL (p : Nat → Int) (l : Cor) : Prop := CorOk l ∧ (l.length : Int) ≤ p 2
def RELx (E : XE) (B N : Nat) (v : Nat → va_E) (cu : Option Nat) (old kept : Nat) (fau fin : Int) (F : Nat → Int) (V : Int) (p : Nat → Int) (l : Cor) : Prop := 174 ≤ N ∧ Cel N v 0 (oX B cu old kept fau fin) ∧ Cel N v 161 (oM B F V) ∧ Rw E B N v ∧ Tp E B N v (F 5) ∧ Tr E B N v (F 13) ∧ Ln E B N v cu p l ∧ No E B N v p l ∧ Ac E B N v p old kept ∧ Gr E B N v cu p ∧ Im E B N v cu ∧ Sc E B N v ∧ kF cu kept fau fin F ∧ kL p l
def REL (E : XE) (B N : Nat) (v : Nat → va_E) : Prop := ∃ (cu : Option Nat) (old kept : Nat) (fau fin : Int) (F : Nat → Int) (V : Int) (p : Nat → Int) (l : Cor), RELx E B N v cu old kept fau fin F V p l
/-- the call of the class comes back with an answer, and the reference's call, made behind it, with the same -/
def PB (E : XE) (B : Nat) (y : MethodName) (ws : List Cond) (rm : Room) (As : List Value) : Option Value → Nat → (Nat → va_E) → Prop := fun ρ N1 v1 => ∃ res : Int, ρ = some (.int (zI res)) ∧ (∃ (F : Nat → Int) (V : Int), Cel N1 v1 161 (oM B F V)) ∧ gM y ws rm E B N1 v1 As (fun ρ2 N2 v2 => ρ2 = some (.int (zI res)) ∧ REL E B N2 v2)
section
variable {E : XE} {B N M : Nat} {v w : Nat → va_E}
def GK (E : XE) (B N : Nat) (v : Nat → va_E) (M : Nat) (w : Nat → va_E) : Prop := ∀ (q : Nat) (p : Nat → Int), 174 ≤ q → p 4 ≤ 5 → GS E B N v q p → GS E B M w q p
theorem GK_r : GK E B N v N v := fun _ _ _ _ h => h
theorem GK_t {M2 : Nat} {w2 : Nat → va_E} (h : GK E B N v M w) (h2 : GK E B M w M2 w2) : GK E B N v M2 w2 := fun q p a b c => h2 q p a b (h q p a b c)
theorem GK_hi (hM : N ≤ M) (hw : ∀ k, 174 ≤ k → k < N → w k = v k) : GK E B N v M w := fun q p a b c => GS_fr c b hM (fun k h1 _ h3 => hw k (by omega) h3)
theorem LNx_fr {c n : Nat} {g h s t : Nat → Int} (hl : LNx E B N v c n g h s t) (hM : N ≤ M) (hw : ∀ k, c ≤ k → k < c + 5 → w k = v k) : LNx E B M w c n g h s t := by
  obtain ⟨a0, a1, a2, a3, a4⟩ := hl
  exact ⟨cel_fr a0 hM (hw _ (by omega) (by omega)), cel_fr a1 hM (hw _ (by omega) (by omega)), cel_fr a2 hM (hw _ (by omega) (by omega)), cel_fr a3 hM (hw _ (by omega) (by omega)), cel_fr a4 hM (hw _ (by omega) (by omega))⟩
theorem LNk_fr {c : Nat} {a b : Int} {l : Cor} (h : LNk E B N v c a b l) (hM : N ≤ M) (hw : ∀ k, c ≤ k → k < c + 5 → w k = v k) : LNk E B M w c a b l := by
  obtain ⟨n, g, h', s, t, q, q'⟩ := h
  exact ⟨n, g, h', s, t, LNx_fr q hM hw, q'⟩
theorem LNb_fr {c : Nat} (h : LNb E B N v c) (hM : N ≤ M) (hw : ∀ k, c ≤ k → k < c + 5 → w k = v k) : LNb E B M w c := by
  obtain ⟨n, g, h', s, t, q, q'⟩ := h
  exact ⟨n, g, h', s, t, LNx_fr q hM hw, q'⟩
theorem LNx_k {c n : Nat} {g h s t : Nat → Int} {l : Cor} {a b : Int} (q : LNx E B N v c n g h s t) (h1 : LR g h l) (h2 : n = l.length) (h3 : SR a b l s t) : LNk E B N v c a b l := ⟨n, g, h, s, t, q, h1, h2, h3⟩
theorem LNx_b {c n : Nat} {g h s t : Nat → Int} (q : LNx E B N v c n g h s t) (h1 : HB h) : LNb E B N v c := ⟨n, g, h, s, t, q, h1⟩
theorem RwC_fr {la sz : Nat → Int} {it : Nat → Nat → Int} (h : RwC E B N v la sz it) (hM : N ≤ M) (hw : ∀ k, (k = 1 ∨ 15 ≤ k ∧ k ≤ 30) → w k = v k) : RwC E B M w la sz it := by
  obtain ⟨a, b⟩ := h
  refine ⟨cel_fr a hM (hw _ (by omega)), fun i hi => ⟨cel_fr (b i hi).1 hM (hw _ (by omega)), cel_fr (b i hi).2 hM (hw _ (by omega))⟩⟩
theorem Rw_fr (h : Rw E B N v) (hM : N ≤ M) (hw : ∀ k, (k = 1 ∨ 15 ≤ k ∧ k ≤ 30 ∨ 162 ≤ k ∧ k ≤ 164) → w k = v k) : Rw E B M w := by
  obtain ⟨la, sz, it, la2, sz2, it2, a, b, c, d, e⟩ := h
  exact ⟨la, sz, it, la2, sz2, it2, RwC_fr a hM (fun k hk => hw k (by omega)), cel_fr b hM (hw _ (by omega)), cel_fr c hM (hw _ (by omega)), cel_fr d hM (hw _ (by omega)), e⟩
theorem Tp_fr {m : Int} (h : Tp E B N v m) (hM : N ≤ M) (hw : ∀ k, (2 ≤ k ∧ k ≤ 4 ∨ k = 165) → w k = v k) : Tp E B M w m := by
  obtain ⟨n, f, pl, so, s, e, vv, t, tl, h1, h2, h3, a, b, c, d⟩ := h
  exact ⟨n, f, pl, so, s, e, vv, t, tl, h1, h2, h3, cel_fr a hM (hw _ (by omega)), cel_fr b hM (hw _ (by omega)), cel_fr c hM (hw _ (by omega)), cel_fr d hM (hw _ (by omega))⟩
theorem Tr_fr {m : Int} (h : Tr E B N v m) (hM : N ≤ M) (hw : ∀ k, (5 ≤ k ∧ k ≤ 6 ∨ k = 170) → w k = v k) : Tr E B M w m := by
  obtain ⟨n, tr, h1, h2, a, b, c⟩ := h
  exact ⟨n, tr, h1, h2, cel_fr a hM (hw _ (by omega)), cel_fr b hM (hw _ (by omega)), cel_fr c hM (hw _ (by omega))⟩
theorem Ln_fr {cu : Option Nat} {p : Nat → Int} {l : Cor} (h : Ln E B N v cu p l) (hM : N ≤ M) (hw : ∀ k, 7 ≤ k ∧ k ≤ 11 → w k = v k) : Ln E B M w cu p l := by
  obtain ⟨n, g, h', s, t, q, q'⟩ := h
  exact ⟨n, g, h', s, t, LNx_fr q hM (fun k h1 h2 => hw k (by omega)), q'⟩
theorem No_fr {p : Nat → Int} {l : Cor} (h : No E B N v p l) (hM : N ≤ M) (hw : ∀ k, k = 166 → w k = v k) : No E B M w p l := by
  obtain ⟨a, q, q'⟩ := h
  exact ⟨a, cel_fr q hM (hw _ rfl), q'⟩
theorem Ac_fr {p : Nat → Int} {old kept : Nat} (h : Ac E B N v p old kept) (hM : N ≤ M) (hw : ∀ k, (k = 12 ∨ 31 ≤ k ∧ k ≤ 150 ∨ k = 167) → w k = v k) : Ac E B M w p old kept := by
  obtain ⟨as, bf, a, b, c, d, e⟩ := h
  exact ⟨as, bf, cel_fr a hM (hw _ (by omega)), fun j hj => LNb_fr (b j hj) hM (fun k h1 h2 => hw k (by omega)), fun j hj => LNk_fr (c j hj) hM (fun k h1 h2 => hw k (by omega)), cel_fr d hM (hw _ (by omega)), e⟩
theorem Gr_fr {cu : Option Nat} {p : Nat → Int} (h : Gr E B N v cu p) (hk : GK E B N v M w) : Gr E B M w cu p := ⟨h.1, fun c hc => ⟨(h.2 c hc).1, hk c p (h.2 c hc).1 (h.2 c hc).2.2.1.2.2.2.2.1.2 (h.2 c hc).2.1, (h.2 c hc).2.2⟩⟩
theorem Im1_fr {k : Nat} {qo : Option Nat} {im : Nat → Int} {kp : Int} (h : Im1 E B N v k qo im kp) (hM : N ≤ M) (hk : GK E B N v M w) (hw : ∀ q, 151 + 5 * k ≤ q → q < 151 + 5 * k + 5 → w q = v q) : Im1 E B M w k qo im kp := by
  refine ⟨LNb_fr h.1 hM hw, h.2.1, fun q hq => ?_⟩
  obtain ⟨h1, h2, pk, lk, g1, g2, g3, g4, g5, g6⟩ := h.2.2 q hq
  exact ⟨h1, h2, pk, lk, hk q pk h2 g2.1.2.2.2.2.1.2 g1, g2, g3, g4, g5, LNk_fr g6 hM hw⟩
theorem Im_fr {cu : Option Nat} (h : Im E B N v cu) (hM : N ≤ M) (hk : GK E B N v M w) (hw : ∀ k, (13 ≤ k ∧ k ≤ 14 ∨ 151 ≤ k ∧ k ≤ 160 ∨ 168 ≤ k ∧ k ≤ 169) → w k = v k) : Im E B M w cu := by
  obtain ⟨gq, im, kp, a, b, c, d, e, f⟩ := h
  exact ⟨gq, im, kp, cel_fr a hM (hw _ (by omega)), cel_fr b hM (hw _ (by omega)), cel_fr c hM (hw _ (by omega)), cel_fr d hM (hw _ (by omega)), fun k hk2 => Im1_fr (e k hk2) hM hk (fun q h1 h2 => hw q (by omega)), f⟩
theorem Sc_fr (h : Sc E B N v) (hM : N ≤ M) (hw : ∀ k, (171 ≤ k ∧ k ≤ 173) → w k = v k) : Sc E B M w := by
  obtain ⟨r, f, t, a, b, c⟩ := h
  exact ⟨r, f, t, cel_fr a hM (hw _ (by omega)), cel_fr b hM (hw _ (by omega)), cel_fr c hM (hw _ (by omega))⟩
/-- no place inside a ground is where another one begins -/
theorem kci_ne (k : Int) : kci k ≠ 3 := by
  unfold kci
  split
  · decide
  · split
    · decide
    · split
      · decide
      · split <;> decide
theorem inr_ne {a b : Nat} {f g : List Value} (h : a ≠ b) : (Sum.inr (a, f) : va_E) ≠ .inr (b, g) := fun e => h (by injection e with e; injection e)
theorem inl_ne {a : ClassId × Nat × _} {b : Nat × List Value} : (Sum.inl a : va_E) ≠ .inr b := fun e => by cases e
theorem GS_no {c : Nat} {p : Nat → Int} (h : GS E B N v c p) {j : Nat} {f : List Value} (h1 : 1 ≤ j) (h2 : (j : Int) < 23 + p 4 ∨ j < 23) : v (c + j) ≠ .inr (3, f) := by
  obtain ⟨a0, a1, a2, a3, a4, a5, a6, a7, a8⟩ := h
  by_cases h23 : 23 ≤ j
  · have q := (a6 (j - 23) (by omega)).2
    rw [show c + 23 + (j - 23) = c + j by omega] at q
    rw [q]
    exact inr_ne (kci_ne _)
  by_cases h5 : 5 ≤ j ∧ j ≤ 12
  · have q := (a5 (j - 5) (by omega)).2
    rw [show c + 5 + (j - 5) = c + j by omega] at q
    rw [q]
    exact inl_ne
  obtain ⟨n7, g7, h7, s7, t7, b0, b1, b2, b3, b4⟩ := a7
  obtain ⟨n8, g8, h8, s8, t8, d0, d1, d2, d3, d4⟩ := a8
  have K : j = 1 ∨ j = 2 ∨ j = 3 ∨ j = 4 ∨ j = 13 ∨ j = 14 ∨ j = 15 ∨ j = 16 ∨ j = 17 ∨ j = 18 ∨ j = 19 ∨ j = 20 ∨ j = 21 ∨ j = 22 := by omega
  rcases K with rfl | rfl | rfl | rfl | rfl | rfl | rfl | rfl | rfl | rfl | rfl | rfl | rfl | rfl
  · rw [a1.2]; exact inl_ne
  · rw [a2.2]; exact inl_ne
  · rw [a3.2]; exact inl_ne
  · rw [a4.2]; exact inl_ne
  · rw [b0.2]; exact inr_ne (by decide)
  · rw [show c + 14 = c + 13 + 1 from rfl, b1.2]; exact inl_ne
  · rw [show c + 15 = c + 13 + 2 from rfl, b2.2]; exact inl_ne
  · rw [show c + 16 = c + 13 + 3 from rfl, b3.2]; exact inl_ne
  · rw [show c + 17 = c + 13 + 4 from rfl, b4.2]; exact inl_ne
  · rw [d0.2]; exact inr_ne (by decide)
  · rw [show c + 19 = c + 18 + 1 from rfl, d1.2]; exact inl_ne
  · rw [show c + 20 = c + 18 + 2 from rfl, d2.2]; exact inl_ne
  · rw [show c + 21 = c + 18 + 3 from rfl, d3.2]; exact inl_ne
  · rw [show c + 22 = c + 18 + 4 from rfl, d4.2]; exact inl_ne
/-- two grounds: the same place, or apart -/
theorem GS_two {c q : Nat} {p r : Nat → Int} (h : GS E B N v c p) (h2 : GS E B N v q r) : c = q ∨ ((c : Int) + 23 ≤ q ∧ (c : Int) + 23 + p 4 ≤ q) ∨ ((q : Int) + 23 ≤ c ∧ (q : Int) + 23 + r 4 ≤ c) := by
  have e1 := h.1.2
  have e2 := h2.1.2
  rcases Nat.lt_trichotomy c q with hl | hl | hl
  · refine Or.inr (Or.inl ?_)
    have := GS_no (f := [.int (zI (r 0)), .int (zI (r 1)), .int (zI (r 2)), .ref (B + (q + 1)), .ref (B + (q + 2)), .int (zI (r 3)), .ref (B + (q + 3)), .int (zI (r 4)), .ref (B + (q + 4)), .ref (B + (q + 13)), .ref (B + (q + 18))]) h (j := q - c) (by omega)
    rw [show c + (q - c) = q by omega] at this
    have h3 : ¬ (((q - c : Nat) : Int) < 23 + p 4 ∨ q - c < 23) := fun hx => this hx e2
    omega
  · exact Or.inl hl
  · refine Or.inr (Or.inr ?_)
    have := GS_no (f := [.int (zI (p 0)), .int (zI (p 1)), .int (zI (p 2)), .ref (B + (c + 1)), .ref (B + (c + 2)), .int (zI (p 3)), .ref (B + (c + 3)), .int (zI (p 4)), .ref (B + (c + 4)), .ref (B + (c + 13)), .ref (B + (c + 18))]) h2 (j := c - q) (by omega)
    rw [show q + (c - q) = c by omega] at this
    have h3 : ¬ (((c - q : Nat) : Int) < 23 + r 4 ∨ c - q < 23) := fun hx => this hx e1
    omega
theorem GS_fr2 {c : Nat} {p : Nat → Int} (h : GS E B N v c p) (hM : N ≤ M) (hw : ∀ k, c ≤ k → (k < c + 23 ∨ (k : Int) < c + 23 + p 4) → w k = v k) : GS E B M w c p := by
  obtain ⟨a0, a1, a2, a3, a4, a5, a6, a7, a8⟩ := h
  exact ⟨cel_fr a0 hM (hw _ (by omega) (by omega)), cel_fr a1 hM (hw _ (by omega) (by omega)), cel_fr a2 hM (hw _ (by omega) (by omega)), cel_fr a3 hM (hw _ (by omega) (by omega)), cel_fr a4 hM (hw _ (by omega) (by omega)),
    fun x hx => cel_fr (a5 x hx) hM (hw _ (by omega) (by omega)), fun x hx => cel_fr (a6 x hx) hM (hw _ (by omega) (by omega)), LNA_fr a7 hM (fun k h1 h2 => hw k (by omega) (by omega)), LNA_fr a8 hM (fun k h1 h2 => hw k (by omega) (by omega))⟩
/-- a ground's two lines may hold anything: it and all others are kept -/
theorem GK_ln {c : Nat} {p : Nat → Int} (hc : GS E B N v c p) (hw : ∀ k, 174 ≤ k → (k < c + 13 ∨ c + 23 ≤ k) → w k = v k) (h13 : LNA E B N w (c + 13)) (h18 : LNA E B N w (c + 18)) : GK E B N v N w := by
  intro q r h174 h5 hG
  rcases GS_two hc hG with rfl | hq | hq
  · obtain ⟨a0, a1, a2, a3, a4, a5, a6, a7, a8⟩ := hG
    exact ⟨cel_fr a0 (Nat.le_refl _) (hw _ (by omega) (by omega)), cel_fr a1 (Nat.le_refl _) (hw _ (by omega) (by omega)), cel_fr a2 (Nat.le_refl _) (hw _ (by omega) (by omega)), cel_fr a3 (Nat.le_refl _) (hw _ (by omega) (by omega)), cel_fr a4 (Nat.le_refl _) (hw _ (by omega) (by omega)),
      fun x hx => cel_fr (a5 x hx) (Nat.le_refl _) (hw _ (by omega) (by omega)), fun x hx => cel_fr (a6 x hx) (Nat.le_refl _) (hw _ (by omega) (by omega)), h13, h18⟩
  · exact GS_fr2 hG (Nat.le_refl _) (fun k h1 h2 => hw k (by omega) (by omega))
  · exact GS_fr2 hG (Nat.le_refl _) (fun k h1 h2 => hw k (by omega) (by omega))
theorem LNx_A {c n : Nat} {g h s t : Nat → Int} (q : LNx E B N v c n g h s t) : LNA E B N v c := ⟨n, g, h, s, t, q⟩
theorem POk_0 : POk (fun _ => (0 : Int)) := by
  have h : ∀ k : Int, 0 ≤ k → (0 : Int) ≤ 0 ∧ (0 : Int) ≤ k := fun k hk => ⟨Int.le_refl _, hk⟩
  exact ⟨h 5 (by omega), h 5 (by omega), h 6 (by omega), h 8 (by omega), h 5 (by omega), fun _ _ => ⟨h 5 (by omega), h 1 (by omega), h 47 (by omega), h 13 (by omega)⟩, fun _ _ => ⟨h 1 (by omega), h 800 (by omega)⟩⟩
theorem Gr_ok {cu : Option Nat} {p : Nat → Int} (h : Gr E B N v cu p) : POk p := by
  cases cu with
  | none => rw [h.1 rfl]; exact POk_0
  | some c => exact (h.2 c rfl).2.2.1
/-- the world behind calls that move rows, tape, trace, lines of grounds, scratch and numbers alone -/
theorem RELx_gen {cu : Option Nat} {old kept : Nat} {fau fin fau2 fin2 : Int} {F F2 : Nat → Int} {V V2 : Int} {p : Nat → Int} {l : Cor} (h : RELx E B N v cu old kept fau fin F V p l) (hM : N ≤ M)
    (f : ∀ k, (7 ≤ k ∧ k ≤ 14 ∨ 31 ≤ k ∧ k ≤ 160 ∨ 166 ≤ k ∧ k ≤ 169) → w k = v k) (gk : GK E B N v M w) (ho : Cel M w 0 (oX B cu old kept fau2 fin2)) (hm : Cel M w 161 (oM B F2 V2)) (hr : Rw E B M w) (ht : Tp E B M w (F2 5)) (htr : Tr E B M w (F2 13)) (hs : Sc E B M w) (hF : F2 3 = fin2 ∧ F2 6 = fau2 ∧ F2 7 = F 7 ∧ F2 9 = F 9) : REL E B M w := by
  obtain ⟨h1, h2, h3, h4, h5, h6, h7, h8, h9, h10, h11, h12, h13, h14⟩ := h
  refine ⟨cu, old, kept, fau2, fin2, F2, V2, p, l, by omega, ho, hm, hr, ht, htr, Ln_fr h7 hM (fun k hk => f k (by omega)), No_fr h8 hM (fun k hk => f k (by omega)), Ac_fr h9 hM (fun k hk => f k (by omega)), Gr_fr h10 gk, Im_fr h11 hM gk (fun k hk => f k (by omega)), hs, ⟨hF.1, hF.2.1, hF.2.2.2.trans h13.2.2.1, fun q => hF.2.2.1.trans (h13.2.2.2.1 q), fun c q => hF.2.2.1.trans (h13.2.2.2.2 c q)⟩, h14⟩
theorem RELx_fin {cu : Option Nat} {old kept : Nat} {fau fin fin2 : Int} {F F2 : Nat → Int} {V V2 : Int} {p : Nat → Int} {l : Cor} (h : RELx E B N v cu old kept fau fin F V p l)
    (f : ∀ k, k < 174 → k ≠ 0 → k ≠ 161 → k ≠ 171 → k ≠ 172 → k ≠ 173 → w k = v k) (gk : GK E B N v N w) (ho : Cel N w 0 (oX B cu old kept fau fin2)) (hm : Cel N w 161 (oM B F2 V2)) (hs : Sc E B N w) (hF : F2 3 = fin2 ∧ F2 5 = F 5 ∧ F2 6 = F 6 ∧ F2 7 = F 7 ∧ F2 9 = F 9 ∧ F2 13 = F 13) : REL E B N w := by
  have h' := h
  obtain ⟨h1, h2, h3, h4, h5, h6, h7, h8, h9, h10, h11, h12, h13, h14⟩ := h'
  refine RELx_gen h (Nat.le_refl _) (fun k hk => f k (by omega) (by omega) (by omega) (by omega) (by omega) (by omega)) gk ho hm (Rw_fr h4 (Nat.le_refl _) (fun k hk => f k (by omega) (by omega) (by omega) (by omega) (by omega) (by omega))) ?_ ?_ hs ⟨hF.1, hF.2.2.1.trans h13.2.1, hF.2.2.2.1, hF.2.2.2.2.1⟩
  · rw [hF.2.1]; exact Tp_fr h5 (Nat.le_refl _) (fun k hk => f k (by omega) (by omega) (by omega) (by omega) (by omega) (by omega))
  · rw [hF.2.2.2.2.2]; exact Tr_fr h6 (Nat.le_refl _) (fun k hk => f k (by omega) (by omega) (by omega) (by omega) (by omega) (by omega))
theorem RELx_in {cu : Option Nat} {old kept : Nat} {fau fin : Int} {F : Nat → Int} {V : Int} {p : Nat → Int} {l : Cor} (h : RELx E B N v cu old kept fau fin F V p l) : REL E B N v := ⟨cu, old, kept, fau, fin, F, V, p, l, h⟩
end
theorem res_eq {a b : Int} (h : a = b) : some (Value.int (zI a)) = some (Value.int (zI b)) := by rw [h]
theorem rowI (r : Int) : ∃ i : Nat, i < 8 ∧ rowC r = 15 + 2 * i ∧ ((0 ≤ r ∧ r ≤ 7) → r = (i : Int)) := by
  unfold rowC
  by_cases h : 0 ≤ r ∧ r ≤ 7
  · exact ⟨r.toNat, by omega, by rw [if_pos h], fun _ => by omega⟩
  · exact ⟨0, by omega, by rw [if_neg h], fun q => absurd q h⟩

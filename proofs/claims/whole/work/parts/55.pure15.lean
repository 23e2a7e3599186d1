/-! the tape reads a ground -/
abbrev oT (B n : Nat) (f pl so s e vv : Int) : va_E := .inr (7, [.ref (B + 3), .ref (B + 4), .int (zI (n : Int)), .int (zI f), .int (zI pl), .int (zI so), .int (zI s), .int (zI e), .int (zI vv)])
def FRM (v w : Nat → va_E) (c : Nat) : Prop := ∀ q, q < c → q ≠ 2 → q ≠ 4 → w q = v q
theorem FRM_r (v : Nat → va_E) (c : Nat) : FRM v v c := fun _ _ _ _ => rfl
theorem FRM_t {u v w : Nat → va_E} {c : Nat} (h : FRM u v c) (h2 : FRM v w c) : FRM u w c := fun q a b d => (h2 q a b d).trans (h q a b d)
def RSx (E : XE) (B N : Nat) (w : Nat → va_E) (c n : Nat) (t : Nat → Int) (f pl : Int) (k : Int) (R0 : Except (Int × Nat) (Nat → Int)) (a : Nat) (r : Nat → Int) (g : Int) (fu : Nat) (tl : Nat → Int) (vv : Int) : Prop :=
  Cel N w 2 (oT B n f pl (tokK t n a) (skT t n a : Int) (tokE t n a : Int) vv) ∧ Cel N w 3 (iarr E 400 t) ∧ Cel N w 4 (iarr E 4 tl) ∧ a ≤ n ∧ (tokK t n a = 2 → vv = tokV t n a) ∧ GS E B N w c r ∧ rOk r ∧ R0 = pLoop t n (fu + 1) k r g a ∧ n ≤ fu + a ∧ (0 ≤ g ∧ g ≤ 8) ∧ N = c + 23 + (r 4).toNat
def RS (E : XE) (B N : Nat) (w : Nat → va_E) (c n : Nat) (t : Nat → Int) (f pl : Int) (k : Int) (R0 : Except (Int × Nat) (Nat → Int)) : Prop := ∃ a r g fu tl vv, RSx E B N w c n t f pl k R0 a r g fu tl vv ∧ (k ≤ 3 → r 4 = 0) ∧ (k ≤ 2 → g = 0) ∧ (k ≤ 1 → r 3 = 0)
def RE (E : XE) (B N : Nat) (w : Nat → va_E) (n : Nat) (R0 : Except (Int × Nat) (Nat → Int)) : Prop := ∃ (f pl so s e vv : Int) (tl : Nat → Int) (p : Nat), Cel N w 2 (oT B n f pl so s e vv) ∧ Cel N w 4 (iarr E 4 tl) ∧ R0 = .error (f, p) ∧ pl = (p : Int)
section
variable {E : XE} {B N : Nat} {w : Nat → va_E} {c n : Nat} {t : Nat → Int} {f pl k : Int} {R0 : Except (Int × Nat) (Nat → Int)} {a : Nat} {r : Nat → Int} {g : Int} {fu : Nat} {tl : Nat → Int} {vv so s e : Int} {p : Nat}
theorem RSx_mk (h1 : Cel N w 2 (oT B n f pl (tokK t n a) (skT t n a : Int) (tokE t n a : Int) vv)) (h2 : Cel N w 3 (iarr E 400 t)) (h3 : Cel N w 4 (iarr E 4 tl)) (h4 : a ≤ n) (h5 : tokK t n a = 2 → vv = tokV t n a) (h6 : GS E B N w c r) (h7 : rOk r) (h8 : R0 = pLoop t n (fu + 1) k r g a) (h9 : n ≤ fu + a) (h10 : 0 ≤ g ∧ g ≤ 8) (h11 : N = c + 23 + (r 4).toNat) : RSx E B N w c n t f pl k R0 a r g fu tl vv := ⟨h1, h2, h3, h4, h5, h6, h7, h8, h9, h10, h11⟩
theorem RSx_kv (h : RSx E B N w c n t f pl k R0 a r g fu tl vv) : tokK t n a = 2 → vv = tokV t n a := h.2.2.2.2.1
theorem RSx_N (h : RSx E B N w c n t f pl k R0 a r g fu tl vv) : N = c + 23 + (r 4).toNat := h.2.2.2.2.2.2.2.2.2.2
theorem RS_mk (h : RSx E B N w c n t f pl k R0 a r g fu tl vv) (h1 : k ≤ 3 → r 4 = 0) (h2 : k ≤ 2 → g = 0) (h3 : k ≤ 1 → r 3 = 0) : RS E B N w c n t f pl k R0 := ⟨a, r, g, fu, tl, vv, h, h1, h2, h3⟩
theorem RE_mk (h1 : Cel N w 2 (oT B n f pl so s e vv)) (h2 : Cel N w 4 (iarr E 4 tl)) (h3 : R0 = .error (f, p)) (h4 : pl = (p : Int)) : RE E B N w n R0 := ⟨f, pl, so, s, e, vv, tl, p, h1, h2, h3, h4⟩
end
theorem pCell_y {t : Nat → Int} {n a x y e1 e2 : Nat} (h1 : pNum t n 0 7 a = .ok ((x : Int), e1)) (h2 : pNum t n 0 5 e1 = .ok ((y : Int), e2)) : pCell t n a = .ok (((8 * y + x : Nat) : Int), e2) := by
  unfold pCell
  rw [pThen_ok h1, pThen_ok h2, show (x : Int) + 8 * (y : Int) = ((8 * y + x : Nat) : Int) by omega]
theorem pCell_1 {t : Nat → Int} {n a : Nat} {q : Int × Nat} (h1 : pNum t n 0 7 a = .error q) : pCell t n a = .error q := by
  unfold pCell; exact pThen_err h1
theorem pCell_2 {t : Nat → Int} {n a x e1 : Nat} {q : Int × Nat} (h1 : pNum t n 0 7 a = .ok ((x : Int), e1)) (h2 : pNum t n 0 5 e1 = .error q) : pCell t n a = .error q := by
  unfold pCell; rw [pThen_ok h1]; exact pThen_err h2
theorem pLoop_i {t : Nat → Int} {n f : Nat} {k g b : Int} {r : Nat → Int} {a : Nat} (hK : tokK t n a ≠ 0) (hb : bgT t n a = b) (hk : k ≤ b) : pLoop t n (f + 1) k r g a = (match pItem t n b r g a with
      | .error e => .error e
      | .ok q => pLoop t n f b q.1.1 q.1.2 q.2) := by
  subst hb
  show (if _ then _ else if _ then _ else _) = _
  rw [if_neg hK, if_neg (by omega)]
  cases pItem t n (bgT t n a) r g a <;> rfl
section
variable {t : Nat → Int} {n f : Nat} {g : Int} {r : Nat → Int} {a : Nat} {q : Int × Nat}
/-- a village -/
theorem vil_f (hK : tokK t n a ≠ 0) (hb : bgT t n a = 1) (h8 : ¬ r 3 < 8) : pLoop t n (f + 1) 1 r g a = .error (3, skT t n a) := by
  rw [pLoop_i hK hb (by omega)]; unfold pItem pV; rw [if_pos rfl, if_neg h8]; rfl
theorem vil_e (hK : tokK t n a ≠ 0) (hb : bgT t n a = 1) (h8 : r 3 < 8) (h : pVil t n (tokE t n a) = .error q) : pLoop t n (f + 1) 1 r g a = .error q := by
  rw [pLoop_i hK hb (by omega)]; unfold pItem pV; rw [if_pos rfl, if_pos h8, h]; rfl
theorem vil_o (hK : tokK t n a ≠ 0) (hb : bgT t n a = 1) (h8 : r 3 < 8) {x : Int × Int} {e : Nat} (h : pVil t n (tokE t n a) = .ok (x, e)) : pLoop t n (f + 1) 1 r g a = pLoop t n f 1 (vilR r x.1 x.2) g e := by
  rw [pLoop_i hK hb (by omega)]; unfold pItem pV; rw [if_pos rfl, if_pos h8, h]; rfl
/-- a guard -/
theorem gua_f (hK : tokK t n a ≠ 0) (hb : bgT t n a = 2) (h8 : ¬ g < 8) : pLoop t n (f + 1) 2 r g a = .error (3, skT t n a) := by
  rw [pLoop_i hK hb (by omega)]; unfold pItem pG; rw [if_neg (by omega), if_pos rfl, if_neg h8]; rfl
theorem gua_e (hK : tokK t n a ≠ 0) (hb : bgT t n a = 2) (h8 : g < 8) (h : pGua t n (tokE t n a) = .error q) : pLoop t n (f + 1) 2 r g a = .error q := by
  rw [pLoop_i hK hb (by omega)]; unfold pItem pG; rw [if_neg (by omega), if_pos rfl, if_pos h8, h]; rfl
theorem gua_o (hK : tokK t n a ≠ 0) (hb : bgT t n a = 2) (h8 : g < 8) {x : Int} {e : Nat} (h : pGua t n (tokE t n a) = .ok (x, e)) : pLoop t n (f + 1) 2 r g a = pLoop t n f 2 (guaR r x) (g + 1) e := by
  rw [pLoop_i hK hb (by omega)]; unfold pItem pG; rw [if_neg (by omega), if_pos rfl, if_pos h8, h]; rfl
/-- one of the people -/
theorem per_f (hK : tokK t n a ≠ 0) (hb : bgT t n a = 3) (h8 : ¬ r 4 < 5) : pLoop t n (f + 1) 3 r g a = .error (3, skT t n a) := by
  rw [pLoop_i hK hb (by omega)]; unfold pItem pP; rw [if_neg (by omega), if_neg (by omega), if_neg h8]; rfl
theorem per_e (hK : tokK t n a ≠ 0) (hb : bgT t n a = 3) (h8 : r 4 < 5) (h : pPer t n (tokE t n a) = .error q) : pLoop t n (f + 1) 3 r g a = .error q := by
  rw [pLoop_i hK hb (by omega)]; unfold pItem pP; rw [if_neg (by omega), if_neg (by omega), if_pos h8, h]; rfl
theorem per_o (hK : tokK t n a ≠ 0) (hb : bgT t n a = 3) (h8 : r 4 < 5) {x : Per4} {e : Nat} (h : pPer t n (tokE t n a) = .ok (x, e)) : pLoop t n (f + 1) 3 r g a = pLoop t n f 3 (perR r x) g e := by
  rw [pLoop_i hK hb (by omega)]; unfold pItem pP; rw [if_neg (by omega), if_neg (by omega), if_pos h8, h]; rfl
end
section
variable {t : Nat → Int} {n a x y e1 e2 e3 e4 e5 : Nat} {w z ld m kd : Int} {q : Int × Nat}
theorem pVil_1 (h1 : pNum t n 0 7 a = .error q) : pVil t n a = .error q := by unfold pVil; exact pThen_err (pCell_1 h1)
theorem pVil_2 (h1 : pNum t n 0 7 a = .ok ((x : Int), e1)) (h2 : pNum t n 0 5 e1 = .error q) : pVil t n a = .error q := by unfold pVil; exact pThen_err (pCell_2 h1 h2)
theorem pVil_3 (h1 : pNum t n 0 7 a = .ok ((x : Int), e1)) (h2 : pNum t n 0 5 e1 = .ok ((y : Int), e2)) (h3 : pNum t n 1 99 e2 = .error q) : pVil t n a = .error q := by unfold pVil; rw [pThen_ok (pCell_y h1 h2)]; exact pThen_err h3
theorem pVil_4 (h1 : pNum t n 0 7 a = .ok ((x : Int), e1)) (h2 : pNum t n 0 5 e1 = .ok ((y : Int), e2)) (h3 : pNum t n 1 99 e2 = .ok (w, e3)) (h4 : pSig t n e3 = .error q) : pVil t n a = .error q := by unfold pVil; rw [pThen_ok (pCell_y h1 h2), pThen_ok h3]; exact pThen_err h4
theorem pVil_5 (h1 : pNum t n 0 7 a = .ok ((x : Int), e1)) (h2 : pNum t n 0 5 e1 = .ok ((y : Int), e2)) (h3 : pNum t n 1 99 e2 = .ok (w, e3)) (h4 : pSig t n e3 = .ok (z, e4)) : pVil t n a = .ok ((((8 * y + x : Nat) : Int), w), e4) := by unfold pVil; rw [pThen_ok (pCell_y h1 h2), pThen_ok h3, pThen_ok h4]
theorem pGua_1 (h1 : pNum t n 0 7 a = .error q) : pGua t n a = .error q := by unfold pGua; exact pThen_err (pCell_1 h1)
theorem pGua_2 (h1 : pNum t n 0 7 a = .ok ((x : Int), e1)) (h2 : pNum t n 0 5 e1 = .error q) : pGua t n a = .error q := by unfold pGua; exact pThen_err (pCell_2 h1 h2)
theorem pGua_3 (h1 : pNum t n 0 7 a = .ok ((x : Int), e1)) (h2 : pNum t n 0 5 e1 = .ok ((y : Int), e2)) (h4 : pSig t n e2 = .error q) : pGua t n a = .error q := by unfold pGua; rw [pThen_ok (pCell_y h1 h2)]; exact pThen_err h4
theorem pGua_4 (h1 : pNum t n 0 7 a = .ok ((x : Int), e1)) (h2 : pNum t n 0 5 e1 = .ok ((y : Int), e2)) (h4 : pSig t n e2 = .ok (z, e3)) : pGua t n a = .ok (((8 * y + x : Nat) : Int), e3) := by unfold pGua; rw [pThen_ok (pCell_y h1 h2), pThen_ok h4]
theorem pPer_0 (h0 : kdT t n a = 0) : pPer t n a = .error (1, skT t n a) := by unfold pPer; rw [if_pos h0]
theorem pPer_1 (h0 : kdT t n a ≠ 0) (h1 : pNum t n 0 1 (tokE t n a) = .error q) : pPer t n a = .error q := by unfold pPer; rw [if_neg h0]; exact pThen_err h1
theorem pPer_2 (h0 : kdT t n a ≠ 0) (h1 : pNum t n 0 1 (tokE t n a) = .ok (ld, e1)) (h2 : pNum t n 0 7 e1 = .error q) : pPer t n a = .error q := by unfold pPer; rw [if_neg h0, pThen_ok h1]; exact pThen_err (pCell_1 h2)
theorem pPer_3 (h0 : kdT t n a ≠ 0) (h1 : pNum t n 0 1 (tokE t n a) = .ok (ld, e1)) (h2 : pNum t n 0 7 e1 = .ok ((x : Int), e2)) (h3 : pNum t n 0 5 e2 = .error q) : pPer t n a = .error q := by unfold pPer; rw [if_neg h0, pThen_ok h1]; exact pThen_err (pCell_2 h2 h3)
theorem pPer_4 (h0 : kdT t n a ≠ 0) (h1 : pNum t n 0 1 (tokE t n a) = .ok (ld, e1)) (h2 : pNum t n 0 7 e1 = .ok ((x : Int), e2)) (h3 : pNum t n 0 5 e2 = .ok ((y : Int), e3)) (h4 : pNum t n 0 13 e3 = .error q) : pPer t n a = .error q := by unfold pPer; rw [if_neg h0, pThen_ok h1, pThen_ok (pCell_y h2 h3)]; exact pThen_err h4
theorem pPer_5 (h0 : kdT t n a ≠ 0) (h1 : pNum t n 0 1 (tokE t n a) = .ok (ld, e1)) (h2 : pNum t n 0 7 e1 = .ok ((x : Int), e2)) (h3 : pNum t n 0 5 e2 = .ok ((y : Int), e3)) (h4 : pNum t n 0 13 e3 = .ok (m, e4)) (h5 : pSig t n e4 = .error q) : pPer t n a = .error q := by unfold pPer; rw [if_neg h0, pThen_ok h1, pThen_ok (pCell_y h2 h3), pThen_ok h4]; exact pThen_err h5
theorem pPer_6 (h0 : kdT t n a ≠ 0) (h1 : pNum t n 0 1 (tokE t n a) = .ok (ld, e1)) (h2 : pNum t n 0 7 e1 = .ok ((x : Int), e2)) (h3 : pNum t n 0 5 e2 = .ok ((y : Int), e3)) (h4 : pNum t n 0 13 e3 = .ok (m, e4)) (h5 : pSig t n e4 = .ok (z, e5)) : pPer t n a = .ok ((kdT t n a, ld, ((8 * y + x : Nat) : Int), m), e5) := by unfold pPer; rw [if_neg h0, pThen_ok h1, pThen_ok (pCell_y h2 h3), pThen_ok h4, pThen_ok h5]
theorem pPost_e0 (h : ¬ (tokK t n 0 = 1 ∧ tokV t n 0 = 17288851)) : pAll t n = .error (1, skT t n 0) := by unfold pAll pPost; rw [if_neg h]
theorem pPost_e1 (h : tokK t n 0 = 1 ∧ tokV t n 0 = 17288851) (h1 : pNum t n 0 5 (tokE t n 0) = .error q) : pAll t n = .error q := by unfold pAll pPost; rw [if_pos h, pThen_err h1]
theorem pPost_e2 (h : tokK t n 0 = 1 ∧ tokV t n 0 = 17288851) (h1 : pNum t n 0 5 (tokE t n 0) = .ok (w, e1)) (h2 : pNum t n 0 5 e1 = .error q) : pAll t n = .error q := by unfold pAll pPost; rw [if_pos h, pThen_ok h1, pThen_err h2]
theorem pPost_e3 (h : tokK t n 0 = 1 ∧ tokV t n 0 = 17288851) (h1 : pNum t n 0 5 (tokE t n 0) = .ok (w, e1)) (h2 : pNum t n 0 5 e1 = .ok (ld, e2)) (h3 : pNum t n 1 6 e2 = .error q) : pAll t n = .error q := by unfold pAll pPost; rw [if_pos h, pThen_ok h1, pThen_ok h2, pThen_err h3]
theorem pPost_e4 (h : tokK t n 0 = 1 ∧ tokV t n 0 = 17288851) (h1 : pNum t n 0 5 (tokE t n 0) = .ok (w, e1)) (h2 : pNum t n 0 5 e1 = .ok (ld, e2)) (h3 : pNum t n 1 6 e2 = .ok (m, e3)) (h4 : pSig t n e3 = .error q) : pAll t n = .error q := by unfold pAll pPost; rw [if_pos h, pThen_ok h1, pThen_ok h2, pThen_ok h3, pThen_err h4]
theorem pPost_o (h : tokK t n 0 = 1 ∧ tokV t n 0 = 17288851) (h1 : pNum t n 0 5 (tokE t n 0) = .ok (w, e1)) (h2 : pNum t n 0 5 e1 = .ok (ld, e2)) (h3 : pNum t n 1 6 e2 = .ok (m, e3)) (h4 : pSig t n e3 = .ok (z, e4)) : pAll t n = pLoop t n (n + 1) 1 (postR w ld m) 0 e4 := by unfold pAll pPost; rw [if_pos h, pThen_ok h1, pThen_ok h2, pThen_ok h3, pThen_ok h4]
end
theorem vilR_3 (r : Nat → Int) (c w : Int) : vilR r c w 3 = r 3 + 1 := by unfold vilR; rw [va_up_self]
theorem vilR_4 (r : Nat → Int) (c w : Int) : vilR r c w 4 = r 4 := by unfold vilR; rw [va_up_ne _ _ (by omega), va_up_ne _ _ (by omega)]
theorem guaR_4 (r : Nat → Int) (c : Int) : guaR r c 4 = r 4 := by unfold guaR; rw [va_up_ne _ _ (by omega)]
theorem postR_34 (w e k : Int) : postR w e k 3 = 0 ∧ postR w e k 4 = 0 := by
  unfold postR
  rw [va_up_ne _ _ (by omega), va_up_ne _ _ (by omega), va_up_ne _ _ (by omega), va_up_ne _ _ (by omega), va_up_ne _ _ (by omega), va_up_ne _ _ (by omega)]
  exact ⟨rfl, rfl⟩
theorem isW_kds {t : Nat → Int} {n a : Nat} (ha : a ≤ n) : (isW t n a 4 → kdT t n a = 1) ∧ (isW t n a 5 → kdT t n a = 2) ∧ (isW t n a 6 → kdT t n a = 3) ∧ (isW t n a 7 → kdT t n a = 4) ∧ (isW t n a 8 → kdT t n a = 5) ∧ (¬ isW t n a 4 → ¬ isW t n a 5 → ¬ isW t n a 6 → ¬ isW t n a 7 → ¬ isW t n a 8 → kdT t n a = 0) := by
  rw [isW_4 ha, isW_5 ha, isW_6 ha, isW_7 ha, isW_8 ha]
  unfold kdT
  by_cases h : tokK t n a = 1
  · rw [if_pos h]
    refine ⟨?_, ?_, ?_, ?_, ?_, ?_⟩ <;> intros <;> (repeat' split) <;> simp_all
  · rw [if_neg h]
    refine ⟨fun q => absurd q.1 h, fun q => absurd q.1 h, fun q => absurd q.1 h, fun q => absurd q.1 h, fun q => absurd q.1 h, fun _ _ _ _ _ => rfl⟩
theorem byt_c (w : Int64) (k : Nat) : (w >>> ((zI ((8 * k : Nat) : Int)).toInt64 &&& 63)).toInt32 &&& zI 255 = zI (bytW w k) := by
  unfold bytW
  rw [zI_self, Int64.toInt32_and]
  rfl

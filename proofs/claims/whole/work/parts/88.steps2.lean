theorem narA_cg {a b w : Int} (h : a = b) : narA a w = narA b w := by rw [h]
theorem st_set {E : XE} {B N : Nat} {v : Nat → va_E} {r : Int} {i : Int} {w : Int} (h : REL E B N v) (r_r : (-2147483648 ≤ r ∧ r ≤ 2147483647)) (r_i : (-2147483648 ≤ i ∧ i ≤ 2147483647)) (r_w : (-2147483648 ≤ w ∧ w ≤ 2147483647)) : gM yX11_set wsX11_set ({ frames := 1, cells := 0, slots := 0, locals := 22 }) E B N v [.ref (B + 0), .int (zI r), .int (zI i), .int (zI w)] (PB E B yX12_set wsX12_set ({ frames := 2, cells := 0, slots := 0, locals := 45 }) [.ref (B + 161), .int (zI r), .int (zI i), .int (zI w)]) := by
  obtain ⟨cu, old, kept, fau, fin, F, V, p, l, h⟩ := h
  obtain ⟨hN, ho, hm, hrw, htp, htr, hln, hno, hac, hgr, him, hsc, hkf, hkl⟩ := id h
  obtain ⟨la, sz, it, la2, sz2, it2, hC, c2, c3, c4, hA⟩ := hrw
  obtain ⟨j, hj, hci, hri⟩ := rowI r
  have hA1 := hA j hj
  refine gM_mono (c_X11_set (c := 15 + 2 * j) (g := it j) ho hC.1 (hC.2 j hj).1 (hC.2 j hj).2 hci.symm r_r r_i r_w hA1.1 hA1.2.1) ?_
  rintro ρ N1 v1 ⟨rfl, res, fin2, g, hc, rfl, rfl⟩ -
  refine ⟨res, rfl, ⟨F, V, (cel_fr hm (Nat.le_refl _) (by (repeat (first | rw [va_up_self] | rw [va_up_ne _ _ (by omega)])); all_goals rfl))⟩, ?_⟩
  refine gM_mono (c_X12_set (cel_fr hm (Nat.le_refl _) (by (repeat (first | rw [va_up_self] | rw [va_up_ne _ _ (by omega)])); all_goals rfl)) (cel_fr c2 (Nat.le_refl _) (by (repeat (first | rw [va_up_self] | rw [va_up_ne _ _ (by omega)])); all_goals rfl)) (cel_fr c3 (Nat.le_refl _) (by (repeat (first | rw [va_up_self] | rw [va_up_ne _ _ (by omega)])); all_goals rfl)) (cel_fr c4 (Nat.le_refl _) (by (repeat (first | rw [va_up_self] | rw [va_up_ne _ _ (by omega)])); all_goals rfl)) r_r r_i r_w (fun k hk => (hA k hk).2.2.2.1) (fun k hk => (hA k hk).2.2.1)) ?_
  rintro ρ2 N2 v2 ⟨rfl, res2, F2, it3, hc2, rfl, rfl⟩ -
  have key : res2 = res ∧ sF F F2 fin2 ∧ RwA (va_up la j (la j)) (va_up sz j (sz j)) (va_up it j g) la2 sz2 it3 := by
    by_cases hr : 0 ≤ r ∧ r ≤ 7
    · have hr2 := hri hr
      subst hr2
      rw [Int.toNat_natCast] at hc2
      obtain ⟨k1, k2, k3, k4, k5, k6⟩ := id hA1
      have k5a := k5.1
      have k5b := k5.2
      by_cases hl : la j = -1
      · have hs := k5b hl
        rcases hc with ⟨q, _⟩ | ⟨q, w1, e, ef, eg⟩ | ⟨q, w1, _⟩ | ⟨q, w1, _⟩
        · omega
        · rcases hc2 with ⟨q2, _⟩ | ⟨q2, e2, eF, fg⟩ | ⟨q2, _⟩ | ⟨q2, _⟩
          · omega
          · exact ⟨e2.trans e.symm, by rw [ef, eF]; exact sF_up F _, by rw [eg, fg]; exact RwA_no hj hA⟩
          · omega
          · omega
        · omega
        · omega
      · obtain ⟨e1, e2, e3⟩ := k6 hl
        clear k6 k5
        rcases hc with ⟨q, _⟩ | ⟨q, w1, _⟩ | ⟨q, w1, w2, e, ef, eg⟩ | ⟨q, w1, w2, e, ef, eg⟩
        · omega
        · omega
        · rcases hc2 with ⟨q2, _⟩ | ⟨q2, _⟩ | ⟨q2, e2, eF, fg⟩ | ⟨q2, _⟩
          · omega
          · omega
          · exact ⟨e2.trans e.symm, by rw [ef, eF]; exact sF_up F _, by rw [eg, fg]; exact RwA_no hj hA⟩
          · omega
        · rcases hc2 with ⟨q2, _⟩ | ⟨q2, _⟩ | ⟨q2, _⟩ | ⟨q2, f2, eF, fg⟩
          · omega
          · omega
          · omega
          · rw [e1] at f2 fg
            refine ⟨f2.trans e.symm, by rw [ef, eF]; exact sF_up F _, ?_⟩
            refine RwA_up hA ⟨k1, k2, k3, k4, ⟨k5a, k5b⟩, fun _ => ⟨e1, e2, fun k hk => ?_⟩⟩ (fun z hz hne => ⟨rfl, rfl, fun k hk => ?_⟩)
            · rw [eg, fg]
              by_cases hk2 : k = i.toNat
              · rw [hk2, va_up_self, va_up_self]
              · rw [va_up_ne _ _ hk2, va_up_ne _ _ (by omega)]
                exact e3 k hk
            · rw [fg, va_up_ne _ _ (by omega)]
    · rcases hc with ⟨q, e, ef, eg⟩ | ⟨q, _⟩ | ⟨q, _⟩ | ⟨q, _⟩
      · rcases hc2 with ⟨q2, e2, eF, fg⟩ | ⟨q2, _⟩ | ⟨q2, _⟩ | ⟨q2, _⟩
        · exact ⟨e2.trans e.symm, by rw [ef, eF]; exact sF_no hkf.1, by rw [eg, fg]; exact RwA_no hj hA⟩
        · omega
        · omega
        · omega
      · omega
      · omega
      · omega
  clear hc hc2
  exact ⟨res_eq key.1, RELx_gen (fau2 := fau) (fin2 := fin2) (F2 := F2) (V2 := V) h (Nat.le_refl _) (fun k hk => (by (repeat (first | rw [va_up_self] | rw [va_up_ne _ _ (by omega)])); all_goals rfl)) (GK_hi (Nat.le_refl _) (fun k h1 h2 => (by (repeat (first | rw [va_up_self] | rw [va_up_ne _ _ (by omega)])); all_goals rfl))) ⟨(ho).1, (by (repeat (first | rw [va_up_self] | rw [va_up_ne _ _ (by omega)])); all_goals rfl)⟩ ⟨(hm).1, (by (repeat (first | rw [va_up_self] | rw [va_up_ne _ _ (by omega)])); all_goals rfl)⟩ ⟨_, _, _, la2, sz2, it3, RwC_up hC hj (cel_fr (hC.2 j hj).1 (Nat.le_refl _) (by (repeat (first | rw [va_up_self] | rw [va_up_ne _ _ (by omega)])); all_goals rfl)) ⟨((hC.2 j hj).2).1, (by (repeat (first | rw [va_up_self] | rw [va_up_ne _ _ (by omega)])); all_goals rfl)⟩ (fun k hk h1 h2 => (by (repeat (first | rw [va_up_self] | rw [va_up_ne _ _ (by omega)])); all_goals rfl)), (cel_fr c2 (Nat.le_refl _) (by (repeat (first | rw [va_up_self] | rw [va_up_ne _ _ (by omega)])); all_goals rfl)), (cel_fr c3 (Nat.le_refl _) (by (repeat (first | rw [va_up_self] | rw [va_up_ne _ _ (by omega)])); all_goals rfl)), ⟨(c4).1, (by (repeat (first | rw [va_up_self] | rw [va_up_ne _ _ (by omega)])); all_goals rfl)⟩, key.2.2⟩ (by rw [key.2.1.2.1]; exact Tp_fr htp (Nat.le_refl _) (fun k hk => (by (repeat (first | rw [va_up_self] | rw [va_up_ne _ _ (by omega)])); all_goals rfl))) (by rw [key.2.1.2.2.2.2.2]; exact Tr_fr htr (Nat.le_refl _) (fun k hk => (by (repeat (first | rw [va_up_self] | rw [va_up_ne _ _ (by omega)])); all_goals rfl))) (Sc_fr hsc (Nat.le_refl _) (fun k hk => (by (repeat (first | rw [va_up_self] | rw [va_up_ne _ _ (by omega)])); all_goals rfl))) ⟨key.2.1.1, key.2.1.2.2.1.trans hkf.2.1, key.2.1.2.2.2.1, key.2.1.2.2.2.2.1⟩⟩
theorem st_drop {E : XE} {B N : Nat} {v : Nat → va_E} {r : Int} (h : REL E B N v) (r_r : (-2147483648 ≤ r ∧ r ≤ 2147483647)) : gM yX11_drop wsX11_drop ({ frames := 1, cells := 0, slots := 0, locals := 21 }) E B N v [.ref (B + 0), .int (zI r)] (PB E B yX12_drop wsX12_drop ({ frames := 2, cells := 0, slots := 0, locals := 45 }) [.ref (B + 161), .int (zI r)]) := by
  obtain ⟨cu, old, kept, fau, fin, F, V, p, l, h⟩ := h
  obtain ⟨hN, ho, hm, hrw, htp, htr, hln, hno, hac, hgr, him, hsc, hkf, hkl⟩ := id h
  obtain ⟨la, sz, it, la2, sz2, it2, hC, c2, c3, c4, hA⟩ := hrw
  obtain ⟨j, hj, hci, hri⟩ := rowI r
  have hA1 := hA j hj
  refine gM_mono (c_X11_drop (c := 15 + 2 * j) (g := it j) ho hC.1 (hC.2 j hj).1 hci.symm r_r (by have := hA1.1; omega) (by have := hA1.2.1; omega)) ?_
  rintro ρ N1 v1 ⟨rfl, res, fin2, a, hc, rfl, rfl⟩ -
  refine ⟨res, rfl, ⟨F, V, (cel_fr hm (Nat.le_refl _) (by (repeat (first | rw [va_up_self] | rw [va_up_ne _ _ (by omega)])); all_goals rfl))⟩, ?_⟩
  refine gM_mono (c_X12_drop (cel_fr hm (Nat.le_refl _) (by (repeat (first | rw [va_up_self] | rw [va_up_ne _ _ (by omega)])); all_goals rfl)) (cel_fr c3 (Nat.le_refl _) (by (repeat (first | rw [va_up_self] | rw [va_up_ne _ _ (by omega)])); all_goals rfl)) r_r (fun k hk => (hA k hk).2.2.2.1)) ?_
  rintro ρ2 N2 v2 ⟨rfl, res2, F2, sz3, hc2, rfl, rfl⟩ -
  have key : res2 = res ∧ sF F F2 fin2 ∧ RwA (va_up la j a) (va_up sz j (sz j)) (va_up it j (it j)) la2 sz3 it2 := by
    by_cases hr : 0 ≤ r ∧ r ≤ 7
    · have hr2 := hri hr
      subst hr2
      rw [Int.toNat_natCast] at hc2
      obtain ⟨k1, k2, k3, k4, k5, k6⟩ := id hA1
      have k5a := k5.1
      have k5b := k5.2
      by_cases hl : la j = -1
      · have hs := k5b hl
        rcases hc with ⟨q, _⟩ | ⟨q, w1, e, ef, eg⟩ | ⟨q, w1, _⟩
        · omega
        · rcases hc2 with ⟨q2, _⟩ | ⟨q2, e2, eF, fg⟩ | ⟨q2, _⟩
          · omega
          · exact ⟨e2.trans e.symm, by rw [ef, eF]; exact sF_up F _, by rw [eg, fg]; exact RwA_no hj hA⟩
          · omega
        · omega
      · obtain ⟨e1, e2, e3⟩ := k6 hl
        clear k6 k5
        rcases hc with ⟨q, _⟩ | ⟨q, w1, _⟩ | ⟨q, w1, e, ef, eg⟩
        · omega
        · omega
        · rcases hc2 with ⟨q2, _⟩ | ⟨q2, _⟩ | ⟨q2, f2, eF, fg⟩
          · omega
          · omega
          · refine ⟨by rw [f2, e, e2], by rw [ef, eF]; exact sF_up F _, ?_⟩
            subst eg; subst fg
            refine RwA_up hA ?_ (fun z hz hne => ⟨rfl, va_up_ne _ _ hne, fun k hk => rfl⟩)
            rw [va_up_self]
            exact ⟨by omega, k2, k3, by omega, by omega, fun z => absurd rfl z⟩
    · rcases hc with ⟨q, e, ef, eg⟩ | ⟨q, _⟩ | ⟨q, _⟩
      · rcases hc2 with ⟨q2, e2, eF, fg⟩ | ⟨q2, _⟩ | ⟨q2, _⟩
        · exact ⟨e2.trans e.symm, by rw [ef, eF]; exact sF_no hkf.1, by rw [eg, fg]; exact RwA_no hj hA⟩
        · omega
        · omega
      · omega
      · omega
  clear hc hc2
  exact ⟨res_eq key.1, RELx_gen (fau2 := fau) (fin2 := fin2) (F2 := F2) (V2 := V) h (Nat.le_refl _) (fun k hk => (by (repeat (first | rw [va_up_self] | rw [va_up_ne _ _ (by omega)])); all_goals rfl)) (GK_hi (Nat.le_refl _) (fun k h1 h2 => (by (repeat (first | rw [va_up_self] | rw [va_up_ne _ _ (by omega)])); all_goals rfl))) ⟨(ho).1, (by (repeat (first | rw [va_up_self] | rw [va_up_ne _ _ (by omega)])); all_goals rfl)⟩ ⟨(hm).1, (by (repeat (first | rw [va_up_self] | rw [va_up_ne _ _ (by omega)])); all_goals rfl)⟩ ⟨_, _, _, la2, sz3, it2, RwC_up hC hj ⟨((hC.2 j hj).1).1, (by (repeat (first | rw [va_up_self] | rw [va_up_ne _ _ (by omega)])); all_goals rfl)⟩ (cel_fr (hC.2 j hj).2 (Nat.le_refl _) (by (repeat (first | rw [va_up_self] | rw [va_up_ne _ _ (by omega)])); all_goals rfl)) (fun k hk h1 h2 => (by (repeat (first | rw [va_up_self] | rw [va_up_ne _ _ (by omega)])); all_goals rfl)), (cel_fr c2 (Nat.le_refl _) (by (repeat (first | rw [va_up_self] | rw [va_up_ne _ _ (by omega)])); all_goals rfl)), ⟨(c3).1, (by (repeat (first | rw [va_up_self] | rw [va_up_ne _ _ (by omega)])); all_goals rfl)⟩, (cel_fr c4 (Nat.le_refl _) (by (repeat (first | rw [va_up_self] | rw [va_up_ne _ _ (by omega)])); all_goals rfl)), key.2.2⟩ (by rw [key.2.1.2.1]; exact Tp_fr htp (Nat.le_refl _) (fun k hk => (by (repeat (first | rw [va_up_self] | rw [va_up_ne _ _ (by omega)])); all_goals rfl))) (by rw [key.2.1.2.2.2.2.2]; exact Tr_fr htr (Nat.le_refl _) (fun k hk => (by (repeat (first | rw [va_up_self] | rw [va_up_ne _ _ (by omega)])); all_goals rfl))) (Sc_fr hsc (Nat.le_refl _) (fun k hk => (by (repeat (first | rw [va_up_self] | rw [va_up_ne _ _ (by omega)])); all_goals rfl))) ⟨key.2.1.1, key.2.1.2.2.1.trans hkf.2.1, key.2.1.2.2.2.1, key.2.1.2.2.2.2.1⟩⟩
/-- the class's copy, between two rows or in one -/
theorem a_copy {E : XE} {B N : Nat} {v : Nat → va_E} {cu : Option Nat} {old kept : Nat} {fau fin : Int} {la sz : Nat → Int} {it : Nat → Nat → Int} {a b i j n : Int} {p q : Nat} (ho : Cel N v 0 (oX B cu old kept fau fin)) (hC : RwC E B N v la sz it) (hl : ∀ k, k < 8 → -1 ≤ la k ∧ la k ≤ 2) (hs : ∀ k, k < 8 → 0 ≤ sz k ∧ sz k ≤ 40) (hp : p < 8) (hq : q < 8) (ea : 15 + 2 * p = rowC a) (eb : 15 + 2 * q = rowC b) (r_a : (-2147483648 ≤ a ∧ a ≤ 2147483647)) (r_i : (-2147483648 ≤ i ∧ i ≤ 2147483647)) (r_b : (-2147483648 ≤ b ∧ b ≤ 2147483647)) (r_j : (-2147483648 ≤ j ∧ j ≤ 2147483647)) (r_n : (-2147483648 ≤ n ∧ n ≤ 2147483647)) : gM yX11_copy wsX11_copy ({ frames := 1, cells := 0, slots := 0, locals := 40 }) E B N v [.ref (B + 0), .int (zI a), .int (zI i), .int (zI b), .int (zI j), .int (zI n)] (po0 N (fun ρ v' => ∃ (res : Int), ∃ (fin2 : Int), ∃ (h2 : Nat → Int), ((¬ ((0 ≤ a ∧ a ≤ 7) ∧ (0 ≤ b ∧ b ≤ 7)) ∧ res = -1000001 ∧ fin2 = fin ∧ h2 = it q) ∨ (((0 ≤ a ∧ a ≤ 7) ∧ (0 ≤ b ∧ b ≤ 7)) ∧ (la p = -1 ∨ la q = -1) ∧ res = -1000011 ∧ fin2 = 1 ∧ h2 = it q) ∨ (((0 ≤ a ∧ a ≤ 7) ∧ (0 ≤ b ∧ b ≤ 7)) ∧ la p ≠ -1 ∧ la q ≠ -1 ∧ la p ≠ la q ∧ res = -1000015 ∧ fin2 = 5 ∧ h2 = it q) ∨ (((0 ≤ a ∧ a ≤ 7) ∧ (0 ≤ b ∧ b ≤ 7)) ∧ la p ≠ -1 ∧ la q ≠ -1 ∧ la p = la q ∧ ¬ ((0 ≤ i ∧ 0 ≤ n ∧ i + n ≤ sz p) ∧ (0 ≤ j ∧ 0 ≤ n ∧ j + n ≤ sz q)) ∧ res = -1000012 ∧ fin2 = 2 ∧ h2 = it q) ∨ (((0 ≤ a ∧ a ≤ 7) ∧ (0 ≤ b ∧ b ≤ 7)) ∧ la p ≠ -1 ∧ la q ≠ -1 ∧ la p = la q ∧ (0 ≤ i ∧ 0 ≤ n ∧ i + n ≤ sz p) ∧ (0 ≤ j ∧ 0 ≤ n ∧ j + n ≤ sz q) ∧ res = n ∧ fin2 = 0 ∧ h2 = cpI (it p) (it q) i.toNat j.toNat n.toNat)) ∧ ρ = some (.int (zI res)) ∧ (va_up (va_up v 0 (oX B cu old kept fau fin2)) (15 + 2 * q + 1) (iarr E 40 h2)) = v')) := by
  by_cases hpq : p = q
  · subst hpq
    exact c_X11_copy_s ho hC.1 (hC.2 p hp).1 (hC.2 p hp).2 ea eb (hl p hp) (hs p hp) r_a r_i r_b r_j r_n
  · exact c_X11_copy_d ho hC.1 (hC.2 p hp).1 (hC.2 p hp).2 (hC.2 q hq).1 (hC.2 q hq).2 ea eb (by omega) (hl p hp) (hl q hq) (hs p hp) (hs q hq) r_a r_i r_b r_j r_n
theorem st_copy {E : XE} {B N : Nat} {v : Nat → va_E} {a : Int} {i : Int} {b : Int} {j : Int} {n : Int} (h : REL E B N v) (r_a : (-2147483648 ≤ a ∧ a ≤ 2147483647)) (r_i : (-2147483648 ≤ i ∧ i ≤ 2147483647)) (r_b : (-2147483648 ≤ b ∧ b ≤ 2147483647)) (r_j : (-2147483648 ≤ j ∧ j ≤ 2147483647)) (r_n : (-2147483648 ≤ n ∧ n ≤ 2147483647)) : gM yX11_copy wsX11_copy ({ frames := 1, cells := 0, slots := 0, locals := 40 }) E B N v [.ref (B + 0), .int (zI a), .int (zI i), .int (zI b), .int (zI j), .int (zI n)] (PB E B yX12_copy wsX12_copy ({ frames := 2, cells := 0, slots := 0, locals := 45 }) [.ref (B + 161), .int (zI a), .int (zI i), .int (zI b), .int (zI j), .int (zI n)]) := by
  obtain ⟨cu, old, kept, fau, fin, F, V, p, l, h⟩ := h
  obtain ⟨hN, ho, hm, hrw, htp, htr, hln, hno, hac, hgr, him, hsc, hkf, hkl⟩ := id h
  obtain ⟨la, sz, it, la2, sz2, it2, hC, c2, c3, c4, hA⟩ := hrw
  obtain ⟨p9, hp9, hca, hra⟩ := rowI a
  obtain ⟨q9, hq9, hcb, hrb⟩ := rowI b
  have hAp := hA p9 hp9
  have hAq := hA q9 hq9
  refine gM_mono (a_copy ho hC (fun k hk => (hA k hk).1) (fun k hk => (hA k hk).2.1) hp9 hq9 hca.symm hcb.symm r_a r_i r_b r_j r_n) ?_
  rintro ρ N1 v1 ⟨rfl, res, fin2, g, hc, rfl, rfl⟩ -
  refine ⟨res, rfl, ⟨F, V, (cel_fr hm (Nat.le_refl _) (by (repeat (first | rw [va_up_self] | rw [va_up_ne _ _ (by omega)])); all_goals rfl))⟩, ?_⟩
  refine gM_mono (c_X12_copy (cel_fr hm (Nat.le_refl _) (by (repeat (first | rw [va_up_self] | rw [va_up_ne _ _ (by omega)])); all_goals rfl)) (cel_fr c2 (Nat.le_refl _) (by (repeat (first | rw [va_up_self] | rw [va_up_ne _ _ (by omega)])); all_goals rfl)) (cel_fr c3 (Nat.le_refl _) (by (repeat (first | rw [va_up_self] | rw [va_up_ne _ _ (by omega)])); all_goals rfl)) (cel_fr c4 (Nat.le_refl _) (by (repeat (first | rw [va_up_self] | rw [va_up_ne _ _ (by omega)])); all_goals rfl)) r_a r_i r_b r_j r_n (fun k hk => (hA k hk).2.2.2.1) (fun k hk => (hA k hk).2.2.1)) ?_
  rintro ρ2 N2 v2 ⟨rfl, res2, F2, it3, hc2, rfl, rfl⟩ -
  have key : res2 = res ∧ sF F F2 fin2 ∧ RwA (va_up la q9 (la q9)) (va_up sz q9 (sz q9)) (va_up it q9 g) la2 sz2 it3 := by
    by_cases hr : (0 ≤ a ∧ a ≤ 7) ∧ (0 ≤ b ∧ b ≤ 7)
    · have hr2 := hra hr.1
      have hr3 := hrb hr.2
      subst hr2; subst hr3
      rw [Int.toNat_natCast, Int.toNat_natCast] at hc2
      have kp := hAp.2.2.2.2.1
      have kq := hAq.2.2.2.2.1
      have up := hAp.2.2.2.2.2
      have uq := hAq.2.2.2.2.2
      have zp := hAp.2.1
      have zq := hAq.2.1
      have NOK : ∀ x, g = it q9 → it3 = it2 → res = x → res2 = x → fin2 = 1 ∧ F2 = va_up F 3 1 ∨ fin2 = 5 ∧ F2 = va_up F 3 5 ∨ fin2 = 2 ∧ F2 = va_up F 3 2 → res2 = res ∧ sF F F2 fin2 ∧ RwA (va_up la q9 (la q9)) (va_up sz q9 (sz q9)) (va_up it q9 g) la2 sz2 it3 := fun x eg fg e1 e2 eF => by
        refine ⟨e2.trans e1.symm, ?_, by rw [eg, fg]; exact RwA_no hq9 hA⟩
        rcases eF with ⟨e3, e4⟩ | ⟨e3, e4⟩ | ⟨e3, e4⟩ <;> (rw [e3, e4]; exact sF_up F _)
      by_cases hl : la p9 = -1 ∨ la q9 = -1
      · have hs : ¬ (0 ≤ sz2 p9 ∧ 0 ≤ sz2 q9) := by
          rcases hl with hl | hl
          · have := kp.mpr hl; omega
          · have := kq.mpr hl; omega
        rcases hc with ⟨q, _⟩ | ⟨q, w1, e, ef, eg⟩ | ⟨q, w1, w2, _⟩ | ⟨q, w1, w2, _⟩ | ⟨q, w1, w2, _⟩
        · exact absurd hr q
        · rcases hc2 with ⟨q2, _⟩ | ⟨q2, w3, e2, eF, fg⟩ | ⟨q2, w3, _⟩ | ⟨q2, w3, _⟩ | ⟨q2, w3, _⟩
          · exact absurd ⟨hr.1.1, hr.1.2, hr.2.1, hr.2.2⟩ q2
          · exact NOK _ eg fg e e2 (Or.inl ⟨ef, eF⟩)
          · exact absurd w3 hs
          · exact absurd w3 hs
          · exact absurd w3 hs
        · rcases hl with hl | hl
          · exact absurd hl w1
          · exact absurd hl w2
        · rcases hl with hl | hl
          · exact absurd hl w1
          · exact absurd hl w2
        · rcases hl with hl | hl
          · exact absurd hl w1
          · exact absurd hl w2
      · have hlp : la p9 ≠ -1 := fun z => hl (Or.inl z)
        have hlq : la q9 ≠ -1 := fun z => hl (Or.inr z)
        obtain ⟨ap, bp, cp⟩ := up hlp
        obtain ⟨aq, bq, cq⟩ := uq hlq
        have hs : 0 ≤ sz2 p9 ∧ 0 ≤ sz2 q9 := by omega
        clear up uq kp kq
        rw [ap, aq, bp, bq] at hc2
        rw [bp, bq] at hs
        rcases hc with ⟨q, _⟩ | ⟨q, w1, _⟩ | ⟨q, w1, w2, w4, e, ef, eg⟩ | ⟨q, w1, w2, w4, w5, e, ef, eg⟩ | ⟨q, w1, w2, w4, w5, w6, e, ef, eg⟩
        · exact absurd hr q
        · exact absurd w1 hl
        · rcases hc2 with ⟨q2, _⟩ | ⟨q2, w3, _⟩ | ⟨q2, w3, u4, e2, eF, fg⟩ | ⟨q2, w3, u4, _⟩ | ⟨q2, w3, u4, _⟩
          · exact absurd ⟨hr.1.1, hr.1.2, hr.2.1, hr.2.2⟩ q2
          · exact absurd hs w3
          · exact NOK _ eg fg e e2 (Or.inr (Or.inl ⟨ef, eF⟩))
          · exact absurd u4 w4
          · exact absurd u4 w4
        · rcases hc2 with ⟨q2, _⟩ | ⟨q2, w3, _⟩ | ⟨q2, w3, u4, _⟩ | ⟨q2, w3, u4, u5, e2, eF, fg⟩ | ⟨q2, w3, u4, u5, _⟩
          · exact absurd ⟨hr.1.1, hr.1.2, hr.2.1, hr.2.2⟩ q2
          · exact absurd hs w3
          · exact absurd w4 u4
          · exact NOK _ eg fg e e2 (Or.inr (Or.inr ⟨ef, eF⟩))
          · exact absurd ⟨⟨u5.1, u5.2.2.1, u5.2.2.2.1⟩, u5.2.1, u5.2.2.1, u5.2.2.2.2⟩ w5
        · rcases hc2 with ⟨q2, _⟩ | ⟨q2, w3, _⟩ | ⟨q2, w3, u4, _⟩ | ⟨q2, w3, u4, u5, _⟩ | ⟨q2, w3, u4, u5, e2, eF, fg⟩
          · exact absurd ⟨hr.1.1, hr.1.2, hr.2.1, hr.2.2⟩ q2
          · exact absurd hs w3
          · exact absurd w4 u4
          · exact absurd ⟨w5.1, w6.1, w5.2.1, w5.2.2, w6.2.2⟩ u5
          · refine ⟨e2.trans e.symm, by rw [ef, eF]; exact sF_up F _, ?_⟩
            have hq' := hAq
            obtain ⟨k1, k2, k3, k4, k5, k6⟩ := hq'
            clear k5 k6
            refine RwA_up hA ⟨k1, k2, k3, k4, hAq.2.2.2.2.1, fun _ => ⟨aq, bq, fun k hk => ?_⟩⟩ (fun z hz hne => ⟨rfl, rfl, fun k hk => ?_⟩)
            · rw [eg, fg]
              unfold cpI
              by_cases hk2 : j.toNat ≤ k ∧ k < j.toNat + n.toNat
              · rw [if_pos hk2, if_pos (by omega), show 40 * p9 + i.toNat + (40 * q9 + k - (40 * q9 + j.toNat)) = 40 * p9 + (i.toNat + (k - j.toNat)) by omega]
                exact cp _ (by omega)
              · rw [if_neg hk2, if_neg (by omega)]
                exact cq k hk
            · rw [fg]
              unfold cpI
              rw [if_neg (by omega)]
    · rcases hc with ⟨q, e, ef, eg⟩ | ⟨q, _⟩ | ⟨q, _⟩ | ⟨q, _⟩ | ⟨q, _⟩
      · rcases hc2 with ⟨q2, e2, eF, fg⟩ | ⟨q2, _⟩ | ⟨q2, _⟩ | ⟨q2, _⟩ | ⟨q2, _⟩
        · exact ⟨e2.trans e.symm, by rw [ef, eF]; exact sF_no hkf.1, by rw [eg, fg]; exact RwA_no hq9 hA⟩
        · exact absurd ⟨⟨q2.1, q2.2.1⟩, q2.2.2⟩ hr
        · exact absurd ⟨⟨q2.1, q2.2.1⟩, q2.2.2⟩ hr
        · exact absurd ⟨⟨q2.1, q2.2.1⟩, q2.2.2⟩ hr
        · exact absurd ⟨⟨q2.1, q2.2.1⟩, q2.2.2⟩ hr
      · exact absurd q hr
      · exact absurd q hr
      · exact absurd q hr
      · exact absurd q hr
  clear hc hc2
  exact ⟨res_eq key.1, RELx_gen (fau2 := fau) (fin2 := fin2) (F2 := F2) (V2 := V) h (Nat.le_refl _) (fun k hk => (by (repeat (first | rw [va_up_self] | rw [va_up_ne _ _ (by omega)])); all_goals rfl)) (GK_hi (Nat.le_refl _) (fun k h1 h2 => (by (repeat (first | rw [va_up_self] | rw [va_up_ne _ _ (by omega)])); all_goals rfl))) ⟨(ho).1, (by (repeat (first | rw [va_up_self] | rw [va_up_ne _ _ (by omega)])); all_goals rfl)⟩ ⟨(hm).1, (by (repeat (first | rw [va_up_self] | rw [va_up_ne _ _ (by omega)])); all_goals rfl)⟩ ⟨_, _, _, la2, sz2, it3, RwC_up hC hq9 (cel_fr (hC.2 q9 hq9).1 (Nat.le_refl _) (by (repeat (first | rw [va_up_self] | rw [va_up_ne _ _ (by omega)])); all_goals rfl)) ⟨((hC.2 q9 hq9).2).1, (by (repeat (first | rw [va_up_self] | rw [va_up_ne _ _ (by omega)])); all_goals rfl)⟩ (fun k hk h1 h2 => (by (repeat (first | rw [va_up_self] | rw [va_up_ne _ _ (by omega)])); all_goals rfl)), (cel_fr c2 (Nat.le_refl _) (by (repeat (first | rw [va_up_self] | rw [va_up_ne _ _ (by omega)])); all_goals rfl)), (cel_fr c3 (Nat.le_refl _) (by (repeat (first | rw [va_up_self] | rw [va_up_ne _ _ (by omega)])); all_goals rfl)), ⟨(c4).1, (by (repeat (first | rw [va_up_self] | rw [va_up_ne _ _ (by omega)])); all_goals rfl)⟩, key.2.2⟩ (by rw [key.2.1.2.1]; exact Tp_fr htp (Nat.le_refl _) (fun k hk => (by (repeat (first | rw [va_up_self] | rw [va_up_ne _ _ (by omega)])); all_goals rfl))) (by rw [key.2.1.2.2.2.2.2]; exact Tr_fr htr (Nat.le_refl _) (fun k hk => (by (repeat (first | rw [va_up_self] | rw [va_up_ne _ _ (by omega)])); all_goals rfl))) (Sc_fr hsc (Nat.le_refl _) (fun k hk => (by (repeat (first | rw [va_up_self] | rw [va_up_ne _ _ (by omega)])); all_goals rfl))) ⟨key.2.1.1, key.2.1.2.2.1.trans hkf.2.1, key.2.1.2.2.2.1, key.2.1.2.2.2.2.1⟩⟩
theorem st_feed {E : XE} {B N : Nat} {v : Nat → va_E} {w : Int64} {n : Int} (h : REL E B N v) (r_n : (-2147483648 ≤ n ∧ n ≤ 2147483647)) : gM yX11_feed wsX11_feed ({ frames := 1, cells := 0, slots := 0, locals := 24 }) E B N v [.ref (B + 0), .long w, .int (zI n)] (PB E B yX12_feed wsX12_feed ({ frames := 1, cells := 0, slots := 0, locals := 25 }) [.ref (B + 161), .long w, .int (zI n)]) := by
  obtain ⟨cu, old, kept, fau, fin, F, V, p, l, h⟩ := h
  obtain ⟨hN, ho, hm, hrw, htp, htr, hln, hno, hac, hgr, him, hsc, hkf, hkl⟩ := id h
  obtain ⟨m, f, pl, so, s, e, vv, t, tl, h1, h2, h3, t2, t3, t4, t5⟩ := htp
  refine gM_mono (c_X11_feed ho t2 t3 r_n h2) ?_
  rintro ρ N1 v1 ⟨rfl, res, m2, tt, hc, rfl, rfl⟩ -
  refine ⟨res, rfl, ⟨F, V, (cel_fr hm (Nat.le_refl _) (by (repeat (first | rw [va_up_self] | rw [va_up_ne _ _ (by omega)])); all_goals rfl))⟩, ?_⟩
  refine gM_mono (c_X12_feed (cel_fr hm (Nat.le_refl _) (by (repeat (first | rw [va_up_self] | rw [va_up_ne _ _ (by omega)])); all_goals rfl)) (cel_fr t5 (Nat.le_refl _) (by (repeat (first | rw [va_up_self] | rw [va_up_ne _ _ (by omega)])); all_goals rfl)) r_n (by omega)) ?_
  rintro ρ2 N2 v2 ⟨rfl, res2, m3, tt3, hc2, rfl, rfl⟩ -
  have key : res2 = res ∧ m3 = (m2 : Int) ∧ m2 ≤ 400 ∧ tt3 = tt ∧ ∀ i : Nat, 0 ≤ tt i ∧ tt i ≤ 255 := by
    rw [h1, Int.toNat_natCast] at hc2
    rcases hc with ⟨q, e, ef, eg⟩ | ⟨q, w1, e, ef, eg⟩ | ⟨q, w1, e, ef, eg⟩ <;> rcases hc2 with ⟨q2, e2, eF, fg⟩ | ⟨q2, w2, e2, eF, fg⟩ | ⟨q2, w2, e2, eF, fg⟩
    · exact ⟨by omega, by omega, by omega, fg.trans eg.symm, by rw [eg]; exact h3⟩
    · omega
    · omega
    · omega
    · exact ⟨by omega, by omega, by omega, fg.trans eg.symm, by rw [eg]; exact h3⟩
    · omega
    · omega
    · omega
    · refine ⟨by omega, by omega, by omega, fg.trans eg.symm, fun i => ?_⟩
      rw [eg]
      unfold fdA
      split
      · exact bytW_rng _ _
      · exact h3 i
  clear hc hc2
  obtain ⟨rfl, rfl, k4, rfl, k5⟩ := key
  exact ⟨rfl, RELx_gen (fau2 := fau) (fin2 := fin) (F2 := va_up F 5 (m2 : Int)) (V2 := V) h (Nat.le_refl _) (fun k hk => (by (repeat (first | rw [va_up_self] | rw [va_up_ne _ _ (by omega)])); all_goals rfl)) (GK_hi (Nat.le_refl _) (fun k h1 h2 => (by (repeat (first | rw [va_up_self] | rw [va_up_ne _ _ (by omega)])); all_goals rfl))) (cel_fr ho (Nat.le_refl _) (by (repeat (first | rw [va_up_self] | rw [va_up_ne _ _ (by omega)])); all_goals rfl)) ⟨(hm).1, (by (repeat (first | rw [va_up_self] | rw [va_up_ne _ _ (by omega)])); all_goals rfl)⟩ (Rw_fr hrw (Nat.le_refl _) (fun k hk => (by (repeat (first | rw [va_up_self] | rw [va_up_ne _ _ (by omega)])); all_goals rfl))) ⟨m2, f, pl, so, s, e, vv, _, tl, rfl, k4, k5, ⟨(t2).1, (by (repeat (first | rw [va_up_self] | rw [va_up_ne _ _ (by omega)])); all_goals rfl)⟩, ⟨(t3).1, (by (repeat (first | rw [va_up_self] | rw [va_up_ne _ _ (by omega)])); all_goals rfl)⟩, (cel_fr t4 (Nat.le_refl _) (by (repeat (first | rw [va_up_self] | rw [va_up_ne _ _ (by omega)])); all_goals rfl)), ⟨(t5).1, (by (repeat (first | rw [va_up_self] | rw [va_up_ne _ _ (by omega)])); all_goals rfl)⟩⟩ (Tr_fr htr (Nat.le_refl _) (fun k hk => (by (repeat (first | rw [va_up_self] | rw [va_up_ne _ _ (by omega)])); all_goals rfl))) (Sc_fr hsc (Nat.le_refl _) (fun k hk => (by (repeat (first | rw [va_up_self] | rw [va_up_ne _ _ (by omega)])); all_goals rfl))) ⟨hkf.1, hkf.2.1, rfl, rfl⟩⟩

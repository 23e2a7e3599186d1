/-! the calls that change ground, line, acts, images -/
theorem va_up_id {α : Type} (f : Nat → α) (k : Nat) : va_up f k (f k) = f := by
  funext j
  by_cases h : j = k
  · subst h; exact va_up_self _ _ _
  · exact va_up_ne _ _ h
theorem cpI_138 {f g : Nat → Int} {sp : Nat} (k : Nat) (hk : k < 138) : cpI f g sp 0 138 k = f (sp + k) := by
  unfold cpI
  rw [if_pos (by omega), Nat.sub_zero]
theorem LR_0 {g h : Nat → Int} (q : HB h) : LR g h [] := ⟨fun k hk => absurd hk (Nat.not_lt_zero k), q⟩
theorem PR_nil {a r : Nat → Int} (h : rOk r) : PR (cpI r a 0 0 138) r [] := by
  refine ⟨fun k hk => ?_, ?_, fun k hk => absurd hk (Nat.not_lt_zero k)⟩
  · rw [cpI_138 k (by omega), Nat.zero_add]
  · rw [cpI_138 121 (by omega), Nat.zero_add, h.2.2.2.1 121 (by omega)]; rfl
theorem CorOk_0 : CorOk [] := ⟨fun q h => absurd h List.not_mem_nil, List.Pairwise.nil⟩
theorem Im_some {E : XE} {B N c : Nat} {v : Nat → va_E} {cu : Option Nat} (h : Im E B N v cu) : Im E B N v (some c) := by
  obtain ⟨gq, im, kp, a, b, c', d, e, f⟩ := h
  exact ⟨gq, im, kp, a, b, c', d, e, fun z => by cases z⟩
theorem Ac_nil {E : XE} {B N M : Nat} {v w : Nat → va_E} {p r : Nat → Int} {old kept : Nat} (h : Ac E B N v p old kept) (hM : N ≤ M) (hw : ∀ k, (k = 12 ∨ 31 ≤ k ∧ k ≤ 150 ∨ k = 167) → w k = v k) : Ac E B M w r old 0 := by
  obtain ⟨as, bf, a, b, c, d, e, f, g, i⟩ := Ac_fr h hM hw
  exact ⟨[], bf, a, b, fun j hj => absurd hj (Nat.not_lt_zero j), d, ⟨Nat.zero_le _, fun j hj => absurd hj (Nat.not_lt_zero j)⟩, fun l hl => absurd hl List.not_mem_nil, g, rfl⟩
theorem st_ground {E : XE} {B N : Nat} {v : Nat → va_E}  (h : REL E B N v)  : gM yX11_ground wsX11_ground ({ frames := 8, cells := 28, slots := 270, locals := 177 }) E B N v [.ref (B + 0)] (PB E B yX12_ground wsX12_ground ({ frames := 7, cells := 0, slots := 0, locals := 151 }) [.ref (B + 161)]) := by
  obtain ⟨cu, old, kept, fau, fin, F, V, p, l, h⟩ := h
  obtain ⟨hN, ho, hm, hrw, htp, htr, hln, hno, hac, hgr, him, hsc, hkf, hkl⟩ := id h
  obtain ⟨a, ca, pr⟩ := hno
  obtain ⟨sr, sf, st, s1, s2, s3⟩ := hsc
  obtain ⟨m, f, pl, so, s, e, vv, t, tl, h1, h2, h3, t2, t3, t4, t5⟩ := htp
  obtain ⟨n, g, h', s', t', ⟨l0, l1, l2, l3, l4⟩, hlr, hn, hsr⟩ := id hln
  refine gM_mono (c_X11_ground ho t2 t3 t4 l0 l1 l2 l3 l4 h2 h3 (by omega) hlr.2) ?_
  rintro ρ N1 v1 ⟨res, hNN, hfr, hc, rfl⟩ -
  refine ⟨res, rfl, ⟨F, V, (cel_fr hm hNN (hfr _ (hm).1 (by omega) (by omega) (by omega) (by omega) (by omega) (by omega)))⟩, ?_⟩
  refine gM_mono (c_X12_ground (cel_fr hm hNN (hfr _ (hm).1 (by omega) (by omega) (by omega) (by omega) (by omega) (by omega))) (cel_fr t5 hNN (hfr _ (t5).1 (by omega) (by omega) (by omega) (by omega) (by omega) (by omega))) (cel_fr s1 hNN (hfr _ (s1).1 (by omega) (by omega) (by omega) (by omega) (by omega) (by omega))) (cel_fr ca hNN (hfr _ (ca).1 (by omega) (by omega) (by omega) (by omega) (by omega) (by omega))) h1 h2 h3) ?_
  rintro ρ2 N2 v2 ⟨rfl, res2, F2, V2, r2, a2, hF, hc2, rfl, rfl⟩ -
  generalize hw : va_up (va_up (va_up v1 161 (oM B F2 V2)) 171 (iarr E 138 r2)) 166 (iarr E 138 a2) = w
  have w1 : ∀ k, k ≠ 161 → k ≠ 171 → k ≠ 166 → w k = v1 k := fun k k1 k2 k3 => by rw [← hw, va_up_ne _ _ k3, va_up_ne _ _ k2, va_up_ne _ _ k1]
  have fw : ∀ k, k < 174 → k ≠ 0 → k ≠ 2 → k ≠ 4 → k ≠ 7 → k ≠ 10 → k ≠ 11 → k ≠ 161 → k ≠ 171 → k ≠ 166 → w k = v k := fun k k0 k1 k2 k3 k4 k5 k6 k7 k8 k9 => (w1 k k7 k8 k9).trans (hfr k (by omega) k1 k2 k3 k4 k5 k6)
  have c161 : Cel N1 w 161 (oM B F2 V2) := by rw [← hw]; exact ⟨by omega, (by (repeat (first | rw [va_up_self] | rw [va_up_ne _ _ (by omega)])); all_goals rfl)⟩
  have c171 : Cel N1 w 171 (iarr E 138 r2) := by rw [← hw]; exact ⟨by omega, (by (repeat (first | rw [va_up_self] | rw [va_up_ne _ _ (by omega)])); all_goals rfl)⟩
  have c166 : Cel N1 w 166 (iarr E 138 a2) := by rw [← hw]; exact ⟨by omega, (by (repeat (first | rw [va_up_self] | rw [va_up_ne _ _ (by omega)])); all_goals rfl)⟩
  have gk : GK E B N v N1 w := GK_hi hNN (fun k k1 k2 => (w1 k (by omega) (by omega) (by omega)).trans (hfr k k2 (by omega) (by omega) (by omega) (by omega) (by omega) (by omega)))
  have FRW : ∀ (k : Nat) (x : va_E), Cel N v k x → k < 174 → k ≠ 0 → k ≠ 2 → k ≠ 4 → k ≠ 7 → k ≠ 10 → k ≠ 11 → k ≠ 161 → k ≠ 171 → k ≠ 166 → Cel N1 w k x := fun k x hx k0 k1 k2 k3 k4 k5 k6 k7 k8 k9 => cel_fr hx hNN (fw k k0 k1 k2 k3 k4 k5 k6 k7 k8 k9)
  have W1 : ∀ (k : Nat) (x : va_E), Cel N1 v1 k x → k ≠ 161 → k ≠ 171 → k ≠ 166 → Cel N1 w k x := fun k x hx k7 k8 k9 => cel_fr hx (Nat.le_refl _) (w1 k k7 k8 k9)
  have rw' : Rw E B N1 w := Rw_fr hrw hNN (fun k hk => fw k (by omega) (by omega) (by omega) (by omega) (by omega) (by omega) (by omega) (by omega) (by omega) (by omega))
  have tr' : Tr E B N1 w (F 13) := Tr_fr htr hNN (fun k hk => fw k (by omega) (by omega) (by omega) (by omega) (by omega) (by omega) (by omega) (by omega) (by omega) (by omega))
  have im' : Im E B N1 w cu := Im_fr him hNN gk (fun k hk => fw k (by omega) (by omega) (by omega) (by omega) (by omega) (by omega) (by omega) (by omega) (by omega) (by omega))
  have sc' : Sc E B N1 w := ⟨r2, sf, st, c171, FRW _ _ s2 (by omega) (by omega) (by omega) (by omega) (by omega) (by omega) (by omega) (by omega) (by omega) (by omega), FRW _ _ s3 (by omega) (by omega) (by omega) (by omega) (by omega) (by omega) (by omega) (by omega) (by omega) (by omega)⟩
  have c3 := FRW _ _ t3 (by omega) (by omega) (by omega) (by omega) (by omega) (by omega) (by omega) (by omega) (by omega) (by omega)
  have c165 := FRW _ _ t5 (by omega) (by omega) (by omega) (by omega) (by omega) (by omega) (by omega) (by omega) (by omega) (by omega)
  obtain ⟨f3, f5, f13⟩ := hF
  rcases hc with ⟨r, so2, s2', e2, vv2, tl2, s3', t3', k1, k2, k3, k4, k5, k6, k7, k8, k9, k10, k11⟩ | ⟨f2, p2, so2, s2', e2, vv2, tl2, k1, k2, k3, k4, k5, k6, k7, k8⟩
  · rcases hc2 with ⟨x2, q1, q2, q3, q4, q5, q6, q7⟩ | ⟨f2, p2, q1, _⟩
    · have ex : x2 = r := by rw [k1] at q1; injection q1 with z; exact z.symm
      subst ex
      refine ⟨res_eq (q2.trans k3.symm), some N, old, 0, fau, fin, F2, V2, x2, [], by omega, W1 _ _ k5 (by omega) (by omega) (by omega), c161, rw', ⟨0, f, pl, so2, s2', e2, vv2, t, tl2, f5, by omega, h3, W1 _ _ k6 (by omega) (by omega) (by omega), c3, W1 _ _ k7 (by omega) (by omega) (by omega), c165⟩, by rw [f13]; exact tr', ⟨0, g, h', s3', t3', ⟨W1 _ _ k8 (by omega) (by omega) (by omega), FRW _ _ l1 (by omega) (by omega) (by omega) (by omega) (by omega) (by omega) (by omega) (by omega) (by omega) (by omega), FRW _ _ l2 (by omega) (by omega) (by omega) (by omega) (by omega) (by omega) (by omega) (by omega) (by omega) (by omega), W1 _ _ k9 (by omega) (by omega) (by omega), W1 _ _ k10 (by omega) (by omega) (by omega)⟩, LR_0 hlr.2, rfl, fun _ => k11⟩, ⟨a2, c166, by rw [q6]; exact PR_nil k2⟩, Ac_nil hac hNN (fun k hk => fw k (by omega) (by omega) (by omega) (by omega) (by omega) (by omega) (by omega) (by omega) (by omega) (by omega)), ⟨fun z => (by cases z), fun c hc => ?_⟩, Im_some im', sc', ⟨f3.trans hkf.1, q3.trans hkf.2.1, q5, fun z => (by cases z), fun c hc => q4⟩, CorOk_0, ?_⟩
      · injection hc with hc
        subst hc
        exact ⟨hN, GS_fr k4 k2.1.2.2.2.2.1.2 (Nat.le_refl _) (fun k hk1 _ _ => w1 k (by omega) (by omega) (by omega)), k2⟩
      · have := k2.1.2.2.1.1
        show ((0 : Nat) : Int) ≤ _
        omega
    · rw [k1] at q1; cases q1
  · rcases hc2 with ⟨x2, q1, _⟩ | ⟨f3', p3, q1, q2, q3, q4, q5, q6, q7⟩
    · rw [k1] at q1; cases q1
    · have ex : f3' = f2 ∧ p3 = p2 := by rw [k1] at q1; injection q1 with z; injection z with z1 z2; exact ⟨z1.symm, z2.symm⟩
      obtain ⟨rfl, rfl⟩ := ex
      refine ⟨res_eq (q2.trans k2.symm), cu, old, kept, f3', fin, F2, V2, p, l, by omega, W1 _ _ k3 (by omega) (by omega) (by omega), c161, rw', ⟨0, f3', (p3 : Int), so2, s2', e2, vv2, t, tl2, f5, by omega, h3, W1 _ _ k4 (by omega) (by omega) (by omega), c3, W1 _ _ k5 (by omega) (by omega) (by omega), c165⟩, by rw [f13]; exact tr', Ln_fr hln hNN (fun k hk => ?_), ⟨a2, c166, by rw [q6]; exact pr⟩, Ac_fr hac hNN (fun k hk => fw k (by omega) (by omega) (by omega) (by omega) (by omega) (by omega) (by omega) (by omega) (by omega) (by omega)), Gr_fr hgr gk, im', sc', ⟨f3.trans hkf.1, q3, q5.trans hkf.2.2.1, fun z => q4.trans (hkf.2.2.2.1 z), fun c hc => q4.trans (hkf.2.2.2.2 c hc)⟩, hkl⟩
      rcases (show k = 7 ∨ k = 8 ∨ k = 9 ∨ k = 10 ∨ k = 11 by omega) with rfl | rfl | rfl | rfl | rfl
      · exact (w1 _ (by omega) (by omega) (by omega)).trans k6
      · exact fw _ (by omega) (by omega) (by omega) (by omega) (by omega) (by omega) (by omega) (by omega) (by omega) (by omega)
      · exact fw _ (by omega) (by omega) (by omega) (by omega) (by omega) (by omega) (by omega) (by omega) (by omega) (by omega)
      · exact (w1 _ (by omega) (by omega) (by omega)).trans k7
      · exact (w1 _ (by omega) (by omega) (by omega)).trans k8
theorem mem_push {as : List Cor} {l m : Cor} (h : m ∈ pushA as l) : m ∈ as ∨ m = l := by
  unfold pushA at h
  rcases List.mem_append.mp h with h | h
  · left
    split at h
    · exact List.mem_of_mem_tail h
    · exact h
  · right; exact List.mem_singleton.mp h
theorem push_at {as : List Cor} {l : Cor} {P : Nat → Cor → Prop} (h24 : as.length ≤ 24) (h1 : as.length < 24 → (∀ (j : Nat) (hj : j < as.length), P j as[j]) ∧ P as.length l) (h2 : as.length = 24 → (∀ (j : Nat) (hj : j + 1 < as.length), P j as[j + 1]) ∧ P 23 l) : ∀ (j : Nat) (hj : j < (pushA as l).length), P j (pushA as l)[j] := by
  by_cases h : as.length = 24
  · have e : pushA as l = as.tail ++ [l] := by unfold pushA; rw [if_pos h]
    obtain ⟨k1, k2⟩ := h2 h
    have key : ∀ bs : List Cor, bs = as.tail ++ [l] → ∀ (j : Nat) (hj : j < bs.length), P j bs[j] := by
      rintro _ rfl j hj
      have hl : as.tail.length = 23 := by rw [List.length_tail, h]
      by_cases hj2 : j < as.tail.length
      · rw [List.getElem_append_left hj2, List.getElem_tail]
        exact k1 j (by omega)
      · have hj3 : j = 23 := by
          rw [List.length_append, hl] at hj
          simp at hj
          omega
        subst hj3
        rw [List.getElem_append_right (by omega)]
        simp only [List.getElem_singleton]
        exact k2
    exact key _ e
  · have e : pushA as l = as ++ [l] := by unfold pushA; rw [if_neg h]
    obtain ⟨k1, k2⟩ := h1 (by omega)
    have key : ∀ bs : List Cor, bs = as ++ [l] → ∀ (j : Nat) (hj : j < bs.length), P j bs[j] := by
      rintro _ rfl j hj
      by_cases hj2 : j < as.length
      · rw [List.getElem_append_left hj2]
        exact k1 j hj2
      · have hj3 : j = as.length := by
          rw [List.length_append] at hj
          simp at hj
          omega
        subst hj3
        rw [List.getElem_append_right (by omega)]
        simp only [List.getElem_singleton]
        exact k2
    exact key _ e
theorem push_len (as : List Cor) (l : Cor) : (pushA as l).length = if as.length = 24 then 24 else as.length + 1 := by
  unfold pushA
  by_cases h : as.length = 24
  · rw [if_pos h, if_pos h, List.length_append, List.length_tail, h]; rfl
  · rw [if_neg h, if_neg h, List.length_append]; rfl
theorem st_cross {E : XE} {B N : Nat} {v : Nat → va_E} {x : Int} {k : Int} (h : REL E B N v) (r_x : (-2147483648 ≤ x ∧ x ≤ 2147483647)) (r_k : (-2147483648 ≤ k ∧ k ≤ 2147483647)) : gM yX11_cross wsX11_cross ({ frames := 3, cells := 0, slots := 0, locals := 81 }) E B N v [.ref (B + 0), .int (zI x), .int (zI k)] (PB E B yX12_cross wsX12_cross ({ frames := 3, cells := 0, slots := 0, locals := 70 }) [.ref (B + 161), .int (zI x), .int (zI k)]) := by
  obtain ⟨cu, old, kept, fau, fin, F, V, p, l, h⟩ := h
  obtain ⟨hN, ho, hm, hrw, htp, htr, hln, hno, hac, hgr, him, hsc, hkf, hkl⟩ := id h
  obtain ⟨a, ca, pr⟩ := hno
  have hp := Gr_ok hgr
  obtain ⟨as, bf, b12, bl, bk, b167, bA, bO, hold, hkept⟩ := id hac
  have h24 : as.length ≤ 24 := bA.1
  have f9 : F 9 = (as.length : Int) := by rw [hkf.2.2.1, hkept]
  cases cu with
  | none =>
    have hp0 : p 4 = 0 := by rw [hgr.1 rfl]
    refine gM_mono (c_X11_cross_0 ho r_k) ?_
    rintro ρ N1 v1 ⟨rfl, rfl, rfl⟩ -
    refine ⟨_, rfl, ⟨F, V, hm⟩, ?_⟩
    refine gM_mono (c_X12_cross hm ca b167 pr hp hkl.1 hkl.2 bA bO f9 r_x r_k) ?_
    rintro ρ2 N2 v2 ⟨rfl, res2, n2, a2, bf2, hc2, rfl, rfl⟩ -
    rcases hc2 with ⟨_, e, rfl, rfl, rfl⟩ | ⟨⟨q, _⟩, _⟩ | ⟨⟨q, _⟩, _⟩
    · rw [va_up_id, cel_pad hm, cel_pad ca, cel_pad b167]
      exact ⟨res_eq e, RELx_in h⟩
    · omega
    · omega
  | some c =>
    obtain ⟨h174, hgs, hrk⟩ := hgr.2 c rfl
    obtain ⟨a0, a1, a2, a3, a4, a5, a6, a7, a8⟩ := id hgs
    obtain ⟨n, g, h', s, t, ⟨l0, l1, l2, l3, l4⟩, hlr, hn, hsr⟩ := id hln
    have hs2 := hsr (by simp)
    have ho2 : Cel N v 0 (.inr (10, [.ref (B + 1), .ref (B + 2), .ref (B + 5), .ref (B + 7), .ref (B + 12), .ref (B + 13), .ref (B + 14), .ref (B + c), .int (zI (old : Int)), .int (zI (kept : Int)), .int (zI fau), .int (zI fin)])) := ho
    have l02 : Cel N v 7 (.inr (4, [.ref (B + 8), .ref (B + 9), .int (zI (n : Int)), .ref (B + 10), .ref (B + 11)])) := l0
    have l12 : Cel N v 8 (iarr E 8 g) := l1
    have l22 : Cel N v 9 (barr E 8 h') := l2
    have l32 : Cel N v 10 (iarr E 8 s) := l3
    have l42 : Cel N v 11 (iarr E 8 t) := l4
    obtain ⟨m, hm24, hmm⟩ : ∃ m, m < 24 ∧ ((kept < 24 ∧ m = (old + kept) % 24) ∨ (kept = 24 ∧ m = old)) := by
      by_cases hk : kept < 24
      · exact ⟨_, Nat.mod_lt _ (by omega), Or.inl ⟨hk, rfl⟩⟩
      · exact ⟨old, hold, Or.inr ⟨by omega, rfl⟩⟩
    obtain ⟨n9, g9, h9, s9, t9, ⟨m0, m1, m2, m3, m4⟩, hb9⟩ := bl m hm24
    refine gM_mono (c_X11_cross_c (e := 31 + 5 * m) ho a0 l0 l1 l2 l3 l4 a2 a3 b12 m0 m1 m2 m3 m4 a6 hlr ⟨hn, hkl.2⟩ hkl.1 hs2 hp hrk.2.2.2.2 (by omega) r_x r_k (by omega) hold h174) ?_
    rintro ρ N1 v1 ⟨rfl, res, old2, kept2, n8, g8, h8, s8, t8, n2, g2, h2, s2, t2, hc, rfl, rfl⟩ -
    refine ⟨res, rfl, ⟨F, V, (cel_fr hm (Nat.le_refl _) (by (repeat (first | rw [va_up_self] | rw [va_up_ne _ _ (by omega)])); all_goals rfl))⟩, ?_⟩
    refine gM_mono (c_X12_cross (cel_fr hm (Nat.le_refl _) (by (repeat (first | rw [va_up_self] | rw [va_up_ne _ _ (by omega)])); all_goals rfl)) (cel_fr ca (Nat.le_refl _) (by (repeat (first | rw [va_up_self] | rw [va_up_ne _ _ (by omega)])); all_goals rfl)) (cel_fr b167 (Nat.le_refl _) (by (repeat (first | rw [va_up_self] | rw [va_up_ne _ _ (by omega)])); all_goals rfl)) pr hp hkl.1 hkl.2 bA bO f9 r_x r_k) ?_
    rintro ρ2 N2 v2 ⟨rfl, res2, nn2, aa2, bf2, hc2, rfl, rfl⟩ -
    rcases hc with ⟨q, e, rfl, rfl, rfl, rfl, rfl, rfl, rfl, rfl, rfl, rfl, rfl, rfl⟩ | ⟨q, qm, e, rfl, rfl, rfl, rfl, rfl, rfl, rfl, rfl, rfl, rfl, rfl, rfl⟩ | ⟨q, qm, e, ek, ⟨rfl, rfl, rfl, rfl, rfl⟩, rfl, eL, eS⟩
    · rcases hc2 with ⟨q2, e2, rfl, rfl, rfl⟩ | ⟨q2, _⟩ | ⟨q2, _⟩
      · rw [va_up_id, cel_pad ho2, cel_pad m0, cel_pad m1, cel_pad m2, cel_pad m3, cel_pad m4, cel_pad l02, cel_pad l12, cel_pad l22, cel_pad l32, cel_pad l42, cel_pad hm, cel_pad ca, cel_pad b167]
        exact ⟨res_eq (e2.trans e.symm), RELx_in h⟩
      · exact absurd q2 q
      · exact absurd q2 q
    · rcases hc2 with ⟨q2, _⟩ | ⟨q2, qm2, e2, rfl, rfl, rfl⟩ | ⟨q2, qm2, _⟩
      · exact absurd q q2
      · rw [va_up_id, cel_pad ho2, cel_pad m0, cel_pad m1, cel_pad m2, cel_pad m3, cel_pad m4, cel_pad l02, cel_pad l12, cel_pad l22, cel_pad l32, cel_pad l42, cel_pad hm, cel_pad ca, cel_pad b167]
        exact ⟨res_eq (e2.trans e.symm), RELx_in h⟩
      · exact absurd qm2 qm
    · rcases hc2 with ⟨q2, _⟩ | ⟨q2, qm2, _⟩ | ⟨q2, qm2, e2, e9, eP, eA⟩
      · exact absurd q q2
      · exact absurd qm qm2
      · have hlen := push_len as l
        have h47 : k.toNat ≤ 47 := by omega
        have ek2 : kept2 = (pushA as l).length ∧ old2 < 24 := by
          rw [hlen]
          rcases ek with ⟨z1, z2, z3⟩ | ⟨z1, z2, z3⟩
          · rw [if_neg (by omega)]; omega
          · rw [if_pos (by omega)]; omega
        refine ⟨res_eq (e2.trans e.symm), some c, old2, kept2, fau, fin, va_up F 9 nn2, V, p, _, hN, ⟨(ho).1, (by (repeat (first | rw [va_up_self] | rw [va_up_ne _ _ (by omega)])); all_goals rfl)⟩, ⟨(hm).1, (by (repeat (first | rw [va_up_self] | rw [va_up_ne _ _ (by omega)])); all_goals rfl)⟩, Rw_fr hrw (Nat.le_refl _) (fun k hk => (by (repeat (first | rw [va_up_self] | rw [va_up_ne _ _ (by omega)])); all_goals rfl)), Tp_fr htp (Nat.le_refl _) (fun k hk => (by (repeat (first | rw [va_up_self] | rw [va_up_ne _ _ (by omega)])); all_goals rfl)), Tr_fr htr (Nat.le_refl _) (fun k hk => (by (repeat (first | rw [va_up_self] | rw [va_up_ne _ _ (by omega)])); all_goals rfl)), ⟨_, g2, h2, s2, t2, ⟨⟨(l0).1, (by (repeat (first | rw [va_up_self] | rw [va_up_ne _ _ (by omega)])); all_goals rfl)⟩, ⟨(l1).1, (by (repeat (first | rw [va_up_self] | rw [va_up_ne _ _ (by omega)])); all_goals rfl)⟩, ⟨(l2).1, (by (repeat (first | rw [va_up_self] | rw [va_up_ne _ _ (by omega)])); all_goals rfl)⟩, ⟨(l3).1, (by (repeat (first | rw [va_up_self] | rw [va_up_ne _ _ (by omega)])); all_goals rfl)⟩, ⟨(l4).1, (by (repeat (first | rw [va_up_self] | rw [va_up_ne _ _ (by omega)])); all_goals rfl)⟩⟩, eL, rfl, fun _ => eS⟩, ⟨aa2, ⟨(ca).1, (by (repeat (first | rw [va_up_self] | rw [va_up_ne _ _ (by omega)])); all_goals rfl)⟩, eP⟩, ⟨pushA as l, bf2, (cel_fr b12 (Nat.le_refl _) (by (repeat (first | rw [va_up_self] | rw [va_up_ne _ _ (by omega)])); all_goals rfl)), fun j hj => ?_, ?_, ⟨(b167).1, (by (repeat (first | rw [va_up_self] | rw [va_up_ne _ _ (by omega)])); all_goals rfl)⟩, eA, fun z hz => ?_, ek2.2, ek2.1⟩, Gr_fr hgr (GK_hi (Nat.le_refl _) (fun k h1 h2 => (by (repeat (first | rw [va_up_self] | rw [va_up_ne _ _ (by omega)])); all_goals rfl))), Im_fr him (Nat.le_refl _) (GK_hi (Nat.le_refl _) (fun k h1 h2 => (by (repeat (first | rw [va_up_self] | rw [va_up_ne _ _ (by omega)])); all_goals rfl))) (fun k hk => (by (repeat (first | rw [va_up_self] | rw [va_up_ne _ _ (by omega)])); all_goals rfl)), (Sc_fr hsc (Nat.le_refl _) (fun k hk => (by (repeat (first | rw [va_up_self] | rw [va_up_ne _ _ (by omega)])); all_goals rfl))), ⟨hkf.1, hkf.2.1, ?_, hkf.2.2.2.1, hkf.2.2.2.2⟩, crossA_ok hkl.1 h47, crossA_len hkl.2 hp.2.2.1⟩
        · by_cases q : j = m
          · subst q
            exact LNx_b ⟨⟨(m0).1, (by (repeat (first | rw [va_up_self] | rw [va_up_ne _ _ (by omega)])); all_goals rfl)⟩, ⟨(m1).1, (by (repeat (first | rw [va_up_self] | rw [va_up_ne _ _ (by omega)])); all_goals rfl)⟩, ⟨(m2).1, (by (repeat (first | rw [va_up_self] | rw [va_up_ne _ _ (by omega)])); all_goals rfl)⟩, ⟨(m3).1, (by (repeat (first | rw [va_up_self] | rw [va_up_ne _ _ (by omega)])); all_goals rfl)⟩, ⟨(m4).1, (by (repeat (first | rw [va_up_self] | rw [va_up_ne _ _ (by omega)])); all_goals rfl)⟩⟩ hlr.2
          · exact LNb_fr (bl j hj) (Nat.le_refl _) (fun k hk1 hk2 => (by (repeat (first | rw [va_up_self] | rw [va_up_ne _ _ (by omega)])); all_goals rfl))
        · refine push_at (P := fun j l' => LNk E B N _ (31 + 5 * ((old2 + j) % 24)) (p 0) (p 1) l') h24 (fun hlt => ⟨fun j hj => ?_, ?_⟩) (fun heq => ⟨fun j hj => ?_, ?_⟩)
          · have e0 : old2 = old ∧ m = (old + as.length) % 24 := by omega
            obtain ⟨rfl, e1⟩ := e0
            exact LNk_fr (bk j hj) (Nat.le_refl _) (fun k hk1 hk2 => (by (repeat (first | rw [va_up_self] | rw [va_up_ne _ _ (by omega)])); all_goals rfl))
          · rw [show (old2 + as.length) % 24 = m by omega]
            exact LNx_k ⟨⟨(m0).1, (by (repeat (first | rw [va_up_self] | rw [va_up_ne _ _ (by omega)])); all_goals rfl)⟩, ⟨(m1).1, (by (repeat (first | rw [va_up_self] | rw [va_up_ne _ _ (by omega)])); all_goals rfl)⟩, ⟨(m2).1, (by (repeat (first | rw [va_up_self] | rw [va_up_ne _ _ (by omega)])); all_goals rfl)⟩, ⟨(m3).1, (by (repeat (first | rw [va_up_self] | rw [va_up_ne _ _ (by omega)])); all_goals rfl)⟩, ⟨(m4).1, (by (repeat (first | rw [va_up_self] | rw [va_up_ne _ _ (by omega)])); all_goals rfl)⟩⟩ hlr hn hs2
          · have e0 : old2 = (old + 1) % 24 ∧ m = old := by omega
            rw [show (old2 + j) % 24 = (old + (j + 1)) % 24 by omega]
            exact LNk_fr (bk (j + 1) hj) (Nat.le_refl _) (fun k hk1 hk2 => (by (repeat (first | rw [va_up_self] | rw [va_up_ne _ _ (by omega)])); all_goals rfl))
          · rw [show (old2 + 23) % 24 = m by omega]
            exact LNx_k ⟨⟨(m0).1, (by (repeat (first | rw [va_up_self] | rw [va_up_ne _ _ (by omega)])); all_goals rfl)⟩, ⟨(m1).1, (by (repeat (first | rw [va_up_self] | rw [va_up_ne _ _ (by omega)])); all_goals rfl)⟩, ⟨(m2).1, (by (repeat (first | rw [va_up_self] | rw [va_up_ne _ _ (by omega)])); all_goals rfl)⟩, ⟨(m3).1, (by (repeat (first | rw [va_up_self] | rw [va_up_ne _ _ (by omega)])); all_goals rfl)⟩, ⟨(m4).1, (by (repeat (first | rw [va_up_self] | rw [va_up_ne _ _ (by omega)])); all_goals rfl)⟩⟩ hlr hn hs2
        · rcases mem_push hz with hz | hz
          · exact bO z hz
          · rw [hz]; exact hkl
        · show nn2 = (kept2 : Int)
          rw [e9, ek2.1]
theorem st_undo {E : XE} {B N : Nat} {v : Nat → va_E}  (h : REL E B N v)  : gM yX11_undo wsX11_undo ({ frames := 2, cells := 0, slots := 0, locals := 61 }) E B N v [.ref (B + 0)] (PB E B yX12_undo wsX12_undo ({ frames := 1, cells := 0, slots := 0, locals := 24 }) [.ref (B + 161)]) := by
  obtain ⟨cu, old, kept, fau, fin, F, V, p, l, h⟩ := h
  obtain ⟨hN, ho, hm, hrw, htp, htr, hln, hno, hac, hgr, him, hsc, hkf, hkl⟩ := id h
  obtain ⟨a, ca, pr⟩ := hno
  have hp := Gr_ok hgr
  obtain ⟨as, bf, b12, bl, bk, b167, bA, bO, hold, hkept⟩ := id hac
  have h24 : as.length ≤ 24 := bA.1
  have f9 : F 9 = (as.length : Int) := by rw [hkf.2.2.1, hkept]
  obtain ⟨n, g, h', s, t, ⟨l0, l1, l2, l3, l4⟩, hlr, hn, hsr⟩ := id hln
  have l02 : Cel N v 7 (.inr (4, [.ref (B + 8), .ref (B + 9), .int (zI (n : Int)), .ref (B + 10), .ref (B + 11)])) := l0
  have l12 : Cel N v 8 (iarr E 8 g) := l1
  have l22 : Cel N v 9 (barr E 8 h') := l2
  have l32 : Cel N v 10 (iarr E 8 s) := l3
  have l42 : Cel N v 11 (iarr E 8 t) := l4
  by_cases hk0 : kept = 0
  · obtain ⟨n9, g9, h9, s9, t9, ⟨m0, m1, m2, m3, m4⟩, hb9⟩ := bl 0 (by omega)
    refine gM_mono (c_X11_undo (e := 31 + 5 * 0) ho b12 m0 m1 m2 m3 m4 l0 l1 l2 l3 l4 (Or.inl hk0) (by omega) (by omega) hb9) ?_
    rintro ρ N1 v1 ⟨rfl, res, kept2, n2, g2, h2, s2, t2, hc, rfl, rfl⟩ -
    refine ⟨res, rfl, ⟨F, V, (cel_fr hm (Nat.le_refl _) (by (repeat (first | rw [va_up_self] | rw [va_up_ne _ _ (by omega)])); all_goals rfl))⟩, ?_⟩
    refine gM_mono (c_X12_undo (cel_fr hm (Nat.le_refl _) (by (repeat (first | rw [va_up_self] | rw [va_up_ne _ _ (by omega)])); all_goals rfl)) (cel_fr ca (Nat.le_refl _) (by (repeat (first | rw [va_up_self] | rw [va_up_ne _ _ (by omega)])); all_goals rfl)) (cel_fr b167 (Nat.le_refl _) (by (repeat (first | rw [va_up_self] | rw [va_up_ne _ _ (by omega)])); all_goals rfl)) pr hp hkl.1 hkl.2 bA bO f9) ?_
    rintro ρ2 N2 v2 ⟨rfl, res2, nn2, aa2, hc2, rfl, rfl⟩ -
    rcases hc with ⟨q, e, rfl, rfl, rfl, rfl, rfl, rfl⟩ | ⟨q, _⟩
    · rcases hc2 with ⟨q2, e2, rfl, rfl⟩ | ⟨q2, _⟩
      · rw [va_up_id, cel_pad ho, cel_pad l02, cel_pad l12, cel_pad l22, cel_pad l32, cel_pad l42, cel_pad hm, cel_pad ca]
        exact ⟨res_eq (e2.trans e.symm), RELx_in h⟩
      · omega
    · omega
  · have hlt : kept - 1 < as.length := by omega
    have em : (old + (kept - 1)) % 24 < 24 := Nat.mod_lt _ (by omega)
    obtain ⟨n9, g9, h9, s9, t9, ⟨m0, m1, m2, m3, m4⟩, hlr9, hn9, hsr9⟩ := bk (kept - 1) hlt
    refine gM_mono (c_X11_undo (e := 31 + 5 * ((old + (kept - 1)) % 24)) ho b12 m0 m1 m2 m3 m4 l0 l1 l2 l3 l4 (Or.inr rfl) (by omega) (by omega) hlr9.2) ?_
    rintro ρ N1 v1 ⟨rfl, res, kept2, n2, g2, h2, s2, t2, hc, rfl, rfl⟩ -
    refine ⟨res, rfl, ⟨F, V, (cel_fr hm (Nat.le_refl _) (by (repeat (first | rw [va_up_self] | rw [va_up_ne _ _ (by omega)])); all_goals rfl))⟩, ?_⟩
    refine gM_mono (c_X12_undo (cel_fr hm (Nat.le_refl _) (by (repeat (first | rw [va_up_self] | rw [va_up_ne _ _ (by omega)])); all_goals rfl)) (cel_fr ca (Nat.le_refl _) (by (repeat (first | rw [va_up_self] | rw [va_up_ne _ _ (by omega)])); all_goals rfl)) (cel_fr b167 (Nat.le_refl _) (by (repeat (first | rw [va_up_self] | rw [va_up_ne _ _ (by omega)])); all_goals rfl)) pr hp hkl.1 hkl.2 bA bO f9) ?_
    rintro ρ2 N2 v2 ⟨rfl, res2, nn2, aa2, hc2, rfl, rfl⟩ -
    rcases hc with ⟨q, _⟩ | ⟨q, e, rfl, rfl, rfl, rfl, rfl, rfl⟩
    · omega
    · rcases hc2 with ⟨q2, _⟩ | ⟨q2, e2, e9, eP⟩
      · omega
      · have ei : as[as.length - 1] = as[kept - 1] := by congr 1; omega
        rw [ei] at eP
        have hO := bO _ (List.getElem_mem hlt)
        refine ⟨res_eq (by rw [e2, e]; omega), cu, old, kept - 1, fau, fin, va_up F 9 nn2, V, p, as[kept - 1], hN, ⟨(ho).1, (by (repeat (first | rw [va_up_self] | rw [va_up_ne _ _ (by omega)])); all_goals rfl)⟩, ⟨(hm).1, (by (repeat (first | rw [va_up_self] | rw [va_up_ne _ _ (by omega)])); all_goals rfl)⟩, Rw_fr hrw (Nat.le_refl _) (fun k hk => (by (repeat (first | rw [va_up_self] | rw [va_up_ne _ _ (by omega)])); all_goals rfl)), Tp_fr htp (Nat.le_refl _) (fun k hk => (by (repeat (first | rw [va_up_self] | rw [va_up_ne _ _ (by omega)])); all_goals rfl)), Tr_fr htr (Nat.le_refl _) (fun k hk => (by (repeat (first | rw [va_up_self] | rw [va_up_ne _ _ (by omega)])); all_goals rfl)), ⟨_, _, _, _, _, ⟨⟨(l0).1, (by (repeat (first | rw [va_up_self] | rw [va_up_ne _ _ (by omega)])); all_goals rfl)⟩, ⟨(l1).1, (by (repeat (first | rw [va_up_self] | rw [va_up_ne _ _ (by omega)])); all_goals rfl)⟩, ⟨(l2).1, (by (repeat (first | rw [va_up_self] | rw [va_up_ne _ _ (by omega)])); all_goals rfl)⟩, ⟨(l3).1, (by (repeat (first | rw [va_up_self] | rw [va_up_ne _ _ (by omega)])); all_goals rfl)⟩, ⟨(l4).1, (by (repeat (first | rw [va_up_self] | rw [va_up_ne _ _ (by omega)])); all_goals rfl)⟩⟩, hlr9, hn9, fun _ => hsr9⟩, ⟨aa2, ⟨(ca).1, (by (repeat (first | rw [va_up_self] | rw [va_up_ne _ _ (by omega)])); all_goals rfl)⟩, eP⟩, ⟨as.take (kept - 1), bf, (cel_fr b12 (Nat.le_refl _) (by (repeat (first | rw [va_up_self] | rw [va_up_ne _ _ (by omega)])); all_goals rfl)), fun j hj => LNb_fr (bl j hj) (Nat.le_refl _) (fun k hk1 hk2 => (by (repeat (first | rw [va_up_self] | rw [va_up_ne _ _ (by omega)])); all_goals rfl)), fun j hj => ?_, (cel_fr b167 (Nat.le_refl _) (by (repeat (first | rw [va_up_self] | rw [va_up_ne _ _ (by omega)])); all_goals rfl)), ⟨by rw [List.length_take]; omega, fun j hj => ?_⟩, fun z hz => bO z (List.mem_of_mem_take hz), hold, by rw [List.length_take]; omega⟩, Gr_fr hgr (GK_hi (Nat.le_refl _) (fun k h1 h2 => (by (repeat (first | rw [va_up_self] | rw [va_up_ne _ _ (by omega)])); all_goals rfl))), Im_fr him (Nat.le_refl _) (GK_hi (Nat.le_refl _) (fun k h1 h2 => (by (repeat (first | rw [va_up_self] | rw [va_up_ne _ _ (by omega)])); all_goals rfl))) (fun k hk => (by (repeat (first | rw [va_up_self] | rw [va_up_ne _ _ (by omega)])); all_goals rfl)), (Sc_fr hsc (Nat.le_refl _) (fun k hk => (by (repeat (first | rw [va_up_self] | rw [va_up_ne _ _ (by omega)])); all_goals rfl))), ⟨hkf.1, hkf.2.1, ?_, hkf.2.2.2.1, hkf.2.2.2.2⟩, hO⟩
        · rw [List.getElem_take]
          have hj' : j < as.length := by rw [List.length_take] at hj; omega
          have : (old + j) % 24 < 24 := Nat.mod_lt _ (by omega)
          exact LNk_fr (bk j hj') (Nat.le_refl _) (fun k hk1 hk2 => (by (repeat (first | rw [va_up_self] | rw [va_up_ne _ _ (by omega)])); all_goals rfl))
        · rw [List.getElem_take]
          exact bA.2 j (by rw [List.length_take] at hj; omega)
        · show nn2 = ((kept - 1 : Nat) : Int)
          rw [e9, e2]; omega
theorem Im1_cg {E : XE} {B N : Nat} {v : Nat → va_E} {j : Nat} {qo : Option Nat} {im im2 : Nat → Int} {kp : Int} (e : ∀ i, i < 138 → im2 (138 * j + i) = im (138 * j + i)) (h : Im1 E B N v j qo im kp) : Im1 E B N v j qo im2 kp := by
  obtain ⟨z1, z2, z3⟩ := h
  refine ⟨z1, z2, fun q hq => ?_⟩
  obtain ⟨y1, y2, pk, lk, y3, y4, y5, y6, y7, y8⟩ := z3 q hq
  have hl8 : lk.length ≤ 8 := by have := y4.1.2.2.1.2; omega
  exact ⟨y1, y2, pk, lk, y3, y4, y5, y6, PR_congr e hl8 y7, y8⟩
theorem st_image {E : XE} {B N : Nat} {v : Nat → va_E} {k : Int} (h : REL E B N v) (r_k : (-2147483648 ≤ k ∧ k ≤ 2147483647)) : gM yX11_image wsX11_image ({ frames := 2, cells := 0, slots := 0, locals := 61 }) E B N v [.ref (B + 0), .int (zI k)] (PB E B yX12_image wsX12_image ({ frames := 1, cells := 0, slots := 0, locals := 25 }) [.ref (B + 161), .int (zI k)]) := by
  obtain ⟨cu, old, kept, fau, fin, F, V, p, l, h⟩ := h
  obtain ⟨hN, ho, hm, hrw, htp, htr, hln, hno, hac, hgr, him, hsc, hkf, hkl⟩ := id h
  obtain ⟨a, ca, pr⟩ := hno
  obtain ⟨gq, im, kp, i13, i14, i168, i169, iH, iN⟩ := id him
  cases cu with
  | none =>
    have h7 : F 7 = 0 := hkf.2.2.2.1 rfl
    refine gM_mono (c_X11_image_0 ho r_k) ?_
    rintro ρ N1 v1 ⟨rfl, res, hc, rfl, rfl⟩ -
    refine ⟨_, rfl, ⟨F, V, hm⟩, ?_⟩
    refine gM_mono (c_X12_image hm ca i168 i169 r_k (by omega)) ?_
    rintro ρ2 N2 v2 ⟨rfl, res2, im2, kp2, hc2, rfl, rfl⟩ -
    rcases hc2 with ⟨q2, e2, rfl, rfl⟩ | ⟨q2, _, e2, rfl, rfl⟩ | ⟨_, q2, _⟩
    · rw [cel_pad i168, cel_pad i169]
      exact ⟨res_eq (by rcases hc with ⟨q, e⟩ | ⟨q, e⟩ <;> omega), RELx_in h⟩
    · rw [cel_pad i168, cel_pad i169]
      exact ⟨res_eq (by rcases hc with ⟨q, e⟩ | ⟨q, e⟩ <;> omega), RELx_in h⟩
    · omega
  | some c =>
    have h7 : F 7 = 1 := hkf.2.2.2.2 c rfl
    obtain ⟨h174, hgs, hrk⟩ := hgr.2 c rfl
    obtain ⟨n, g, h', s, t, ⟨l0, l1, l2, l3, l4⟩, hlr, hn, hsr⟩ := id hln
    have hs2 := hsr (by simp)
    obtain ⟨m, hm2, hmm⟩ : ∃ m : Nat, m < 2 ∧ ((0 ≤ k ∧ k ≤ 1 ∧ m = k.toNat) ∨ (¬ (0 ≤ k ∧ k ≤ 1) ∧ m = 0)) := by
      by_cases hk : 0 ≤ k ∧ k ≤ 1
      · exact ⟨k.toNat, by omega, Or.inl ⟨hk.1, hk.2, rfl⟩⟩
      · exact ⟨0, by omega, Or.inr ⟨hk, rfl⟩⟩
    obtain ⟨n9, g9, h9, s9, t9, ⟨m0, m1, m2, m3, m4⟩, hb9⟩ := (iH m hm2).1
    refine gM_mono (c_X11_image_c (e := 151 + 5 * m) ho hgs.1 i13 i14 m0 m1 m2 m3 m4 l0 l1 l2 l3 l4 r_k hlr.2 (by omega) h174) ?_
    rintro ρ N1 v1 ⟨rfl, res, gq2, n2, g2, h2, s2, t2, hc, rfl, rfl⟩ -
    refine ⟨res, rfl, ⟨F, V, (cel_fr hm (Nat.le_refl _) (by (repeat (first | rw [va_up_self] | rw [va_up_ne _ _ (by omega)])); all_goals rfl))⟩, ?_⟩
    refine gM_mono (c_X12_image (cel_fr hm (Nat.le_refl _) (by (repeat (first | rw [va_up_self] | rw [va_up_ne _ _ (by omega)])); all_goals rfl)) (cel_fr ca (Nat.le_refl _) (by (repeat (first | rw [va_up_self] | rw [va_up_ne _ _ (by omega)])); all_goals rfl)) (cel_fr i168 (Nat.le_refl _) (by (repeat (first | rw [va_up_self] | rw [va_up_ne _ _ (by omega)])); all_goals rfl)) (cel_fr i169 (Nat.le_refl _) (by (repeat (first | rw [va_up_self] | rw [va_up_ne _ _ (by omega)])); all_goals rfl)) r_k (by omega)) ?_
    rintro ρ2 N2 v2 ⟨rfl, res2, im2, kp2, hc2, rfl, rfl⟩ -
    rcases hc with ⟨q, e, rfl, rfl, rfl, rfl, rfl, rfl⟩ | ⟨q, e, eq2, rfl, rfl, rfl, rfl, rfl⟩
    · rcases hc2 with ⟨q2, e2, rfl, rfl⟩ | ⟨q2, _⟩ | ⟨q2, _⟩
      · rw [cel_pad i14, cel_pad m0, cel_pad m1, cel_pad m2, cel_pad m3, cel_pad m4, cel_pad i168, cel_pad i169]
        exact ⟨res_eq (e2.trans e.symm), RELx_in h⟩
      · exact absurd q2 q
      · exact absurd q2 q
    · have hmk : m = k.toNat := by omega
      rcases hc2 with ⟨q2, _⟩ | ⟨_, q2, _⟩ | ⟨_, _, e2, ei, ep⟩
      · exact absurd q q2
      · omega
      · rw [← hmk] at ei ep eq2
        refine ⟨res_eq (e2.trans e.symm), some c, old, kept, fau, fin, F, V, p, l, hN, (cel_fr ho (Nat.le_refl _) (by (repeat (first | rw [va_up_self] | rw [va_up_ne _ _ (by omega)])); all_goals rfl)), (cel_fr hm (Nat.le_refl _) (by (repeat (first | rw [va_up_self] | rw [va_up_ne _ _ (by omega)])); all_goals rfl)), Rw_fr hrw (Nat.le_refl _) (fun k hk => (by (repeat (first | rw [va_up_self] | rw [va_up_ne _ _ (by omega)])); all_goals rfl)), Tp_fr htp (Nat.le_refl _) (fun k hk => (by (repeat (first | rw [va_up_self] | rw [va_up_ne _ _ (by omega)])); all_goals rfl)), Tr_fr htr (Nat.le_refl _) (fun k hk => (by (repeat (first | rw [va_up_self] | rw [va_up_ne _ _ (by omega)])); all_goals rfl)), Ln_fr hln (Nat.le_refl _) (fun k hk => (by (repeat (first | rw [va_up_self] | rw [va_up_ne _ _ (by omega)])); all_goals rfl)), ⟨a, (cel_fr ca (Nat.le_refl _) (by (repeat (first | rw [va_up_self] | rw [va_up_ne _ _ (by omega)])); all_goals rfl)), pr⟩, Ac_fr hac (Nat.le_refl _) (fun k hk => (by (repeat (first | rw [va_up_self] | rw [va_up_ne _ _ (by omega)])); all_goals rfl)), Gr_fr hgr (GK_hi (Nat.le_refl _) (fun k h1 h2 => (by (repeat (first | rw [va_up_self] | rw [va_up_ne _ _ (by omega)])); all_goals rfl))), ⟨gq2, im2, kp2, (cel_fr i13 (Nat.le_refl _) (by (repeat (first | rw [va_up_self] | rw [va_up_ne _ _ (by omega)])); all_goals rfl)), ⟨(i14).1, (by (repeat (first | rw [va_up_self] | rw [va_up_ne _ _ (by omega)])); all_goals rfl)⟩, ⟨(i168).1, (by (repeat (first | rw [va_up_self] | rw [va_up_ne _ _ (by omega)])); all_goals rfl)⟩, ⟨(i169).1, (by (repeat (first | rw [va_up_self] | rw [va_up_ne _ _ (by omega)])); all_goals rfl)⟩, fun j hj => ?_, fun z => (by cases z)⟩, (Sc_fr hsc (Nat.le_refl _) (fun k hk => (by (repeat (first | rw [va_up_self] | rw [va_up_ne _ _ (by omega)])); all_goals rfl))), hkf, hkl⟩
        by_cases hj2 : j = m
        · subst hj2
          have hl8 : l.length ≤ 8 := by have := hkl.2; have := hrk.1.2.2.1.2; omega
          refine ⟨LNx_b ⟨⟨(m0).1, (by (repeat (first | rw [va_up_self] | rw [va_up_ne _ _ (by omega)])); all_goals rfl)⟩, ⟨(m1).1, (by (repeat (first | rw [va_up_self] | rw [va_up_ne _ _ (by omega)])); all_goals rfl)⟩, ⟨(m2).1, (by (repeat (first | rw [va_up_self] | rw [va_up_ne _ _ (by omega)])); all_goals rfl)⟩, ⟨(m3).1, (by (repeat (first | rw [va_up_self] | rw [va_up_ne _ _ (by omega)])); all_goals rfl)⟩, ⟨(m4).1, (by (repeat (first | rw [va_up_self] | rw [va_up_ne _ _ (by omega)])); all_goals rfl)⟩⟩ hlr.2, fun z => ?_, fun z hz => ?_⟩
          · rw [eq2, va_up_self] at z; cases z
          · rw [eq2, va_up_self] at hz
            injection hz with hz
            subst hz
            refine ⟨by rw [ep, va_up_self], h174, p, l, (GK_hi (Nat.le_refl _) (fun k h1 h2 => (by (repeat (first | rw [va_up_self] | rw [va_up_ne _ _ (by omega)])); all_goals rfl))) c p h174 hrk.1.2.2.2.2.1.2 hgs, hrk, hkl.1, hkl.2, PR_congr (fun i hi => ?_) hl8 pr, LNx_k ⟨⟨(m0).1, (by (repeat (first | rw [va_up_self] | rw [va_up_ne _ _ (by omega)])); all_goals rfl)⟩, ⟨(m1).1, (by (repeat (first | rw [va_up_self] | rw [va_up_ne _ _ (by omega)])); all_goals rfl)⟩, ⟨(m2).1, (by (repeat (first | rw [va_up_self] | rw [va_up_ne _ _ (by omega)])); all_goals rfl)⟩, ⟨(m3).1, (by (repeat (first | rw [va_up_self] | rw [va_up_ne _ _ (by omega)])); all_goals rfl)⟩, ⟨(m4).1, (by (repeat (first | rw [va_up_self] | rw [va_up_ne _ _ (by omega)])); all_goals rfl)⟩⟩ hlr hn hs2⟩
            show im2 (138 * j + i) = a i
            rw [ei]
            unfold cpI
            rw [if_pos (by omega), show 0 + (138 * j + i - 138 * j) = i by omega]
        · have e1 : gq2 j = gq j := by rw [eq2, va_up_ne _ _ hj2]
          have e3 : kp2 j = kp j := by rw [ep, va_up_ne _ _ hj2]
          rw [e1, e3]
          refine Im1_cg (fun i hi => ?_) (Im1_fr (iH j hj) (Nat.le_refl _) (GK_hi (Nat.le_refl _) (fun k h1 h2 => (by (repeat (first | rw [va_up_self] | rw [va_up_ne _ _ (by omega)])); all_goals rfl))) (fun q hq1 hq2 => (by (repeat (first | rw [va_up_self] | rw [va_up_ne _ _ (by omega)])); all_goals rfl)))
          rw [ei]
          unfold cpI
          rw [if_neg (by omega)]
theorem st_restore {E : XE} {B N : Nat} {v : Nat → va_E} {k : Int} (h : REL E B N v) (r_k : (-2147483648 ≤ k ∧ k ≤ 2147483647)) : gM yX11_restore wsX11_restore ({ frames := 2, cells := 0, slots := 0, locals := 61 }) E B N v [.ref (B + 0), .int (zI k)] (PB E B yX12_restore wsX12_restore ({ frames := 1, cells := 0, slots := 0, locals := 25 }) [.ref (B + 161), .int (zI k)]) := by
  obtain ⟨cu, old, kept, fau, fin, F, V, p, l, h⟩ := h
  obtain ⟨hN, ho, hm, hrw, htp, htr, hln, hno, hac, hgr, him, hsc, hkf, hkl⟩ := id h
  obtain ⟨a, ca, pr⟩ := hno
  obtain ⟨gq, im, kp, i13, i14, i168, i169, iH, iN⟩ := id him
  have hkp : ∀ i, i < 2 → 0 ≤ kp i ∧ kp i ≤ 1 := fun i hi => by
    have := iH i hi
    cases hq : gq i with
    | none => have := this.2.1 hq; omega
    | some q => have := (this.2.2 q hq).1; omega
  have NO : ((0 ≤ k ∧ k ≤ 1) → gq k.toNat = none) → gM yX11_restore wsX11_restore ({ frames := 2, cells := 0, slots := 0, locals := 61 }) E B N v [.ref (B + 0), .int (zI k)] (PB E B yX12_restore wsX12_restore ({ frames := 1, cells := 0, slots := 0, locals := 25 }) [.ref (B + 161), .int (zI k)]) := fun hno => by
    refine gM_mono (c_X11_restore_n ho i14 r_k hno) ?_
    rintro ρ N1 v1 ⟨rfl, res, hc, rfl, rfl⟩ -
    refine ⟨_, rfl, ⟨F, V, hm⟩, ?_⟩
    refine gM_mono (c_X12_restore hm ca i168 i169 r_k hkp) ?_
    rintro ρ2 N2 v2 ⟨rfl, res2, nn2, aa2, hc2, rfl, rfl⟩ -
    rcases hc2 with ⟨q2, e2, rfl, rfl⟩ | ⟨q2, _, e2, rfl, rfl⟩ | ⟨q2, q3, _⟩
    · rw [va_up_id, cel_pad hm, cel_pad ca]
      exact ⟨res_eq (by rcases hc with ⟨q, e⟩ | ⟨q, e⟩ <;> omega), RELx_in h⟩
    · rw [va_up_id, cel_pad hm, cel_pad ca]
      exact ⟨res_eq (by rcases hc with ⟨q, e⟩ | ⟨q, e⟩ <;> omega), RELx_in h⟩
    · have := (iH k.toNat (by omega)).2.1 (hno q2)
      omega
  by_cases hk : 0 ≤ k ∧ k ≤ 1
  · cases hq : gq k.toNat with
    | none => exact NO (fun _ => hq)
    | some q =>
      obtain ⟨⟨n8, g8, h8, s8, t8, -, -⟩, -, iS⟩ := iH k.toNat (by omega)
      obtain ⟨y1, y2, pk, lk, y3, y4, y5, y6, y7, ⟨n9, g9, h9, s9, t9, ⟨m0, m1, m2, m3, m4⟩, hlr9, hn9, hsr9⟩⟩ := iS q hq
      obtain ⟨n, g, h', s, t, ⟨l0, l1, l2, l3, l4⟩, hlr, hn, hsr⟩ := id hln
      have hcu : F 7 = 1 := by
        cases cu with
        | none => exact absurd (iN rfl k.toNat (by omega)) (by rw [hq]; simp)
        | some c => exact hkf.2.2.2.2 c rfl
      have hk2 : k.toNat < 2 := by omega
      refine gM_mono (c_X11_restore_y (q1 := 0) (q2 := 0) (q3 := 0) (q4 := 0) (q5 := 0) (q6 := 0) (e := 151 + 5 * k.toNat) (q := q) ho i13 i14 m0 m1 m2 m3 m4 l0 l1 l2 l3 l4 hk (fun _ => hq) rfl hlr9.2) ?_
      rintro ρ N1 v1 ⟨rfl, rfl, rfl⟩ -
      refine ⟨1, rfl, ⟨F, V, (cel_fr hm (Nat.le_refl _) (by (repeat (first | rw [va_up_self] | rw [va_up_ne _ _ (by omega)])); all_goals rfl))⟩, ?_⟩
      refine gM_mono (c_X12_restore (cel_fr hm (Nat.le_refl _) (by (repeat (first | rw [va_up_self] | rw [va_up_ne _ _ (by omega)])); all_goals rfl)) (cel_fr ca (Nat.le_refl _) (by (repeat (first | rw [va_up_self] | rw [va_up_ne _ _ (by omega)])); all_goals rfl)) (cel_fr i168 (Nat.le_refl _) (by (repeat (first | rw [va_up_self] | rw [va_up_ne _ _ (by omega)])); all_goals rfl)) (cel_fr i169 (Nat.le_refl _) (by (repeat (first | rw [va_up_self] | rw [va_up_ne _ _ (by omega)])); all_goals rfl)) r_k hkp) ?_
      rintro ρ2 N2 v2 ⟨rfl, res2, nn2, aa2, hc2, rfl, rfl⟩ -
      rcases hc2 with ⟨q2, _⟩ | ⟨q2, q3, _⟩ | ⟨q2, q3, e2, rfl, ea⟩
      · exact absurd hk q2
      · omega
      · have hl8 : lk.length ≤ 8 := by have := y4.1.2.2.1.2; omega
        refine ⟨res_eq e2, some q, old, 0, fau, fin, va_up F 9 0, V, pk, lk, hN, ⟨(ho).1, (by (repeat (first | rw [va_up_self] | rw [va_up_ne _ _ (by omega)])); all_goals rfl)⟩, ⟨(hm).1, (by (repeat (first | rw [va_up_self] | rw [va_up_ne _ _ (by omega)])); all_goals rfl)⟩, Rw_fr hrw (Nat.le_refl _) (fun k hk => (by (repeat (first | rw [va_up_self] | rw [va_up_ne _ _ (by omega)])); all_goals rfl)), Tp_fr htp (Nat.le_refl _) (fun k hk => (by (repeat (first | rw [va_up_self] | rw [va_up_ne _ _ (by omega)])); all_goals rfl)), Tr_fr htr (Nat.le_refl _) (fun k hk => (by (repeat (first | rw [va_up_self] | rw [va_up_ne _ _ (by omega)])); all_goals rfl)), ⟨n9, g9, h9, s9, t9, ⟨⟨(l0).1, (by (repeat (first | rw [va_up_self] | rw [va_up_ne _ _ (by omega)])); all_goals rfl)⟩, ⟨(l1).1, (by (repeat (first | rw [va_up_self] | rw [va_up_ne _ _ (by omega)])); all_goals rfl)⟩, ⟨(l2).1, (by (repeat (first | rw [va_up_self] | rw [va_up_ne _ _ (by omega)])); all_goals rfl)⟩, ⟨(l3).1, (by (repeat (first | rw [va_up_self] | rw [va_up_ne _ _ (by omega)])); all_goals rfl)⟩, ⟨(l4).1, (by (repeat (first | rw [va_up_self] | rw [va_up_ne _ _ (by omega)])); all_goals rfl)⟩⟩, hlr9, hn9, fun _ => hsr9⟩, ⟨aa2, ⟨(ca).1, (by (repeat (first | rw [va_up_self] | rw [va_up_ne _ _ (by omega)])); all_goals rfl)⟩, PR_congr (fun i hi => ?_) hl8 y7⟩, Ac_nil hac (Nat.le_refl _) (fun k hk => (by (repeat (first | rw [va_up_self] | rw [va_up_ne _ _ (by omega)])); all_goals rfl)), ⟨fun z => (by cases z), fun c hc => ?_⟩, Im_some (Im_fr him (Nat.le_refl _) (GK_hi (Nat.le_refl _) (fun k h1 h2 => (by (repeat (first | rw [va_up_self] | rw [va_up_ne _ _ (by omega)])); all_goals rfl))) (fun k hk => (by (repeat (first | rw [va_up_self] | rw [va_up_ne _ _ (by omega)])); all_goals rfl))), (Sc_fr hsc (Nat.le_refl _) (fun k hk => (by (repeat (first | rw [va_up_self] | rw [va_up_ne _ _ (by omega)])); all_goals rfl))), ⟨hkf.1, hkf.2.1, rfl, fun z => (by cases z), fun c hc => hcu⟩, y5, y6⟩
        · rw [ea]
          exact cpI_138 i hi
        · injection hc with hc
          subst hc
          exact ⟨y2, (GK_hi (Nat.le_refl _) (fun k h1 h2 => (by (repeat (first | rw [va_up_self] | rw [va_up_ne _ _ (by omega)])); all_goals rfl))) q pk y2 y4.1.2.2.2.2.1.2 y3, y4⟩
  · exact NO (fun q => absurd q hk)
/-- both are new -/
theorem REL_init {E : XE} {B : Nat} {v w : Nat → va_E} (h : XI E B 161 v 8 24 2) (hw : ∀ k, k < 161 → w k = v k) (c0 : Cel 174 w 161 (oM B (fun _ => (0 : Int)) 0)) (c1 : Cel 174 w 162 (iarr E 8 (fun _ => (0 : Int)))) (c2 : Cel 174 w 163 (iarr E 8 (fun _ => (-1 : Int)))) (c3 : Cel 174 w 164 (iarr E 320 (fun _ => (0 : Int)))) (c4 : Cel 174 w 165 (iarr E 400 (fun _ => (0 : Int)))) (c5 : Cel 174 w 166 (iarr E 138 (fun _ => (0 : Int)))) (c6 : Cel 174 w 167 (iarr E 3312 (fun _ => (0 : Int)))) (c7 : Cel 174 w 168 (iarr E 276 (fun _ => (0 : Int)))) (c8 : Cel 174 w 169 (barr E 2 (fun _ => (0 : Int)))) (c9 : Cel 174 w 170 (iarr E 16 (fun _ => (0 : Int)))) (c10 : Cel 174 w 171 (iarr E 138 (fun _ => (0 : Int)))) (c11 : Cel 174 w 172 (iarr E 138 (fun _ => (0 : Int)))) (c12 : Cel 174 w 173 (iarr E 138 (fun _ => (0 : Int)))) : REL E B 174 w := by
  obtain ⟨-, x0, x1, x2, x3, x4, x5, x6, x7, x12, x13, x14, xr, xa, xi⟩ := h
  have K : ∀ (k : Nat) (x : va_E), Cel 161 v k x → Cel 174 w k x := fun k x hx => cel_fr hx (by omega) (hw k hx.1)
  have L : ∀ c, LZ E B 161 v c → LNx E B 174 w c 0 (fun _ => 0) (fun _ => 0) (fun _ => 0) (fun _ => 0) := fun c ⟨a0, a1, a2, a3, a4⟩ => ⟨K _ _ a0, K _ _ a1, K _ _ a2, K _ _ a3, K _ _ a4⟩
  have hb : HB (fun _ => 0) := fun k _ => ⟨Int.le_refl _, (by decide : (0 : Int) ≤ 1)⟩
  have hLR : LR (fun _ => 0) (fun _ => 0) [] := LR_0 hb
  refine ⟨none, 0, 0, 0, 0, fun _ => 0, 0, fun _ => 0, [], Nat.le_refl _, K _ _ x0, c0, ⟨fun _ => -1, fun _ => 0, fun _ _ => 0, fun _ => 0, fun _ => -1, fun _ => 0, ⟨K _ _ x1, fun i hi => ⟨K _ _ (xr i hi).1, ?_⟩⟩, c1, c2, c3, fun i hi => ?_⟩, ⟨0, 0, 0, 0, 0, 0, 0, fun _ => 0, fun _ => 0, rfl, by omega, fun _ => ⟨Int.le_refl _, (by decide : (0 : Int) ≤ 255)⟩, K _ _ x2, K _ _ x3, K _ _ x4, c4⟩, ⟨0, fun _ => 0, rfl, by omega, K _ _ x5, K _ _ x6, c9⟩, ⟨0, _, _, _, _, L 7 x7, hLR, rfl, fun z => absurd rfl z⟩, ⟨_, c5, fun _ _ => rfl, rfl, fun k hk => absurd hk (Nat.not_lt_zero k)⟩, ⟨[], _, K _ _ x12, fun j hj => ⟨0, _, _, _, _, L _ (xa j hj), hb⟩, fun j hj => absurd hj (Nat.not_lt_zero j), c6, ⟨Nat.zero_le _, fun j hj => absurd hj (Nat.not_lt_zero j)⟩, fun l hl => absurd hl List.not_mem_nil, by omega, rfl⟩, ⟨fun _ => rfl, fun c hc => (by cases hc)⟩, ⟨fun _ => none, fun _ => 0, fun _ => 0, K _ _ x13, K _ _ x14, c7, c8, fun k hk => ⟨⟨0, _, _, _, _, L _ (xi k hk), hb⟩, fun _ => rfl, fun q hq => (by cases hq)⟩, fun _ _ _ => rfl⟩, ⟨_, _, _, c10, c11, c12⟩, ⟨rfl, rfl, rfl, fun _ => rfl, fun c hc => (by cases hc)⟩, CorOk_0, by show ((0 : Nat) : Int) ≤ 0; omega⟩
  · have := K _ _ (xr i hi).2
    rw [show 16 + 2 * i = 15 + 2 * i + 1 by omega] at this
    exact this
  · exact ⟨⟨Int.le_refl _, (by decide : (-1 : Int) ≤ 2)⟩, ⟨Int.le_refl _, (by decide : (0 : Int) ≤ 40)⟩, ⟨Int.le_refl _, (by decide : (0 : Int) ≤ 2)⟩, ⟨Int.le_refl _, (by decide : (-1 : Int) ≤ 40)⟩, ⟨fun _ => rfl, fun _ => (by decide : (-1 : Int) < 0)⟩, fun z => absurd rfl z⟩

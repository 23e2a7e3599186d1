theorem st_best {E : XE} {B N : Nat} {v : Nat → va_E} {x : Int} {what : Int} (h : REL E B N v) (r_x : (-2147483648 ≤ x ∧ x ≤ 2147483647)) (r_what : (-2147483648 ≤ what ∧ what ≤ 2147483647)) : gM yX11_best wsX11_best ({ frames := 5, cells := 0, slots := 0, locals := 130 }) E B N v [.ref (B + 0), .int (zI x), .int (zI what)] (PB E B yX12_best wsX12_best ({ frames := 4, cells := 0, slots := 0, locals := 102 }) [.ref (B + 161), .int (zI x), .int (zI what)]) := by
  obtain ⟨cu, old, kept, fau, fin, F, V, p, l, h⟩ := h
  obtain ⟨hN, ho, hm, hrw, htp, htr, hln, hno, hac, hgr, him, hsc, hkf, hkl⟩ := id h
  obtain ⟨a, ca, pr⟩ := hno
  obtain ⟨sr, sf, st, s1, s2, s3⟩ := hsc
  have hp := Gr_ok hgr
  cases cu with
  | none =>
    have hp0 : p 4 = 0 := by rw [hgr.1 rfl]
    refine gM_mono (c_X11_best_0 ho) ?_
    rintro ρ N1 v1 ⟨rfl, rfl, rfl⟩ -
    refine ⟨_, rfl, ⟨F, V, hm⟩, ?_⟩
    refine gM_mono (c_X12_best hm ca s3 pr hp hkl.1 hkl.2 r_x r_what) ?_
    rintro ρ2 N2 v2 ⟨rfl, res2, bl, t2, hc2, rfl, rfl⟩ -
    have key : res2 = -1000001 := by rcases hc2 with ⟨_, e⟩ | ⟨q, _⟩ <;> omega
    clear hc2
    exact ⟨res_eq key, RELx_fin (F2 := va_up F 25 bl) (V2 := V) h (fun k h0 h1 h2 h3 h4 h5 => (by (repeat (first | rw [va_up_self] | rw [va_up_ne _ _ (by omega)])); all_goals rfl)) (GK_hi (Nat.le_refl _) (fun k h1 h2 => (by (repeat (first | rw [va_up_self] | rw [va_up_ne _ _ (by omega)])); all_goals rfl))) (cel_fr ho (Nat.le_refl _) (by (repeat (first | rw [va_up_self] | rw [va_up_ne _ _ (by omega)])); all_goals rfl)) ⟨(hm).1, (by (repeat (first | rw [va_up_self] | rw [va_up_ne _ _ (by omega)])); all_goals rfl)⟩ ⟨sr, sf, _, (cel_fr s1 (Nat.le_refl _) (by (repeat (first | rw [va_up_self] | rw [va_up_ne _ _ (by omega)])); all_goals rfl)), (cel_fr s2 (Nat.le_refl _) (by (repeat (first | rw [va_up_self] | rw [va_up_ne _ _ (by omega)])); all_goals rfl)), ⟨(s3).1, (by (repeat (first | rw [va_up_self] | rw [va_up_ne _ _ (by omega)])); all_goals rfl)⟩⟩ (sF_b hkf.1)⟩
  | some c =>
    obtain ⟨h174, hgs, hrk⟩ := hgr.2 c rfl
    obtain ⟨a0, a1, a2, a3, a4, a5, a6, ⟨n1, g1, h1, i1, t1, b0, b1, b2, b3, b4⟩, ⟨n8, g8, h8, i8, t8, d0, d1, d2, d3, d4⟩⟩ := id hgs
    obtain ⟨n, g, h', s, t, ⟨l0, l1, l2, l3, l4⟩, hlr, hn, hsr⟩ := hln
    refine gM_mono (c_X11_best_c ho a0 l0 l1 l2 l3 l4 b0 b1 b2 b3 b4 a2 a3 a4 a5 a6 hlr ⟨hn, hkl.2⟩ hkl.1 (hsr (by simp)) hp hrk.2.2.2.2 (by omega) r_x r_what) ?_
    rintro ρ N1 v1 ⟨rfl, res, n9, g9, h9, s9, t9, hc, rfl, rfl⟩ -
    refine ⟨res, rfl, ⟨F, V, (cel_fr hm (Nat.le_refl _) (by (repeat (first | rw [va_up_self] | rw [va_up_ne _ _ (by omega)])); all_goals rfl))⟩, ?_⟩
    refine gM_mono (c_X12_best (cel_fr hm (Nat.le_refl _) (by (repeat (first | rw [va_up_self] | rw [va_up_ne _ _ (by omega)])); all_goals rfl)) (cel_fr ca (Nat.le_refl _) (by (repeat (first | rw [va_up_self] | rw [va_up_ne _ _ (by omega)])); all_goals rfl)) (cel_fr s3 (Nat.le_refl _) (by (repeat (first | rw [va_up_self] | rw [va_up_ne _ _ (by omega)])); all_goals rfl)) pr hp hkl.1 hkl.2 r_x r_what) ?_
    rintro ρ2 N2 v2 ⟨rfl, res2, bl, t2, hc2, rfl, rfl⟩ -
    have key : res2 = res := by
      rcases hc with ⟨q, e⟩ | ⟨q, e⟩ <;> rcases hc2 with ⟨q2, e2⟩ | ⟨q2, e2⟩ <;> first | exact absurd q2 q | exact absurd q q2 | (rw [e, e2]; done) | (rw [e, e2]; rfl)
    clear hc hc2
    exact ⟨res_eq key, RELx_fin (F2 := va_up F 25 bl) (V2 := V) h (fun k h0 h1 h2 h3 h4 h5 => (by (repeat (first | rw [va_up_self] | rw [va_up_ne _ _ (by omega)])); all_goals rfl)) (GK_ln hgs (fun k hk1 hk2 => (by (repeat (first | rw [va_up_self] | rw [va_up_ne _ _ (by omega)])); all_goals rfl)) ⟨_, _, _, _, _, ⟨b0.1, (by (repeat (first | rw [va_up_self] | rw [va_up_ne _ _ (by omega)])); all_goals rfl)⟩, ⟨b1.1, (by (repeat (first | rw [va_up_self] | rw [va_up_ne _ _ (by omega)])); all_goals rfl)⟩, ⟨b2.1, (by (repeat (first | rw [va_up_self] | rw [va_up_ne _ _ (by omega)])); all_goals rfl)⟩, ⟨b3.1, (by (repeat (first | rw [va_up_self] | rw [va_up_ne _ _ (by omega)])); all_goals rfl)⟩, ⟨b4.1, (by (repeat (first | rw [va_up_self] | rw [va_up_ne _ _ (by omega)])); all_goals rfl)⟩⟩ ⟨_, _, _, _, _, (cel_fr d0 (Nat.le_refl _) (by (repeat (first | rw [va_up_self] | rw [va_up_ne _ _ (by omega)])); all_goals rfl)), (cel_fr d1 (Nat.le_refl _) (by (repeat (first | rw [va_up_self] | rw [va_up_ne _ _ (by omega)])); all_goals rfl)), (cel_fr d2 (Nat.le_refl _) (by (repeat (first | rw [va_up_self] | rw [va_up_ne _ _ (by omega)])); all_goals rfl)), (cel_fr d3 (Nat.le_refl _) (by (repeat (first | rw [va_up_self] | rw [va_up_ne _ _ (by omega)])); all_goals rfl)), (cel_fr d4 (Nat.le_refl _) (by (repeat (first | rw [va_up_self] | rw [va_up_ne _ _ (by omega)])); all_goals rfl))⟩) (cel_fr ho (Nat.le_refl _) (by (repeat (first | rw [va_up_self] | rw [va_up_ne _ _ (by omega)])); all_goals rfl)) ⟨(hm).1, (by (repeat (first | rw [va_up_self] | rw [va_up_ne _ _ (by omega)])); all_goals rfl)⟩ ⟨sr, sf, _, (cel_fr s1 (Nat.le_refl _) (by (repeat (first | rw [va_up_self] | rw [va_up_ne _ _ (by omega)])); all_goals rfl)), (cel_fr s2 (Nat.le_refl _) (by (repeat (first | rw [va_up_self] | rw [va_up_ne _ _ (by omega)])); all_goals rfl)), ⟨(s3).1, (by (repeat (first | rw [va_up_self] | rw [va_up_ne _ _ (by omega)])); all_goals rfl)⟩⟩ (sF_b hkf.1)⟩
theorem st_answer {E : XE} {B N : Nat} {v : Nat → va_E} {x : Int} {y : Int} {what : Int} (h : REL E B N v) (r_x : (-2147483648 ≤ x ∧ x ≤ 2147483647)) (r_y : (-2147483648 ≤ y ∧ y ≤ 2147483647)) (r_what : (-2147483648 ≤ what ∧ what ≤ 2147483647)) : gM yX11_answer wsX11_answer ({ frames := 5, cells := 0, slots := 0, locals := 130 }) E B N v [.ref (B + 0), .int (zI x), .int (zI y), .int (zI what)] (PB E B yX12_answer wsX12_answer ({ frames := 4, cells := 0, slots := 0, locals := 102 }) [.ref (B + 161), .int (zI x), .int (zI y), .int (zI what)]) := by
  obtain ⟨cu, old, kept, fau, fin, F, V, p, l, h⟩ := h
  obtain ⟨hN, ho, hm, hrw, htp, htr, hln, hno, hac, hgr, him, hsc, hkf, hkl⟩ := id h
  obtain ⟨a, ca, pr⟩ := hno
  obtain ⟨sr, sf, st, s1, s2, s3⟩ := hsc
  have hp := Gr_ok hgr
  cases cu with
  | none =>
    have hp0 : p 4 = 0 := by rw [hgr.1 rfl]
    refine gM_mono (c_X11_answer_0 ho) ?_
    rintro ρ N1 v1 ⟨rfl, rfl, rfl⟩ -
    refine ⟨_, rfl, ⟨F, V, hm⟩, ?_⟩
    refine gM_mono (c_X12_answer hm ca s3 s2 pr hp hkl.1 hkl.2 r_x r_y r_what) ?_
    rintro ρ2 N2 v2 ⟨rfl, res2, bl, t2, f2, hc2, rfl, rfl⟩ -
    have key : res2 = -1000001 := by rcases hc2 with ⟨_, e⟩ | ⟨⟨⟨q, _⟩, _⟩, _⟩ <;> omega
    clear hc2
    exact ⟨res_eq key, RELx_fin (F2 := va_up F 25 bl) (V2 := V) h (fun k h0 h1 h2 h3 h4 h5 => (by (repeat (first | rw [va_up_self] | rw [va_up_ne _ _ (by omega)])); all_goals rfl)) (GK_hi (Nat.le_refl _) (fun k h1 h2 => (by (repeat (first | rw [va_up_self] | rw [va_up_ne _ _ (by omega)])); all_goals rfl))) (cel_fr ho (Nat.le_refl _) (by (repeat (first | rw [va_up_self] | rw [va_up_ne _ _ (by omega)])); all_goals rfl)) ⟨(hm).1, (by (repeat (first | rw [va_up_self] | rw [va_up_ne _ _ (by omega)])); all_goals rfl)⟩ ⟨sr, _, _, (cel_fr s1 (Nat.le_refl _) (by (repeat (first | rw [va_up_self] | rw [va_up_ne _ _ (by omega)])); all_goals rfl)), ⟨(s2).1, (by (repeat (first | rw [va_up_self] | rw [va_up_ne _ _ (by omega)])); all_goals rfl)⟩, ⟨(s3).1, (by (repeat (first | rw [va_up_self] | rw [va_up_ne _ _ (by omega)])); all_goals rfl)⟩⟩ (sF_b hkf.1)⟩
  | some c =>
    obtain ⟨h174, hgs, hrk⟩ := hgr.2 c rfl
    obtain ⟨a0, a1, a2, a3, a4, a5, a6, ⟨n1, g1, h1, i1, t1, b0, b1, b2, b3, b4⟩, ⟨n8, g8, h8, i8, t8, d0, d1, d2, d3, d4⟩⟩ := id hgs
    obtain ⟨n, g, h', s, t, ⟨l0, l1, l2, l3, l4⟩, hlr, hn, hsr⟩ := hln
    refine gM_mono (c_X11_answer_c ho a0 l0 l1 l2 l3 l4 b0 b1 b2 b3 b4 d0 d1 d2 d3 d4 a2 a3 a4 a5 a6 hlr ⟨hn, hkl.2⟩ hkl.1 (hsr (by simp)) hp hrk.2.2.2.2 (by omega) r_x r_y r_what) ?_
    rintro ρ N1 v1 ⟨rfl, res, n9, g9, h9, s9, t9, n7, g7, h7, s7, t7, hc, rfl, rfl⟩ -
    refine ⟨res, rfl, ⟨F, V, (cel_fr hm (Nat.le_refl _) (by (repeat (first | rw [va_up_self] | rw [va_up_ne _ _ (by omega)])); all_goals rfl))⟩, ?_⟩
    refine gM_mono (c_X12_answer (cel_fr hm (Nat.le_refl _) (by (repeat (first | rw [va_up_self] | rw [va_up_ne _ _ (by omega)])); all_goals rfl)) (cel_fr ca (Nat.le_refl _) (by (repeat (first | rw [va_up_self] | rw [va_up_ne _ _ (by omega)])); all_goals rfl)) (cel_fr s3 (Nat.le_refl _) (by (repeat (first | rw [va_up_self] | rw [va_up_ne _ _ (by omega)])); all_goals rfl)) (cel_fr s2 (Nat.le_refl _) (by (repeat (first | rw [va_up_self] | rw [va_up_ne _ _ (by omega)])); all_goals rfl)) pr hp hkl.1 hkl.2 r_x r_y r_what) ?_
    rintro ρ2 N2 v2 ⟨rfl, res2, bl, t2, f2, hc2, rfl, rfl⟩ -
    have key : res2 = res := by
      rcases hc with ⟨q, e⟩ | ⟨q, e⟩ <;> rcases hc2 with ⟨q2, e2⟩ | ⟨q2, e2⟩ <;> first | exact absurd q2 q | exact absurd q q2 | (rw [e, e2]; done) | (rw [e, e2]; rfl)
    clear hc hc2
    exact ⟨res_eq key, RELx_fin (F2 := va_up F 25 bl) (V2 := V) h (fun k h0 h1 h2 h3 h4 h5 => (by (repeat (first | rw [va_up_self] | rw [va_up_ne _ _ (by omega)])); all_goals rfl)) (GK_ln hgs (fun k hk1 hk2 => (by (repeat (first | rw [va_up_self] | rw [va_up_ne _ _ (by omega)])); all_goals rfl)) ⟨_, _, _, _, _, ⟨b0.1, (by (repeat (first | rw [va_up_self] | rw [va_up_ne _ _ (by omega)])); all_goals rfl)⟩, ⟨b1.1, (by (repeat (first | rw [va_up_self] | rw [va_up_ne _ _ (by omega)])); all_goals rfl)⟩, ⟨b2.1, (by (repeat (first | rw [va_up_self] | rw [va_up_ne _ _ (by omega)])); all_goals rfl)⟩, ⟨b3.1, (by (repeat (first | rw [va_up_self] | rw [va_up_ne _ _ (by omega)])); all_goals rfl)⟩, ⟨b4.1, (by (repeat (first | rw [va_up_self] | rw [va_up_ne _ _ (by omega)])); all_goals rfl)⟩⟩ ⟨_, _, _, _, _, ⟨d0.1, (by (repeat (first | rw [va_up_self] | rw [va_up_ne _ _ (by omega)])); all_goals rfl)⟩, ⟨d1.1, (by (repeat (first | rw [va_up_self] | rw [va_up_ne _ _ (by omega)])); all_goals rfl)⟩, ⟨d2.1, (by (repeat (first | rw [va_up_self] | rw [va_up_ne _ _ (by omega)])); all_goals rfl)⟩, ⟨d3.1, (by (repeat (first | rw [va_up_self] | rw [va_up_ne _ _ (by omega)])); all_goals rfl)⟩, ⟨d4.1, (by (repeat (first | rw [va_up_self] | rw [va_up_ne _ _ (by omega)])); all_goals rfl)⟩⟩) (cel_fr ho (Nat.le_refl _) (by (repeat (first | rw [va_up_self] | rw [va_up_ne _ _ (by omega)])); all_goals rfl)) ⟨(hm).1, (by (repeat (first | rw [va_up_self] | rw [va_up_ne _ _ (by omega)])); all_goals rfl)⟩ ⟨sr, _, _, (cel_fr s1 (Nat.le_refl _) (by (repeat (first | rw [va_up_self] | rw [va_up_ne _ _ (by omega)])); all_goals rfl)), ⟨(s2).1, (by (repeat (first | rw [va_up_self] | rw [va_up_ne _ _ (by omega)])); all_goals rfl)⟩, ⟨(s3).1, (by (repeat (first | rw [va_up_self] | rw [va_up_ne _ _ (by omega)])); all_goals rfl)⟩⟩ (sF_b hkf.1)⟩
theorem st_game {E : XE} {B N : Nat} {v : Nat → va_E} {x : Int} {y : Int} {what : Int} (h : REL E B N v) (r_x : (-2147483648 ≤ x ∧ x ≤ 2147483647)) (r_y : (-2147483648 ≤ y ∧ y ≤ 2147483647)) (r_what : (-2147483648 ≤ what ∧ what ≤ 2147483647)) : gM yX11_game wsX11_game ({ frames := 6, cells := 0, slots := 0, locals := 157 }) E B N v [.ref (B + 0), .int (zI x), .int (zI y), .int (zI what)] (PB E B yX12_game wsX12_game ({ frames := 4, cells := 0, slots := 0, locals := 102 }) [.ref (B + 161), .int (zI x), .int (zI y), .int (zI what)]) := by
  obtain ⟨cu, old, kept, fau, fin, F, V, p, l, h⟩ := h
  obtain ⟨hN, ho, hm, hrw, htp, htr, hln, hno, hac, hgr, him, hsc, hkf, hkl⟩ := id h
  obtain ⟨a, ca, pr⟩ := hno
  obtain ⟨sr, sf, st, s1, s2, s3⟩ := hsc
  have hp := Gr_ok hgr
  cases cu with
  | none =>
    have hp0 : p 4 = 0 := by rw [hgr.1 rfl]
    refine gM_mono (c_X11_game_0 ho) ?_
    rintro ρ N1 v1 ⟨rfl, rfl, rfl⟩ -
    refine ⟨_, rfl, ⟨F, V, hm⟩, ?_⟩
    refine gM_mono (c_X12_game hm ca s3 s2 pr hp hkl.1 hkl.2 r_x r_y r_what) ?_
    rintro ρ2 N2 v2 ⟨rfl, res2, bl, t2, f2, hc2, rfl, rfl⟩ -
    have key : res2 = -1000001 := by rcases hc2 with ⟨_, e⟩ | ⟨⟨⟨q, _⟩, _⟩, _⟩ <;> omega
    clear hc2
    exact ⟨res_eq key, RELx_fin (F2 := va_up F 25 bl) (V2 := V) h (fun k h0 h1 h2 h3 h4 h5 => (by (repeat (first | rw [va_up_self] | rw [va_up_ne _ _ (by omega)])); all_goals rfl)) (GK_hi (Nat.le_refl _) (fun k h1 h2 => (by (repeat (first | rw [va_up_self] | rw [va_up_ne _ _ (by omega)])); all_goals rfl))) (cel_fr ho (Nat.le_refl _) (by (repeat (first | rw [va_up_self] | rw [va_up_ne _ _ (by omega)])); all_goals rfl)) ⟨(hm).1, (by (repeat (first | rw [va_up_self] | rw [va_up_ne _ _ (by omega)])); all_goals rfl)⟩ ⟨sr, _, _, (cel_fr s1 (Nat.le_refl _) (by (repeat (first | rw [va_up_self] | rw [va_up_ne _ _ (by omega)])); all_goals rfl)), ⟨(s2).1, (by (repeat (first | rw [va_up_self] | rw [va_up_ne _ _ (by omega)])); all_goals rfl)⟩, ⟨(s3).1, (by (repeat (first | rw [va_up_self] | rw [va_up_ne _ _ (by omega)])); all_goals rfl)⟩⟩ (sF_b hkf.1)⟩
  | some c =>
    obtain ⟨h174, hgs, hrk⟩ := hgr.2 c rfl
    obtain ⟨a0, a1, a2, a3, a4, a5, a6, ⟨n1, g1, h1, i1, t1, b0, b1, b2, b3, b4⟩, ⟨n8, g8, h8, i8, t8, d0, d1, d2, d3, d4⟩⟩ := id hgs
    obtain ⟨n, g, h', s, t, ⟨l0, l1, l2, l3, l4⟩, hlr, hn, hsr⟩ := hln
    refine gM_mono (c_X11_game_c ho a0 l0 l1 l2 l3 l4 b0 b1 b2 b3 b4 d0 d1 d2 d3 d4 a2 a3 a4 a5 a6 hlr ⟨hn, hkl.2⟩ hkl.1 (hsr (by simp)) hp hrk.2.2.2.2 (by omega) r_x r_y r_what) ?_
    rintro ρ N1 v1 ⟨rfl, res, n9, g9, h9, s9, t9, n7, g7, h7, s7, t7, hc, rfl, rfl⟩ -
    refine ⟨res, rfl, ⟨F, V, (cel_fr hm (Nat.le_refl _) (by (repeat (first | rw [va_up_self] | rw [va_up_ne _ _ (by omega)])); all_goals rfl))⟩, ?_⟩
    refine gM_mono (c_X12_game (cel_fr hm (Nat.le_refl _) (by (repeat (first | rw [va_up_self] | rw [va_up_ne _ _ (by omega)])); all_goals rfl)) (cel_fr ca (Nat.le_refl _) (by (repeat (first | rw [va_up_self] | rw [va_up_ne _ _ (by omega)])); all_goals rfl)) (cel_fr s3 (Nat.le_refl _) (by (repeat (first | rw [va_up_self] | rw [va_up_ne _ _ (by omega)])); all_goals rfl)) (cel_fr s2 (Nat.le_refl _) (by (repeat (first | rw [va_up_self] | rw [va_up_ne _ _ (by omega)])); all_goals rfl)) pr hp hkl.1 hkl.2 r_x r_y r_what) ?_
    rintro ρ2 N2 v2 ⟨rfl, res2, bl, t2, f2, hc2, rfl, rfl⟩ -
    have key : res2 = res := by
      rcases hc with ⟨q, e⟩ | ⟨q, e⟩ <;> rcases hc2 with ⟨q2, e2⟩ | ⟨q2, e2⟩ <;> first | exact absurd q2 q | exact absurd q q2 | (rw [e, e2]; done) | (rw [e, e2]; rfl)
    clear hc hc2
    exact ⟨res_eq key, RELx_fin (F2 := va_up F 25 bl) (V2 := V) h (fun k h0 h1 h2 h3 h4 h5 => (by (repeat (first | rw [va_up_self] | rw [va_up_ne _ _ (by omega)])); all_goals rfl)) (GK_ln hgs (fun k hk1 hk2 => (by (repeat (first | rw [va_up_self] | rw [va_up_ne _ _ (by omega)])); all_goals rfl)) ⟨_, _, _, _, _, ⟨b0.1, (by (repeat (first | rw [va_up_self] | rw [va_up_ne _ _ (by omega)])); all_goals rfl)⟩, ⟨b1.1, (by (repeat (first | rw [va_up_self] | rw [va_up_ne _ _ (by omega)])); all_goals rfl)⟩, ⟨b2.1, (by (repeat (first | rw [va_up_self] | rw [va_up_ne _ _ (by omega)])); all_goals rfl)⟩, ⟨b3.1, (by (repeat (first | rw [va_up_self] | rw [va_up_ne _ _ (by omega)])); all_goals rfl)⟩, ⟨b4.1, (by (repeat (first | rw [va_up_self] | rw [va_up_ne _ _ (by omega)])); all_goals rfl)⟩⟩ ⟨_, _, _, _, _, ⟨d0.1, (by (repeat (first | rw [va_up_self] | rw [va_up_ne _ _ (by omega)])); all_goals rfl)⟩, ⟨d1.1, (by (repeat (first | rw [va_up_self] | rw [va_up_ne _ _ (by omega)])); all_goals rfl)⟩, ⟨d2.1, (by (repeat (first | rw [va_up_self] | rw [va_up_ne _ _ (by omega)])); all_goals rfl)⟩, ⟨d3.1, (by (repeat (first | rw [va_up_self] | rw [va_up_ne _ _ (by omega)])); all_goals rfl)⟩, ⟨d4.1, (by (repeat (first | rw [va_up_self] | rw [va_up_ne _ _ (by omega)])); all_goals rfl)⟩⟩) (cel_fr ho (Nat.le_refl _) (by (repeat (first | rw [va_up_self] | rw [va_up_ne _ _ (by omega)])); all_goals rfl)) ⟨(hm).1, (by (repeat (first | rw [va_up_self] | rw [va_up_ne _ _ (by omega)])); all_goals rfl)⟩ ⟨sr, _, _, (cel_fr s1 (Nat.le_refl _) (by (repeat (first | rw [va_up_self] | rw [va_up_ne _ _ (by omega)])); all_goals rfl)), ⟨(s2).1, (by (repeat (first | rw [va_up_self] | rw [va_up_ne _ _ (by omega)])); all_goals rfl)⟩, ⟨(s3).1, (by (repeat (first | rw [va_up_self] | rw [va_up_ne _ _ (by omega)])); all_goals rfl)⟩⟩ (sF_b hkf.1)⟩
theorem st_held {E : XE} {B N : Nat} {v : Nat → va_E} {ld : Int} {n9 : Int} {w : Int} (h : REL E B N v) (r_ld : (-2147483648 ≤ ld ∧ ld ≤ 2147483647)) (r_n9 : (-2147483648 ≤ n9 ∧ n9 ≤ 2147483647)) (r_w : (-2147483648 ≤ w ∧ w ≤ 2147483647)) : gM yX11_held wsX11_held ({ frames := 6, cells := 0, slots := 0, locals := 153 }) E B N v [.ref (B + 0), .int (zI ld), .int (zI n9), .int (zI w)] (PB E B yX12_held wsX12_held ({ frames := 3, cells := 0, slots := 0, locals := 70 }) [.ref (B + 161), .int (zI ld), .int (zI n9), .int (zI w)]) := by
  obtain ⟨cu, old, kept, fau, fin, F, V, p, l, h⟩ := h
  obtain ⟨hN, ho, hm, hrw, htp, htr, hln, hno, hac, hgr, him, hsc, hkf, hkl⟩ := id h
  obtain ⟨a, ca, pr⟩ := hno
  obtain ⟨sr, sf, st, s1, s2, s3⟩ := hsc
  have hp := Gr_ok hgr
  cases cu with
  | none =>
    have h7 : F 7 = 0 := hkf.2.2.2.1 rfl
    refine gM_mono (c_X11_held_0 ho) ?_
    rintro ρ N1 v1 ⟨rfl, rfl, rfl⟩ -
    refine ⟨_, rfl, ⟨F, V, hm⟩, ?_⟩
    refine gM_mono (c_X12_held hm ca s3 pr hp hkl.1 hkl.2 r_ld r_n9 r_w (by omega)) ?_
    rintro ρ2 N2 v2 ⟨rfl, res2, t2, hc2, rfl, rfl⟩ -
    have key : res2 = -1000002 := by rcases hc2 with ⟨_, e⟩ | ⟨q, _⟩ | ⟨q, _⟩ <;> omega
    clear hc2
    exact ⟨res_eq key, RELx_fin (F2 := F) (V2 := V) h (fun k h0 h1 h2 h3 h4 h5 => (by (repeat (first | rw [va_up_self] | rw [va_up_ne _ _ (by omega)])); all_goals rfl)) (GK_hi (Nat.le_refl _) (fun k h1 h2 => (by (repeat (first | rw [va_up_self] | rw [va_up_ne _ _ (by omega)])); all_goals rfl))) (cel_fr ho (Nat.le_refl _) (by (repeat (first | rw [va_up_self] | rw [va_up_ne _ _ (by omega)])); all_goals rfl)) (cel_fr hm (Nat.le_refl _) (by (repeat (first | rw [va_up_self] | rw [va_up_ne _ _ (by omega)])); all_goals rfl)) ⟨sr, sf, _, (cel_fr s1 (Nat.le_refl _) (by (repeat (first | rw [va_up_self] | rw [va_up_ne _ _ (by omega)])); all_goals rfl)), (cel_fr s2 (Nat.le_refl _) (by (repeat (first | rw [va_up_self] | rw [va_up_ne _ _ (by omega)])); all_goals rfl)), ⟨(s3).1, (by (repeat (first | rw [va_up_self] | rw [va_up_ne _ _ (by omega)])); all_goals rfl)⟩⟩ (sF_no hkf.1)⟩
  | some c =>
    have h7 : F 7 = 1 := hkf.2.2.2.2 c rfl
    obtain ⟨h174, hgs, hrk⟩ := hgr.2 c rfl
    obtain ⟨a0, a1, a2, a3, a4, a5, a6, ⟨n1, g1, h1, i1, t1, b0, b1, b2, b3, b4⟩, ⟨n8, g8, h8, i8, t8, d0, d1, d2, d3, d4⟩⟩ := id hgs
    obtain ⟨n, g, h', s, t, ⟨l0, l1, l2, l3, l4⟩, hlr, hn, hsr⟩ := hln
    refine gM_mono (c_X11_held_c ho a0 l0 l1 l2 l3 l4 b0 b1 b2 b3 b4 a4 a2 a3 a5 a6 hlr ⟨hn, hkl.2⟩ hkl.1 (hsr (by simp)) hp hrk.2.2.2.2 (by omega) r_ld r_n9 r_w) ?_
    rintro ρ N1 v1 ⟨rfl, res, n5, g5, h5, s5, t5, hc, rfl, rfl⟩ -
    refine ⟨res, rfl, ⟨F, V, (cel_fr hm (Nat.le_refl _) (by (repeat (first | rw [va_up_self] | rw [va_up_ne _ _ (by omega)])); all_goals rfl))⟩, ?_⟩
    refine gM_mono (c_X12_held (cel_fr hm (Nat.le_refl _) (by (repeat (first | rw [va_up_self] | rw [va_up_ne _ _ (by omega)])); all_goals rfl)) (cel_fr ca (Nat.le_refl _) (by (repeat (first | rw [va_up_self] | rw [va_up_ne _ _ (by omega)])); all_goals rfl)) (cel_fr s3 (Nat.le_refl _) (by (repeat (first | rw [va_up_self] | rw [va_up_ne _ _ (by omega)])); all_goals rfl)) pr hp hkl.1 hkl.2 r_ld r_n9 r_w (by omega)) ?_
    rintro ρ2 N2 v2 ⟨rfl, res2, t2, hc2, rfl, rfl⟩ -
    have key : res2 = res := by
      rcases hc with ⟨q, e⟩ | ⟨q, e⟩ <;> rcases hc2 with ⟨q2, e2⟩ | ⟨_, q2, e2⟩ | ⟨_, q2, e2⟩ <;> first | exact absurd q2 q | exact absurd q q2 | (exfalso; clear q; omega) | (rw [e, e2]; done) | (rw [e, e2]; rfl)
    clear hc hc2
    exact ⟨res_eq key, RELx_fin (F2 := F) (V2 := V) h (fun k h0 h1 h2 h3 h4 h5 => (by (repeat (first | rw [va_up_self] | rw [va_up_ne _ _ (by omega)])); all_goals rfl)) (GK_ln hgs (fun k hk1 hk2 => (by (repeat (first | rw [va_up_self] | rw [va_up_ne _ _ (by omega)])); all_goals rfl)) ⟨_, _, _, _, _, ⟨b0.1, (by (repeat (first | rw [va_up_self] | rw [va_up_ne _ _ (by omega)])); all_goals rfl)⟩, ⟨b1.1, (by (repeat (first | rw [va_up_self] | rw [va_up_ne _ _ (by omega)])); all_goals rfl)⟩, ⟨b2.1, (by (repeat (first | rw [va_up_self] | rw [va_up_ne _ _ (by omega)])); all_goals rfl)⟩, ⟨b3.1, (by (repeat (first | rw [va_up_self] | rw [va_up_ne _ _ (by omega)])); all_goals rfl)⟩, ⟨b4.1, (by (repeat (first | rw [va_up_self] | rw [va_up_ne _ _ (by omega)])); all_goals rfl)⟩⟩ ⟨_, _, _, _, _, (cel_fr d0 (Nat.le_refl _) (by (repeat (first | rw [va_up_self] | rw [va_up_ne _ _ (by omega)])); all_goals rfl)), (cel_fr d1 (Nat.le_refl _) (by (repeat (first | rw [va_up_self] | rw [va_up_ne _ _ (by omega)])); all_goals rfl)), (cel_fr d2 (Nat.le_refl _) (by (repeat (first | rw [va_up_self] | rw [va_up_ne _ _ (by omega)])); all_goals rfl)), (cel_fr d3 (Nat.le_refl _) (by (repeat (first | rw [va_up_self] | rw [va_up_ne _ _ (by omega)])); all_goals rfl)), (cel_fr d4 (Nat.le_refl _) (by (repeat (first | rw [va_up_self] | rw [va_up_ne _ _ (by omega)])); all_goals rfl))⟩) (cel_fr ho (Nat.le_refl _) (by (repeat (first | rw [va_up_self] | rw [va_up_ne _ _ (by omega)])); all_goals rfl)) (cel_fr hm (Nat.le_refl _) (by (repeat (first | rw [va_up_self] | rw [va_up_ne _ _ (by omega)])); all_goals rfl)) ⟨sr, sf, _, (cel_fr s1 (Nat.le_refl _) (by (repeat (first | rw [va_up_self] | rw [va_up_ne _ _ (by omega)])); all_goals rfl)), (cel_fr s2 (Nat.le_refl _) (by (repeat (first | rw [va_up_self] | rw [va_up_ne _ _ (by omega)])); all_goals rfl)), ⟨(s3).1, (by (repeat (first | rw [va_up_self] | rw [va_up_ne _ _ (by omega)])); all_goals rfl)⟩⟩ (sF_no hkf.1)⟩
/-! a row's numbers, as the machine holds them -/
def nz (g : Nat → Int) : Nat → Int := fun k => (zI (g k)).toInt
theorem nz_i (E : XE) (n : Nat) (g : Nat → Int) : iarr E n (nz g) = iarr E n g := by
  unfold iarr nz
  simp only [zI_self]
theorem nz_rng (g : Nat → Int) (k : Nat) : -2147483648 ≤ nz g k ∧ nz g k ≤ 2147483647 := zI_rng _
theorem rowOk_cg {f g : Nat → Int} {o q : Nat} : ∀ n, (∀ k, k < n → f (o + k) = g (q + k)) → rowOk f o n = rowOk g q n
  | 0, _ => rfl
  | n + 1, h => by
    show (if rowOk f o n = 1 ∧ (0 ≤ f (o + n) ∧ f (o + n) ≤ 6) then (1 : Int) else 0) = (if rowOk g q n = 1 ∧ (0 ≤ g (q + n) ∧ g (q + n) ≤ 6) then 1 else 0)
    rw [rowOk_cg n (fun k hk => h k (by omega)), h n (by omega)]
theorem isSoF_cg {p : Nat → Int} {l : Cor} {f g : Nat → Int} {o q : Nat} : ∀ n, (∀ k, k < n → f (o + k) = g (q + k)) → isSoF p l f o n = isSoF p l g q n
  | 0, _ => rfl
  | n + 1, h => by
    show (if isSoF p l f o n ≠ 0 ∧ soC p l n 6 = f (o + n) then (1 : Int) else 0) = (if isSoF p l g q n ≠ 0 ∧ soC p l n 6 = g (q + n) then 1 else 0)
    rw [isSoF_cg n (fun k hk => h k (by omega)), h n (by omega)]
theorem wentI_cg {p : Nat → Int} {l : Cor} {f g : Nat → Int} {o q : Nat} (h : ∀ k, k < 8 → f (o + k) = g (q + k)) (z : Nat) : wentI p l f o z = wentI p l g q z := by
  unfold wentI
  rw [isSoF_cg 8 h]
theorem wentC_cg {p : Nat → Int} {l : Cor} {f g : Nat → Int} {o q : Nat} (h : ∀ k, k < 8 → f (o + k) = g (q + k)) : ∀ z, wentC p l f o z = wentC p l g q z
  | 0 => rfl
  | z + 1 => by
    show wentC p l f o z + wentI p l f o z = wentC p l g q z + wentI p l g q z
    rw [wentC_cg h z, wentI_cg h z]
theorem wentB_cg {p : Nat → Int} {l : Cor} {f g : Nat → Int} {o q : Nat} (h : ∀ k, k < 8 → f (o + k) = g (q + k)) : ∀ z, wentB p l f o z = wentB p l g q z
  | 0 => rfl
  | z + 1 => by
    show (if wentI p l f o z = 1 ∧ wentC p l f o z = 0 then (z : Int) else wentB p l f o z) = (if wentI p l g q z = 1 ∧ wentC p l g q z = 0 then (z : Int) else wentB p l g q z)
    rw [wentI_cg h z, wentC_cg h z, wentB_cg h z]
theorem st_went {E : XE} {B N : Nat} {v : Nat → va_E} {r : Int} {i : Int} {what : Int} (h : REL E B N v) (r_r : (-2147483648 ≤ r ∧ r ≤ 2147483647)) (r_i : (-2147483648 ≤ i ∧ i ≤ 2147483647)) (r_what : (-2147483648 ≤ what ∧ what ≤ 2147483647)) : gM yX11_went wsX11_went ({ frames := 5, cells := 0, slots := 0, locals := 128 }) E B N v [.ref (B + 0), .int (zI r), .int (zI i), .int (zI what)] (PB E B yX12_went wsX12_went ({ frames := 3, cells := 0, slots := 0, locals := 70 }) [.ref (B + 161), .int (zI r), .int (zI i), .int (zI what)]) := by
  obtain ⟨cu, old, kept, fau, fin, F, V, p, l, h⟩ := h
  obtain ⟨hN, ho, hm, hrw, htp, htr, hln, hno, hac, hgr, him, hsc, hkf, hkl⟩ := id h
  obtain ⟨a, ca, pr⟩ := hno
  obtain ⟨sr, sf, st, s1, s2, s3⟩ := hsc
  have hp := Gr_ok hgr
  obtain ⟨la, sz, it, la2, sz2, it2, hC, c2, c3, c4, hA⟩ := id hrw
  obtain ⟨j, hj, hci, hri⟩ := rowI r
  have hA1 := hA j hj
  have c4n : Cel N v 164 (iarr E 320 (nz it2)) := by rw [nz_i]; exact c4
  have hrn : Cel N v (15 + 2 * j + 1) (iarr E 40 (nz (it j))) := by rw [nz_i]; exact (hC.2 j hj).2
  have hsz : ∀ k, k < 8 → -1 ≤ sz2 k ∧ sz2 k ≤ 40 := fun k hk => (hA k hk).2.2.2.1
  cases cu with
  | none =>
    have h7 : F 7 = 0 := hkf.2.2.2.1 rfl
    refine gM_mono (c_X11_went_0 ho) ?_
    rintro ρ N1 v1 ⟨rfl, rfl, rfl⟩ -
    refine ⟨_, rfl, ⟨F, V, hm⟩, ?_⟩
    refine gM_mono (c_X12_went hm ca s3 c3 c4n pr hp hkl.1 hkl.2 r_r r_i r_what (by omega) hsz (fun k _ => nz_rng _ k)) ?_
    rintro ρ2 N2 v2 ⟨rfl, res2, F2, t2, hc2, rfl, rfl⟩ -
    have key : res2 = -1000002 ∧ sF F F2 fin := by
      rcases hc2 with ⟨_, e, rfl⟩ | ⟨q, _⟩ | ⟨q, _⟩ | ⟨q, _⟩ | ⟨q, _⟩ | ⟨q, _⟩
      · exact ⟨e, sF_no hkf.1⟩
      all_goals omega
    clear hc2
    exact ⟨res_eq key.1, RELx_fin (V2 := V) h (fun k h0 h1 h2 h3 h4 h5 => (by (repeat (first | rw [va_up_self] | rw [va_up_ne _ _ (by omega)])); all_goals rfl)) (GK_hi (Nat.le_refl _) (fun k h1 h2 => (by (repeat (first | rw [va_up_self] | rw [va_up_ne _ _ (by omega)])); all_goals rfl))) (cel_fr ho (Nat.le_refl _) (by (repeat (first | rw [va_up_self] | rw [va_up_ne _ _ (by omega)])); all_goals rfl)) ⟨(hm).1, (by (repeat (first | rw [va_up_self] | rw [va_up_ne _ _ (by omega)])); all_goals rfl)⟩ ⟨sr, sf, _, (cel_fr s1 (Nat.le_refl _) (by (repeat (first | rw [va_up_self] | rw [va_up_ne _ _ (by omega)])); all_goals rfl)), (cel_fr s2 (Nat.le_refl _) (by (repeat (first | rw [va_up_self] | rw [va_up_ne _ _ (by omega)])); all_goals rfl)), ⟨(s3).1, (by (repeat (first | rw [va_up_self] | rw [va_up_ne _ _ (by omega)])); all_goals rfl)⟩⟩ key.2⟩
  | some c =>
    have h7 : F 7 = 1 := hkf.2.2.2.2 c rfl
    obtain ⟨h174, hgs, hrk⟩ := hgr.2 c rfl
    obtain ⟨a0, a1, a2, a3, a4, a5, a6, ⟨n1, g1, h1, i1, t1, b0, b1, b2, b3, b4⟩, ⟨n8, g8, h8, i8, t8, d0, d1, d2, d3, d4⟩⟩ := id hgs
    obtain ⟨n, g, h', s, t, ⟨l0, l1, l2, l3, l4⟩, hlr, hn, hsr⟩ := hln
    refine gM_mono (c_X11_went_c (d := 15 + 2 * j) ho hC.1 (hC.2 j hj).1 hrn a0 l0 l1 l2 l3 l4 b0 b1 b2 b3 b4 a4 a2 a3 a5 a6 hlr ⟨hn, hkl.2⟩ hkl.1 (hsr (by simp)) hp hrk.2.2.2.2 (by omega) r_r r_i r_what hci.symm hA1.1 hA1.2.1 (fun k _ => nz_rng _ k) h174) ?_
    rintro ρ N1 v1 ⟨rfl, res, fin2, n5, g5, h5, s5, t5, hc, rfl, rfl⟩ -
    refine ⟨res, rfl, ⟨F, V, (cel_fr hm (Nat.le_refl _) (by (repeat (first | rw [va_up_self] | rw [va_up_ne _ _ (by omega)])); all_goals rfl))⟩, ?_⟩
    refine gM_mono (c_X12_went (cel_fr hm (Nat.le_refl _) (by (repeat (first | rw [va_up_self] | rw [va_up_ne _ _ (by omega)])); all_goals rfl)) (cel_fr ca (Nat.le_refl _) (by (repeat (first | rw [va_up_self] | rw [va_up_ne _ _ (by omega)])); all_goals rfl)) (cel_fr s3 (Nat.le_refl _) (by (repeat (first | rw [va_up_self] | rw [va_up_ne _ _ (by omega)])); all_goals rfl)) (cel_fr c3 (Nat.le_refl _) (by (repeat (first | rw [va_up_self] | rw [va_up_ne _ _ (by omega)])); all_goals rfl)) (cel_fr c4n (Nat.le_refl _) (by (repeat (first | rw [va_up_self] | rw [va_up_ne _ _ (by omega)])); all_goals rfl)) pr hp hkl.1 hkl.2 r_r r_i r_what (by omega) hsz (fun k _ => nz_rng _ k)) ?_
    rintro ρ2 N2 v2 ⟨rfl, res2, F2, t2, hc2, rfl, rfl⟩ -
    have key : res2 = res ∧ sF F F2 fin2 := by
      clear hrw hC c2 c3 c4 c4n hrn hsz ho hm htp htr hac him a0 a1 a2 a3 a4 a5 a6 b0 b1 b2 b3 b4 d0 d1 d2 d3 d4 l0 l1 l2 l3 l4 hlr hn hsr hgs hgr pr ca s1 s2 s3 h
      by_cases hr : 0 ≤ r ∧ r ≤ 7
      · have hr2 := hri hr
        subst hr2
        rw [Int.toNat_natCast] at hc2
        obtain ⟨k1, k2, k3, k4, k5, k6⟩ := id hA1
        have k5a := k5.1
        have k5b := k5.2
        clear hri hA hA1 k5
        by_cases hl : la j = -1
        · have hs := k5b hl
          clear k5a k5b k6
          rcases hc with ⟨q, e, ef⟩ | ⟨q, w1, e, ef⟩ | ⟨q, w1, _⟩ | ⟨q, w1, _⟩ | ⟨q, w1, _⟩
          · rcases hc2 with ⟨q2, _⟩ | ⟨_, q2, e2, eF⟩ | ⟨_, q2, _⟩ | ⟨_, q2, _⟩ | ⟨_, q2, _⟩ | ⟨_, q2, _⟩
            · omega
            · exact ⟨e2.trans e.symm, by rw [ef, eF]; exact sF_no hkf.1⟩
            all_goals omega
          · rcases hc2 with ⟨q2, _⟩ | ⟨_, q2, _⟩ | ⟨_, q2, w2, e2, eF⟩ | ⟨_, q2, w2, _⟩ | ⟨_, q2, w2, _⟩ | ⟨_, q2, w2, _⟩
            · omega
            · omega
            · exact ⟨e2.trans e.symm, by rw [ef, eF]; exact sF_up F _⟩
            all_goals omega
          all_goals omega
        · obtain ⟨f1, f2, f3⟩ := k6 hl
          have hs : ¬ sz2 j < 0 := fun z => hl (k5a z)
          clear k5a k5b k6
          have CG : 0 ≤ i ∧ i ≤ sz j - 8 → ∀ k, k < 8 → nz it2 (40 * j + i.toNat + k) = nz (it j) (i.toNat + k) := fun hi k hk => by
            unfold nz
            rw [show 40 * j + i.toNat + k = 40 * j + (i.toNat + k) by omega, f3 _ (by omega)]
          rw [f2] at hc2 hs
          rcases hc with ⟨q, e, ef⟩ | ⟨q, w1, _⟩ | ⟨q, w1, w3, e, ef⟩ | ⟨q, w1, w3, w4, e, ef⟩ | ⟨q, w1, w3, w4, e, ef⟩
          · rcases hc2 with ⟨q2, _⟩ | ⟨_, q2, e2, eF⟩ | ⟨_, q2, _⟩ | ⟨_, q2, _⟩ | ⟨_, q2, _⟩ | ⟨_, q2, _⟩
            · omega
            · exact ⟨e2.trans e.symm, by rw [ef, eF]; exact sF_no hkf.1⟩
            all_goals omega
          · omega
          · rcases hc2 with ⟨q2, _⟩ | ⟨_, q2, _⟩ | ⟨_, q2, w2, _⟩ | ⟨_, q2, w2, w5, e2, eF⟩ | ⟨_, q2, w2, w5, _⟩ | ⟨_, q2, w2, w5, _⟩
            · omega
            · omega
            · omega
            · exact ⟨e2.trans e.symm, by rw [ef, eF]; exact sF_up F _⟩
            all_goals omega
          · have cg := CG w3
            rcases hc2 with ⟨q2, _⟩ | ⟨_, q2, _⟩ | ⟨_, q2, w2, _⟩ | ⟨_, q2, w2, w5, _⟩ | ⟨_, q2, w2, w5, w6, e2, eF⟩ | ⟨_, q2, w2, w5, w6, _⟩
            · omega
            · omega
            · omega
            · exact absurd w3 w5
            · exact ⟨e2.trans e.symm, by rw [ef, eF]; exact sF_no hkf.1⟩
            · rw [rowOk_cg 8 cg, w4] at w6
              omega
          · have cg := CG w3
            rcases hc2 with ⟨q2, _⟩ | ⟨_, q2, _⟩ | ⟨_, q2, w2, _⟩ | ⟨_, q2, w2, w5, _⟩ | ⟨_, q2, w2, w5, w6, _⟩ | ⟨_, q2, w2, w5, w6, e2, eF⟩
            · omega
            · omega
            · omega
            · exact absurd w3 w5
            · rw [rowOk_cg 8 cg, w4] at w6
              omega
            · refine ⟨?_, by rw [ef, eF]; exact sF_up F _⟩
              rw [e, e2, wentC_cg cg, wentB_cg cg, isSoF_cg 8 cg]
      · rcases hc with ⟨q, e, ef⟩ | ⟨q, _⟩ | ⟨q, _⟩ | ⟨q, _⟩ | ⟨q, _⟩
        · rcases hc2 with ⟨q2, _⟩ | ⟨_, q2, e2, eF⟩ | ⟨_, q2, _⟩ | ⟨_, q2, _⟩ | ⟨_, q2, _⟩ | ⟨_, q2, _⟩
          · omega
          · exact ⟨e2.trans e.symm, by rw [ef, eF]; exact sF_no hkf.1⟩
          all_goals omega
        all_goals omega
    clear hc hc2
    exact ⟨res_eq key.1, RELx_fin (V2 := V) h (fun k h0 h1 h2 h3 h4 h5 => (by (repeat (first | rw [va_up_self] | rw [va_up_ne _ _ (by omega)])); all_goals rfl)) (GK_ln hgs (fun k hk1 hk2 => (by (repeat (first | rw [va_up_self] | rw [va_up_ne _ _ (by omega)])); all_goals rfl)) ⟨_, _, _, _, _, ⟨b0.1, (by (repeat (first | rw [va_up_self] | rw [va_up_ne _ _ (by omega)])); all_goals rfl)⟩, ⟨b1.1, (by (repeat (first | rw [va_up_self] | rw [va_up_ne _ _ (by omega)])); all_goals rfl)⟩, ⟨b2.1, (by (repeat (first | rw [va_up_self] | rw [va_up_ne _ _ (by omega)])); all_goals rfl)⟩, ⟨b3.1, (by (repeat (first | rw [va_up_self] | rw [va_up_ne _ _ (by omega)])); all_goals rfl)⟩, ⟨b4.1, (by (repeat (first | rw [va_up_self] | rw [va_up_ne _ _ (by omega)])); all_goals rfl)⟩⟩ ⟨_, _, _, _, _, (cel_fr d0 (Nat.le_refl _) (by (repeat (first | rw [va_up_self] | rw [va_up_ne _ _ (by omega)])); all_goals rfl)), (cel_fr d1 (Nat.le_refl _) (by (repeat (first | rw [va_up_self] | rw [va_up_ne _ _ (by omega)])); all_goals rfl)), (cel_fr d2 (Nat.le_refl _) (by (repeat (first | rw [va_up_self] | rw [va_up_ne _ _ (by omega)])); all_goals rfl)), (cel_fr d3 (Nat.le_refl _) (by (repeat (first | rw [va_up_self] | rw [va_up_ne _ _ (by omega)])); all_goals rfl)), (cel_fr d4 (Nat.le_refl _) (by (repeat (first | rw [va_up_self] | rw [va_up_ne _ _ (by omega)])); all_goals rfl))⟩) ⟨(ho).1, (by (repeat (first | rw [va_up_self] | rw [va_up_ne _ _ (by omega)])); all_goals rfl)⟩ ⟨(hm).1, (by (repeat (first | rw [va_up_self] | rw [va_up_ne _ _ (by omega)])); all_goals rfl)⟩ ⟨sr, sf, _, (cel_fr s1 (Nat.le_refl _) (by (repeat (first | rw [va_up_self] | rw [va_up_ne _ _ (by omega)])); all_goals rfl)), (cel_fr s2 (Nat.le_refl _) (by (repeat (first | rw [va_up_self] | rw [va_up_ne _ _ (by omega)])); all_goals rfl)), ⟨(s3).1, (by (repeat (first | rw [va_up_self] | rw [va_up_ne _ _ (by omega)])); all_goals rfl)⟩⟩ key.2⟩

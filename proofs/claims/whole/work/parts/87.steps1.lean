/-! a call on both sides -/
def sF (F F2 : Nat → Int) (x : Int) : Prop := F2 3 = x ∧ F2 5 = F 5 ∧ F2 6 = F 6 ∧ F2 7 = F 7 ∧ F2 9 = F 9 ∧ F2 13 = F 13
theorem sF_up (F : Nat → Int) (x : Int) : sF F (va_up F 3 x) x := ⟨rfl, rfl, rfl, rfl, rfl, rfl⟩
theorem sF_no {F : Nat → Int} {x : Int} (h : F 3 = x) : sF F F x := ⟨h, rfl, rfl, rfl, rfl, rfl⟩
theorem sF_b {F : Nat → Int} {x y : Int} (h : F 3 = x) : sF F (va_up F 25 y) x := ⟨h, rfl, rfl, rfl, rfl, rfl⟩
theorem st_fault {E : XE} {B N : Nat} {v : Nat → va_E}  (h : REL E B N v)  : gM yX11_fault wsX11_fault ({ frames := 0, cells := 0, slots := 0, locals := 0 }) E B N v [.ref (B + 0)] (PB E B yX12_fault wsX12_fault ({ frames := 0, cells := 0, slots := 0, locals := 0 }) [.ref (B + 161)]) := by
  obtain ⟨cu, old, kept, fau, fin, F, V, p, l, h⟩ := h
  obtain ⟨hN, ho, hm, hrw, htp, htr, hln, hno, hac, hgr, him, hsc, hkf, hkl⟩ := id h
  refine gM_mono (c_X11_fault ho) ?_
  rintro ρ N1 v1 ⟨rfl, rfl, rfl⟩ -
  refine ⟨fau, rfl, ⟨F, V, hm⟩, ?_⟩
  refine gM_mono (c_X12_fault hm) ?_
  rintro ρ2 N2 v2 ⟨rfl, rfl, rfl⟩ -
  exact ⟨res_eq hkf.2.1, RELx_in h⟩
theorem st_status {E : XE} {B N : Nat} {v : Nat → va_E}  (h : REL E B N v)  : gM yX11_status wsX11_status ({ frames := 0, cells := 0, slots := 0, locals := 0 }) E B N v [.ref (B + 0)] (PB E B yX12_status wsX12_status ({ frames := 0, cells := 0, slots := 0, locals := 0 }) [.ref (B + 161)]) := by
  obtain ⟨cu, old, kept, fau, fin, F, V, p, l, h⟩ := h
  obtain ⟨hN, ho, hm, hrw, htp, htr, hln, hno, hac, hgr, him, hsc, hkf, hkl⟩ := id h
  refine gM_mono (c_X11_status ho) ?_
  rintro ρ N1 v1 ⟨rfl, rfl, rfl⟩ -
  refine ⟨fin, rfl, ⟨F, V, hm⟩, ?_⟩
  refine gM_mono (c_X12_status hm) ?_
  rintro ρ2 N2 v2 ⟨rfl, rfl, rfl⟩ -
  exact ⟨res_eq hkf.1, RELx_in h⟩
theorem st_person {E : XE} {B N : Nat} {v : Nat → va_E} {x : Int} {what : Int} (h : REL E B N v) (r_x : (-2147483648 ≤ x ∧ x ≤ 2147483647)) (r_what : (-2147483648 ≤ what ∧ what ≤ 2147483647)) : gM yX11_person wsX11_person ({ frames := 3, cells := 0, slots := 0, locals := 71 }) E B N v [.ref (B + 0), .int (zI x), .int (zI what)] (PB E B yX12_person wsX12_person ({ frames := 2, cells := 0, slots := 0, locals := 54 }) [.ref (B + 161), .int (zI x), .int (zI what)]) := by
  obtain ⟨cu, old, kept, fau, fin, F, V, p, l, h⟩ := h
  obtain ⟨hN, ho, hm, hrw, htp, htr, hln, hno, hac, hgr, him, hsc, hkf, hkl⟩ := id h
  obtain ⟨a, ca, pr⟩ := hno
  have hp := Gr_ok hgr
  cases cu with
  | none =>
    have hp0 : p 4 = 0 := by rw [hgr.1 rfl]
    refine gM_mono (c_X11_person_0 ho) ?_
    rintro ρ N1 v1 ⟨rfl, rfl, rfl⟩ -
    refine ⟨_, rfl, ⟨F, V, hm⟩, ?_⟩
    refine gM_mono (c_X12_person hm ca pr hp hkl.1 hkl.2 r_x r_what) ?_
    rintro ρ2 N2 v2 ⟨rfl, res2, hc2, rfl, rfl⟩ -
    exact ⟨res_eq (by rcases hc2 with ⟨_, e⟩ | ⟨q, _⟩ <;> omega), RELx_in h⟩
  | some c =>
    obtain ⟨h174, hgs, hrk⟩ := hgr.2 c rfl
    obtain ⟨a0, a1, a2, a3, a4, a5, a6, a7, a8⟩ := hgs
    obtain ⟨n, g, h', s, t, ⟨l0, l1, l2, l3, l4⟩, hlr, hn, hsr⟩ := hln
    refine gM_mono (c_X11_person_c ho a0 l0 l1 l2 l3 l4 a2 a3 a6 hlr ⟨hn, hkl.2⟩ hkl.1 (hsr (by simp)) hp hrk.2.2.2.2 (by omega) r_x r_what) ?_
    rintro ρ N1 v1 ⟨rfl, res, hc, rfl, rfl⟩ -
    refine ⟨res, rfl, ⟨F, V, hm⟩, ?_⟩
    refine gM_mono (c_X12_person hm ca pr hp hkl.1 hkl.2 r_x r_what) ?_
    rintro ρ2 N2 v2 ⟨rfl, res2, hc2, rfl, rfl⟩ -
    refine ⟨res_eq ?_, RELx_in h⟩
    rcases hc with ⟨q, e⟩ | ⟨q, e⟩ <;> rcases hc2 with ⟨q2, e2⟩ | ⟨q2, e2⟩ <;> first | exact absurd q2 q | exact absurd q q2 | rw [e, e2]
theorem st_cell {E : XE} {B N : Nat} {v : Nat → va_E} {c : Int} {what : Int} (h : REL E B N v) (r_c : (-2147483648 ≤ c ∧ c ≤ 2147483647)) (r_what : (-2147483648 ≤ what ∧ what ≤ 2147483647)) : gM yX11_cell wsX11_cell ({ frames := 2, cells := 0, slots := 0, locals := 44 }) E B N v [.ref (B + 0), .int (zI c), .int (zI what)] (PB E B yX12_cell wsX12_cell ({ frames := 2, cells := 0, slots := 0, locals := 45 }) [.ref (B + 161), .int (zI c), .int (zI what)]) := by
  obtain ⟨cu, old, kept, fau, fin, F, V, p, l, h⟩ := h
  obtain ⟨hN, ho, hm, hrw, htp, htr, hln, hno, hac, hgr, him, hsc, hkf, hkl⟩ := id h
  obtain ⟨a, ca, pr⟩ := hno
  have hp := Gr_ok hgr
  cases cu with
  | none =>
    have h7 : F 7 = 0 := hkf.2.2.2.1 rfl
    refine gM_mono (c_X11_cell_0 ho) ?_
    rintro ρ N1 v1 ⟨rfl, rfl, rfl⟩ -
    refine ⟨_, rfl, ⟨F, V, hm⟩, ?_⟩
    refine gM_mono (c_X12_cell hm ca pr hp hkl.1 hkl.2 r_c r_what (by omega)) ?_
    rintro ρ2 N2 v2 ⟨rfl, res2, hc2, rfl, rfl⟩ -
    exact ⟨res_eq (by rcases hc2 with ⟨_, e⟩ | ⟨q, _⟩ | ⟨q, _⟩ <;> omega), RELx_in h⟩
  | some o =>
    have h7 : F 7 = 1 := hkf.2.2.2.2 o rfl
    obtain ⟨h174, hgs, hrk⟩ := hgr.2 o rfl
    obtain ⟨a0, a1, a2, a3, a4, a5, a6, a7, a8⟩ := hgs
    obtain ⟨n, g, h', s, t, ⟨l0, l1, l2, l3, l4⟩, hlr, hn, hsr⟩ := hln
    refine gM_mono (c_X11_cell_c ho a0 l0 l1 l2 l3 l4 a2 a1 hlr ⟨hn, hkl.2⟩ hkl.1 (hsr (by simp)) hp hrk.2.2.2.2 (by omega) r_c r_what) ?_
    rintro ρ N1 v1 ⟨rfl, res, hc, rfl, rfl⟩ -
    refine ⟨res, rfl, ⟨F, V, hm⟩, ?_⟩
    refine gM_mono (c_X12_cell hm ca pr hp hkl.1 hkl.2 r_c r_what (by omega)) ?_
    rintro ρ2 N2 v2 ⟨rfl, res2, hc2, rfl, rfl⟩ -
    refine ⟨res_eq ?_, RELx_in h⟩
    rcases hc with ⟨q, e⟩ | ⟨q, e⟩ <;> rcases hc2 with ⟨q2, e2⟩ | ⟨_, q2, e2⟩ | ⟨_, q2, e2⟩ <;> first | exact absurd q2 q | exact absurd q q2 | (exfalso; clear q; omega) | rw [e, e2]
theorem st_land {E : XE} {B N : Nat} {v : Nat → va_E} {ld : Int} {what : Int} (h : REL E B N v) (r_ld : (-2147483648 ≤ ld ∧ ld ≤ 2147483647)) (r_what : (-2147483648 ≤ what ∧ what ≤ 2147483647)) : gM yX11_land wsX11_land ({ frames := 2, cells := 0, slots := 0, locals := 47 }) E B N v [.ref (B + 0), .int (zI ld), .int (zI what)] (PB E B yX12_land wsX12_land ({ frames := 3, cells := 0, slots := 0, locals := 74 }) [.ref (B + 161), .int (zI ld), .int (zI what)]) := by
  obtain ⟨cu, old, kept, fau, fin, F, V, p, l, h⟩ := h
  obtain ⟨hN, ho, hm, hrw, htp, htr, hln, hno, hac, hgr, him, hsc, hkf, hkl⟩ := id h
  obtain ⟨a, ca, pr⟩ := hno
  have hp := Gr_ok hgr
  cases cu with
  | none =>
    have h7 : F 7 = 0 := hkf.2.2.2.1 rfl
    refine gM_mono (c_X11_land_0 ho) ?_
    rintro ρ N1 v1 ⟨rfl, rfl, rfl⟩ -
    refine ⟨_, rfl, ⟨F, V, hm⟩, ?_⟩
    refine gM_mono (c_X12_land hm ca pr hp hkl.1 hkl.2 r_ld r_what (by omega)) ?_
    rintro ρ2 N2 v2 ⟨rfl, res2, hc2, rfl, rfl⟩ -
    exact ⟨res_eq (by rcases hc2 with ⟨_, e⟩ | ⟨q, _⟩ | ⟨q, _⟩ <;> omega), RELx_in h⟩
  | some o =>
    have h7 : F 7 = 1 := hkf.2.2.2.2 o rfl
    obtain ⟨h174, hgs, hrk⟩ := hgr.2 o rfl
    obtain ⟨a0, a1, a2, a3, a4, a5, a6, a7, a8⟩ := hgs
    obtain ⟨n, g, h', s, t, ⟨l0, l1, l2, l3, l4⟩, hlr, hn, hsr⟩ := hln
    refine gM_mono (c_X11_land_c ho a0 l0 l1 l2 l3 l4 a4 a5 hlr ⟨hn, hkl.2⟩ hkl.1 (hsr (by simp)) hp hrk.2.2.2.2 (by omega) r_ld r_what) ?_
    rintro ρ N1 v1 ⟨rfl, res, hc, rfl, rfl⟩ -
    refine ⟨res, rfl, ⟨F, V, hm⟩, ?_⟩
    refine gM_mono (c_X12_land hm ca pr hp hkl.1 hkl.2 r_ld r_what (by omega)) ?_
    rintro ρ2 N2 v2 ⟨rfl, res2, hc2, rfl, rfl⟩ -
    refine ⟨res_eq ?_, RELx_in h⟩
    rcases hc with ⟨q, e⟩ | ⟨q, e⟩ <;> rcases hc2 with ⟨q2, e2⟩ | ⟨_, q2, e2⟩ | ⟨_, q2, e2⟩ <;> first | exact absurd q2 q | exact absurd q q2 | (exfalso; clear q; omega) | rw [e, e2]
theorem st_trace {E : XE} {B N : Nat} {v : Nat → va_E} {i : Int} (h : REL E B N v) (r_i : (-2147483648 ≤ i ∧ i ≤ 2147483647)) : gM yX11_trace wsX11_trace ({ frames := 0, cells := 0, slots := 0, locals := 0 }) E B N v [.ref (B + 0), .int (zI i)] (PB E B yX12_trace wsX12_trace ({ frames := 1, cells := 0, slots := 0, locals := 25 }) [.ref (B + 161), .int (zI i)]) := by
  obtain ⟨cu, old, kept, fau, fin, F, V, p, l, h⟩ := h
  obtain ⟨hN, ho, hm, hrw, htp, htr, hln, hno, hac, hgr, him, hsc, hkf, hkl⟩ := id h
  obtain ⟨n, tr, hn, hn16, t5, t6, t170⟩ := htr
  refine gM_mono (c_X11_trace ho t5 t6 r_i hn16) ?_
  rintro ρ N1 v1 ⟨rfl, res, hc, rfl, rfl⟩ -
  refine ⟨res, rfl, ⟨F, V, hm⟩, ?_⟩
  refine gM_mono (c_X12_trace hm t170 r_i (by omega)) ?_
  rintro ρ2 N2 v2 ⟨rfl, res2, hc2, rfl, rfl⟩ -
  refine ⟨res_eq ?_, RELx_in h⟩
  rw [hn] at hc2
  rcases hc with ⟨q, e⟩ | ⟨q, e⟩ <;> rcases hc2 with ⟨q2, e2⟩ | ⟨q2, e2⟩ <;> first | exact absurd q2 q | exact absurd q q2 | rw [e, e2]
theorem cntR_cg {f g : Nat → Int} : ∀ k, (∀ i, i < k → (f i < 0 ↔ g i < 0)) → cntR f k = cntR g k
  | 0, _ => rfl
  | k + 1, h => by
    show cntR f k + (if f k < 0 then 0 else 1) = cntR g k + (if g k < 0 then 0 else 1)
    rw [cntR_cg k (fun i hi => h i (by omega))]
    by_cases q : f k < 0
    · rw [if_pos q, if_pos ((h k (by omega)).mp q)]
    · rw [if_neg q, if_neg (fun z => q ((h k (by omega)).mpr z))]
theorem cnt_eq {la sz : Nat → Int} {it : Nat → Nat → Int} {la2 sz2 it2 : Nat → Int} (h : RwA la sz it la2 sz2 it2) : cntR (fun i => if la i = -1 then -1 else 0) 8 = cntR sz2 8 := cntR_cg 8 (fun i hi => by
  have h1 := (h i hi).2.2.2.2.1
  show (if la i = -1 then (-1 : Int) else 0) < 0 ↔ _
  by_cases q : la i = -1
  · rw [if_pos q]
    exact ⟨fun _ => h1.mpr q, fun _ => by omega⟩
  · rw [if_neg q]
    exact ⟨fun z => by omega, fun z => absurd (h1.mp z) q⟩)
theorem cntG_0 : ∀ k, cntG (fun _ => 0) k = 0
  | 0 => rfl
  | k + 1 => by
    have := cntG_0 k
    simp [cntG, this]
theorem st_count {E : XE} {B N : Nat} {v : Nat → va_E} {what : Int} (h : REL E B N v) (r_what : (-2147483648 ≤ what ∧ what ≤ 2147483647)) : gM yX11_count wsX11_count ({ frames := 2, cells := 0, slots := 0, locals := 42 }) E B N v [.ref (B + 0), .int (zI what)] (PB E B yX12_count wsX12_count ({ frames := 0, cells := 0, slots := 0, locals := 0 }) [.ref (B + 161), .int (zI what)]) := by
  obtain ⟨cu, old, kept, fau, fin, F, V, p, l, h⟩ := h
  obtain ⟨hN, ho, hm, hrw, htp, htr, hln, hno, hac, hgr, him, hsc, hkf, hkl⟩ := id h
  obtain ⟨a, ca, pr⟩ := hno
  have hp := Gr_ok hgr
  obtain ⟨la, sz, it, la2, sz2, it2, hC, c2, c3, c4, hA⟩ := hrw
  obtain ⟨n, f, pl, so, s, e, vv, t, tl, h1, h2, h3, t2, t3, t4, t5⟩ := htp
  obtain ⟨n7, g, h', s', t', ⟨l0, l1, l2, l3, l4⟩, hlr, hn, hsr⟩ := hln
  have hla : ∀ i, i < 8 → -1 ≤ la i ∧ la i ≤ 2 := fun i hi => (hA i hi).1
  have hsz : ∀ i, i < 8 → -1 ≤ sz2 i ∧ sz2 i ≤ 40 := fun i hi => (hA i hi).2.2.2.1
  cases cu with
  | none =>
    have hp0 := hgr.1 rfl
    have hp4 : p 4 = 0 := by rw [hp0]
    have hp3 : p 3 = 0 := by rw [hp0]
    have hG : cntG p 48 = 0 := by rw [hp0]; exact cntG_0 48
    refine gM_mono (c_X11_count_0 ho hC.1 l0 t2 (fun i hi => (hC.2 i hi).1) hla r_what) ?_
    rintro ρ N1 v1 ⟨rfl, res, hc, rfl, rfl⟩ -
    refine ⟨res, rfl, ⟨F, V, hm⟩, ?_⟩
    refine gM_mono (c_X12_count hm c3 ca pr hp hkl.1 hkl.2 r_what hsz) ?_
    rintro ρ2 N2 v2 ⟨rfl, res2, hc2, rfl, rfl⟩ -
    refine ⟨res_eq ?_, RELx_in h⟩
    rw [hc, hc2, cnt_eq hA, hp4, hp3, hG, hkf.2.2.1, h1, hn]
  | some o =>
    obtain ⟨h174, hgs, hrk⟩ := hgr.2 o rfl
    obtain ⟨a0, a1, a2, a3, a4, a5, a6, a7, a8⟩ := hgs
    refine gM_mono (c_X11_count_c ho hC.1 l0 t2 a0 a2 (fun i hi => (hC.2 i hi).1) hla r_what hp) ?_
    rintro ρ N1 v1 ⟨rfl, res, hc, rfl, rfl⟩ -
    refine ⟨res, rfl, ⟨F, V, hm⟩, ?_⟩
    refine gM_mono (c_X12_count hm c3 ca pr hp hkl.1 hkl.2 r_what hsz) ?_
    rintro ρ2 N2 v2 ⟨rfl, res2, hc2, rfl, rfl⟩ -
    refine ⟨res_eq ?_, RELx_in h⟩
    rw [hc, hc2, cnt_eq hA, hkf.2.2.1, h1, hn]
/-! people, by their kinds -/
theorem perE_k {p : Nat → Int} {i : Nat} {k : Int} {d : Nat} (h : p (5 + i) = k) (hd : kci k = d) : perE p i = .inr (d, [.int (zI (i : Int)), .int (zI (p (10 + i))), .int (zI (p (15 + i))), .int (zI (p (20 + i)))]) := by
  unfold perE; rw [h, hd]
theorem kinds {p : Nat → Int} (hp : rOk p) {i : Nat} (hi : (i : Int) < p 4) : p (5 + i) = 1 ∨ p (5 + i) = 2 ∨ p (5 + i) = 3 ∨ p (5 + i) = 4 ∨ p (5 + i) = 5 := by
  have h5 := hp.1.2.2.2.2.1.2
  have h1 := hp.2.2.2.2 i (by omega) hi
  have h2 := (hp.1.2.2.2.2.2.1 i (by omega)).1
  omega
theorem a_kind {E : XE} {B N : Nat} {v : Nat → va_E} {c old kept : Nat} {fau fin : Int} {p : Nat → Int} {x : Nat} (ho : Cel N v 0 (oX B (some c) old kept fau fin)) (hg : GS E B N v c p) (hp : rOk p) (hx : (x : Int) < p 4) : gM yX11_kind wsX11_kind ({ frames := 2, cells := 0, slots := 0, locals := 42 }) E B N v [.ref (B + 0), .int (zI (x : Int))] (po0 N (fun ρ v' => ρ = some (.int (zI (p (5 + x)))) ∧ v = v')) := by
  obtain ⟨a0, a1, a2, a3, a4, a5, a6, a7, a8⟩ := hg
  have h5 := hp.1.2.2.2.2.1.2
  have q := a6 x hx
  rcases kinds hp hx with hk | hk | hk | hk | hk
  · rw [perE_k hk (show kci 1 = 0 from rfl)] at q; rw [hk]; exact c_X11_kind_1 rfl ho a0 a3 q hx h5 rfl
  · rw [perE_k hk (show kci 2 = 2 from rfl)] at q; rw [hk]; exact c_X11_kind_2 rfl ho a0 a3 q hx h5 rfl
  · rw [perE_k hk (show kci 3 = 9 from rfl)] at q; rw [hk]; exact c_X11_kind_3 rfl ho a0 a3 q hx h5 rfl
  · rw [perE_k hk (show kci 4 = 1 from rfl)] at q; rw [hk]; exact c_X11_kind_4 rfl ho a0 a3 q hx h5 rfl
  · rw [perE_k hk (show kci 5 = 5 from rfl)] at q; rw [hk]; exact c_X11_kind_5 rfl ho a0 a3 q hx h5 rfl
theorem a_as {E : XE} {B N : Nat} {v : Nat → va_E} {c old kept : Nat} {fau fin k : Int} {p : Nat → Int} {x : Nat} (ho : Cel N v 0 (oX B (some c) old kept fau fin)) (hg : GS E B N v c p) (hp : rOk p) (hc : 174 ≤ c) (hx : (x : Int) < p 4) (r_k : (-2147483648 ≤ k ∧ k ≤ 2147483647)) : gM yX11_as wsX11_as ({ frames := 2, cells := 0, slots := 0, locals := 42 }) E B N v [.ref (B + 0), .int (zI (x : Int)), .int (zI k)] (po0 N (fun ρ v' => ∃ (res : Int), ∃ (fin2 : Int), ((¬ (0 ≤ k ∧ k ≤ 5) ∧ res = -1000001 ∧ fin2 = fin) ∨ ((0 ≤ k ∧ k ≤ 5) ∧ ¬ ofA (p (5 + x)) k ∧ res = -1000013 ∧ fin2 = 3) ∨ ((0 ≤ k ∧ k ≤ 5) ∧ ofA (p (5 + x)) k ∧ res = (x : Int) ∧ fin2 = 0)) ∧ ρ = some (.int (zI res)) ∧ (va_up v 0 (oX B (some c) old kept fau fin2)) = v')) := by
  obtain ⟨a0, a1, a2, a3, a4, a5, a6, a7, a8⟩ := hg
  have h5 := hp.1.2.2.2.2.1.2
  have q := a6 x hx
  rcases kinds hp hx with hk | hk | hk | hk | hk
  · rw [perE_k hk (show kci 1 = 0 from rfl)] at q; rw [hk]; exact c_X11_as_1 rfl ho a0 a3 q hx h5 rfl r_k (by omega)
  · rw [perE_k hk (show kci 2 = 2 from rfl)] at q; rw [hk]; exact c_X11_as_2 rfl ho a0 a3 q hx h5 rfl r_k (by omega)
  · rw [perE_k hk (show kci 3 = 9 from rfl)] at q; rw [hk]; exact c_X11_as_3 rfl ho a0 a3 q hx h5 rfl r_k (by omega)
  · rw [perE_k hk (show kci 4 = 1 from rfl)] at q; rw [hk]; exact c_X11_as_4 rfl ho a0 a3 q hx h5 rfl r_k (by omega)
  · rw [perE_k hk (show kci 5 = 5 from rfl)] at q; rw [hk]; exact c_X11_as_5 rfl ho a0 a3 q hx h5 rfl r_k (by omega)
theorem a_ask {E : XE} {B N : Nat} {v : Nat → va_E} {c old kept : Nat} {fau fin what : Int} {p tr : Nat → Int} {x m : Nat} (ho : Cel N v 0 (oX B (some c) old kept fau fin)) (hg : GS E B N v c p) (hp : rOk p) (hc : 174 ≤ c) (hx : (x : Int) < p 4) (t5 : Cel N v 5 (oTr B m)) (t6 : Cel N v 6 (iarr E 16 tr)) (r_k : (-2147483648 ≤ what ∧ what ≤ 2147483647)) : gM yX11_ask wsX11_ask ({ frames := 6, cells := 0, slots := 0, locals := 127 }) E B N v [.ref (B + 0), .int (zI (x : Int)), .int (zI what)] (po0 N (fun ρ v' => ∃ (res : Int), ∃ (n2 : Nat), ∃ (tr2 : Nat → Int), ((¬ (0 ≤ what ∧ what ≤ 1) ∧ res = -1000001 ∧ n2 = m ∧ tr2 = tr) ∨ ((0 ≤ what ∧ what ≤ 1) ∧ n2 = (askD (p (5 + x)) what).length ∧ tr2 = wrL tr 0 (askD (p (5 + x)) what) ∧ res = askV (p (5 + x)) (x : Int) ((x : Int) + p (15 + x)) (p (20 + x)) what)) ∧ ρ = some (.int (zI res)) ∧ (va_up (va_up v 5 (oTr B n2)) 6 (iarr E 16 tr2)) = v')) := by
  obtain ⟨a0, a1, a2, a3, a4, a5, a6, a7, a8⟩ := hg
  have h5 := hp.1.2.2.2.2.1.2
  have q := a6 x hx
  rcases kinds hp hx with hk | hk | hk | hk | hk
  · rw [perE_k hk (show kci 1 = 0 from rfl)] at q; rw [hk]; exact c_X11_ask_1 rfl ho a0 a3 q t5 t6 hx h5 rfl r_k hc
  · rw [perE_k hk (show kci 2 = 2 from rfl)] at q; rw [hk]; exact c_X11_ask_2 rfl ho a0 a3 q t5 t6 hx h5 rfl r_k hc
  · rw [perE_k hk (show kci 3 = 9 from rfl)] at q; rw [hk]; exact c_X11_ask_3 rfl ho a0 a3 q t5 t6 hx h5 rfl r_k hc
  · rw [perE_k hk (show kci 4 = 1 from rfl)] at q; rw [hk]; exact c_X11_ask_4 rfl ho a0 a3 q t5 t6 hx h5 rfl r_k hc
  · rw [perE_k hk (show kci 5 = 5 from rfl)] at q; rw [hk]; exact c_X11_ask_5 rfl ho a0 a3 q t5 t6 hx h5 rfl r_k hc
theorem st_kind {E : XE} {B N : Nat} {v : Nat → va_E} {x : Int} (h : REL E B N v) (r_x : (-2147483648 ≤ x ∧ x ≤ 2147483647)) : gM yX11_kind wsX11_kind ({ frames := 2, cells := 0, slots := 0, locals := 42 }) E B N v [.ref (B + 0), .int (zI x)] (PB E B yX12_kind wsX12_kind ({ frames := 2, cells := 0, slots := 0, locals := 46 }) [.ref (B + 161), .int (zI x)]) := by
  obtain ⟨cu, old, kept, fau, fin, F, V, p, l, h⟩ := h
  obtain ⟨hN, ho, hm, hrw, htp, htr, hln, hno, hac, hgr, him, hsc, hkf, hkl⟩ := id h
  obtain ⟨a, ca, pr⟩ := hno
  have hp := Gr_ok hgr
  have e4 : a 4 = p 4 := pr.1 4 (by omega)
  have h4 := hp.2.2.2.2.1
  cases cu with
  | none =>
    have hp0 : p 4 = 0 := by rw [hgr.1 rfl]
    refine gM_mono (c_X11_kind_0 ho) ?_
    rintro ρ N1 v1 ⟨rfl, rfl, rfl⟩ -
    refine ⟨_, rfl, ⟨F, V, hm⟩, ?_⟩
    refine gM_mono (c_X12_kind hm ca r_x (by omega)) ?_
    rintro ρ2 N2 v2 ⟨rfl, res2, hc2, rfl, rfl⟩ -
    exact ⟨res_eq (by rcases hc2 with ⟨_, e⟩ | ⟨q, _⟩ <;> omega), RELx_in h⟩
  | some c =>
    obtain ⟨h174, hgs, hrk⟩ := hgr.2 c rfl
    by_cases hx : 0 ≤ x ∧ x ≤ p 4 - 1
    · obtain ⟨xn, rfl⟩ := Int.eq_ofNat_of_zero_le hx.1
      refine gM_mono (a_kind ho hgs hrk (by omega)) ?_
      rintro ρ N1 v1 ⟨rfl, rfl, rfl⟩ -
      refine ⟨_, rfl, ⟨F, V, hm⟩, ?_⟩
      refine gM_mono (c_X12_kind hm ca r_x (by omega)) ?_
      rintro ρ2 N2 v2 ⟨rfl, res2, hc2, rfl, rfl⟩ -
      refine ⟨res_eq ?_, RELx_in h⟩
      rcases hc2 with ⟨q, e⟩ | ⟨q, e⟩
      · omega
      · rw [e, Int.toNat_natCast]; exact pr.1 _ (by omega)
    · refine gM_mono (c_X11_kind_n ho hgs.1 hgs.2.2.2.1 hx h4 r_x) ?_
      rintro ρ N1 v1 ⟨rfl, rfl, rfl⟩ -
      refine ⟨_, rfl, ⟨F, V, hm⟩, ?_⟩
      refine gM_mono (c_X12_kind hm ca r_x (by omega)) ?_
      rintro ρ2 N2 v2 ⟨rfl, res2, hc2, rfl, rfl⟩ -
      refine ⟨res_eq ?_, RELx_in h⟩
      rcases hc2 with ⟨q, e⟩ | ⟨q, e⟩ <;> omega
theorem st_as {E : XE} {B N : Nat} {v : Nat → va_E} {x : Int} {k : Int} (h : REL E B N v) (r_x : (-2147483648 ≤ x ∧ x ≤ 2147483647)) (r_k : (-2147483648 ≤ k ∧ k ≤ 2147483647)) : gM yX11_as wsX11_as ({ frames := 2, cells := 0, slots := 0, locals := 42 }) E B N v [.ref (B + 0), .int (zI x), .int (zI k)] (PB E B yX12_as wsX12_as ({ frames := 2, cells := 0, slots := 0, locals := 46 }) [.ref (B + 161), .int (zI x), .int (zI k)]) := by
  obtain ⟨cu, old, kept, fau, fin, F, V, p, l, h⟩ := h
  obtain ⟨hN, ho, hm, hrw, htp, htr, hln, hno, hac, hgr, him, hsc, hkf, hkl⟩ := id h
  obtain ⟨a, ca, pr⟩ := hno
  have hp := Gr_ok hgr
  have e4 : a 4 = p 4 := pr.1 4 (by omega)
  have h4 := hp.2.2.2.2.1
  have e5 : ∀ i, i < 5 → 0 ≤ a (5 + i) ∧ a (5 + i) ≤ 5 := fun i hi => by rw [pr.1 _ (by omega)]; exact (hp.2.2.2.2.2.1 i hi).1
  cases cu with
  | none =>
    have hp0 : p 4 = 0 := by rw [hgr.1 rfl]
    refine gM_mono (c_X11_as_0 ho) ?_
    rintro ρ N1 v1 ⟨rfl, rfl, rfl⟩ -
    refine ⟨_, rfl, ⟨F, V, hm⟩, ?_⟩
    refine gM_mono (c_X12_as hm ca r_x r_k (by omega) e5) ?_
    rintro ρ2 N2 v2 ⟨rfl, res2, F2, hc2, rfl, rfl⟩ -
    have key : res2 = -1000001 ∧ sF F F2 fin := by
      rcases hc2 with ⟨_, e, rfl⟩ | ⟨⟨⟨q, _⟩, _⟩, _⟩ | ⟨⟨⟨q, _⟩, _⟩, _⟩
      · exact ⟨e, sF_no hkf.1⟩
      · omega
      · omega
    clear hc2
    exact ⟨res_eq key.1, RELx_fin (V2 := V) h (fun k h0 h1 h2 h3 h4 h5 => (by (repeat (first | rw [va_up_self] | rw [va_up_ne _ _ (by omega)])); all_goals rfl)) (GK_hi (Nat.le_refl _) (fun k h1 h2 => (by (repeat (first | rw [va_up_self] | rw [va_up_ne _ _ (by omega)])); all_goals rfl))) (cel_fr ho (Nat.le_refl _) (by (repeat (first | rw [va_up_self] | rw [va_up_ne _ _ (by omega)])); all_goals rfl)) ⟨(hm).1, (by (repeat (first | rw [va_up_self] | rw [va_up_ne _ _ (by omega)])); all_goals rfl)⟩ (Sc_fr hsc (Nat.le_refl _) (fun k hk => (by (repeat (first | rw [va_up_self] | rw [va_up_ne _ _ (by omega)])); all_goals rfl))) key.2⟩
  | some c =>
    obtain ⟨h174, hgs, hrk⟩ := hgr.2 c rfl
    by_cases hx : 0 ≤ x ∧ x ≤ p 4 - 1
    · obtain ⟨xn, rfl⟩ := Int.eq_ofNat_of_zero_le hx.1
      refine gM_mono (a_as ho hgs hrk h174 (by omega) r_k) ?_
      rintro ρ N1 v1 ⟨rfl, res, fin2, hc, rfl, rfl⟩ -
      refine ⟨_, rfl, ⟨F, V, (cel_fr hm (Nat.le_refl _) (by (repeat (first | rw [va_up_self] | rw [va_up_ne _ _ (by omega)])); all_goals rfl))⟩, ?_⟩
      refine gM_mono (c_X12_as (cel_fr hm (Nat.le_refl _) (by (repeat (first | rw [va_up_self] | rw [va_up_ne _ _ (by omega)])); all_goals rfl)) (cel_fr ca (Nat.le_refl _) (by (repeat (first | rw [va_up_self] | rw [va_up_ne _ _ (by omega)])); all_goals rfl)) r_x r_k (by omega) e5) ?_
      rintro ρ2 N2 v2 ⟨rfl, res2, F2, hc2, rfl, rfl⟩ -
      have key : res2 = res ∧ sF F F2 fin2 := by
        rw [Int.toNat_natCast, pr.1 (5 + xn) (by omega)] at hc2
        rcases hc with ⟨q, e, ef⟩ | ⟨q, w, e, ef⟩ | ⟨q, w, e, ef⟩ <;> rcases hc2 with ⟨q2, e2, eF⟩ | ⟨⟨q2, w2⟩, e2, eF⟩ | ⟨⟨q2, w2⟩, e2, eF⟩ <;> first | (exact ⟨e2.trans e.symm, by rw [ef, eF]; first | exact sF_no hkf.1 | exact sF_up F _⟩) | (exact absurd w2 w) | (exact absurd w w2) | (exfalso; omega)
      clear hc hc2
      exact ⟨res_eq key.1, RELx_fin (V2 := V) h (fun k h0 h1 h2 h3 h4 h5 => (by (repeat (first | rw [va_up_self] | rw [va_up_ne _ _ (by omega)])); all_goals rfl)) (GK_hi (Nat.le_refl _) (fun k h1 h2 => (by (repeat (first | rw [va_up_self] | rw [va_up_ne _ _ (by omega)])); all_goals rfl))) ⟨(ho).1, (by (repeat (first | rw [va_up_self] | rw [va_up_ne _ _ (by omega)])); all_goals rfl)⟩ ⟨(hm).1, (by (repeat (first | rw [va_up_self] | rw [va_up_ne _ _ (by omega)])); all_goals rfl)⟩ (Sc_fr hsc (Nat.le_refl _) (fun k hk => (by (repeat (first | rw [va_up_self] | rw [va_up_ne _ _ (by omega)])); all_goals rfl))) key.2⟩
    · refine gM_mono (c_X11_as_n ho hgs.1 hgs.2.2.2.1 hx h4 r_x) ?_
      rintro ρ N1 v1 ⟨rfl, rfl, rfl⟩ -
      refine ⟨_, rfl, ⟨F, V, hm⟩, ?_⟩
      refine gM_mono (c_X12_as hm ca r_x r_k (by omega) e5) ?_
      rintro ρ2 N2 v2 ⟨rfl, res2, F2, hc2, rfl, rfl⟩ -
      have key : res2 = -1000001 ∧ sF F F2 fin := by
        rcases hc2 with ⟨_, e, rfl⟩ | ⟨⟨⟨q, _⟩, _⟩, _⟩ | ⟨⟨⟨q, _⟩, _⟩, _⟩
        · exact ⟨e, sF_no hkf.1⟩
        · omega
        · omega
      clear hc2
      exact ⟨res_eq key.1, RELx_fin (V2 := V) h (fun k h0 h1 h2 h3 h4 h5 => (by (repeat (first | rw [va_up_self] | rw [va_up_ne _ _ (by omega)])); all_goals rfl)) (GK_hi (Nat.le_refl _) (fun k h1 h2 => (by (repeat (first | rw [va_up_self] | rw [va_up_ne _ _ (by omega)])); all_goals rfl))) (cel_fr ho (Nat.le_refl _) (by (repeat (first | rw [va_up_self] | rw [va_up_ne _ _ (by omega)])); all_goals rfl)) ⟨(hm).1, (by (repeat (first | rw [va_up_self] | rw [va_up_ne _ _ (by omega)])); all_goals rfl)⟩ (Sc_fr hsc (Nat.le_refl _) (fun k hk => (by (repeat (first | rw [va_up_self] | rw [va_up_ne _ _ (by omega)])); all_goals rfl))) key.2⟩
theorem markD_len (o : Int) : (markD o).length ≤ 8 := by
  unfold markD
  repeat' split
  all_goals simp
theorem sizeD_len (o : Int) : (sizeD o).length ≤ 8 := by
  unfold sizeD
  repeat' split
  all_goals simp
theorem askD_len (o what : Int) : (askD o what).length ≤ 16 := by
  have h1 := markD_len o
  have h2 := sizeD_len o
  unfold askD
  repeat' split
  all_goals first | omega | (simp only [List.length_append, List.length_cons, List.length_nil]; omega)
theorem st_ask {E : XE} {B N : Nat} {v : Nat → va_E} {x : Int} {what : Int} (h : REL E B N v) (r_x : (-2147483648 ≤ x ∧ x ≤ 2147483647)) (r_what : (-2147483648 ≤ what ∧ what ≤ 2147483647)) : gM yX11_ask wsX11_ask ({ frames := 6, cells := 0, slots := 0, locals := 127 }) E B N v [.ref (B + 0), .int (zI x), .int (zI what)] (PB E B yX12_ask wsX12_ask ({ frames := 2, cells := 0, slots := 0, locals := 49 }) [.ref (B + 161), .int (zI x), .int (zI what)]) := by
  obtain ⟨cu, old, kept, fau, fin, F, V, p, l, h⟩ := h
  obtain ⟨hN, ho, hm, hrw, htp, htr, hln, hno, hac, hgr, him, hsc, hkf, hkl⟩ := id h
  obtain ⟨a, ca, pr⟩ := hno
  obtain ⟨n, tr, hn, hn16, t5, t6, t170⟩ := htr
  have hp := Gr_ok hgr
  have h4 := hp.2.2.2.2.1
  have hs13 : sF F F fin := sF_no hkf.1
  have NO : ∀ (N1 : Nat) (v1 : Nat → va_E), N = N1 → v = v1 → p 4 = 0 ∨ ¬ (0 ≤ x ∧ x ≤ p 4 - 1) → gM yX12_ask wsX12_ask ({ frames := 2, cells := 0, slots := 0, locals := 49 }) E B N1 v1 [.ref (B + 161), .int (zI x), .int (zI what)] (fun ρ2 N2 v2 => ρ2 = some (.int (zI (-1000001))) ∧ REL E B N2 v2) := by
    rintro N1 v1 rfl rfl hx
    refine gM_mono (c_X12_ask hm ca t170 pr hp hkl.1 hkl.2 r_x r_what) ?_
    rintro ρ2 N2 v2 ⟨rfl, res2, n2, tr2, hc2, rfl, rfl⟩ -
    have key : res2 = -1000001 ∧ n2 = F 13 ∧ tr2 = tr := by
      rcases hc2 with ⟨_, e⟩ | ⟨⟨q, _⟩, _⟩
      · exact e
      · omega
    clear hc2
    obtain ⟨rfl, rfl, rfl⟩ := key
    have e : va_up F 13 (F 13) = F := by
      funext j
      by_cases hj : j = 13
      · subst hj; exact va_up_self _ _ _
      · exact va_up_ne _ _ hj
    rw [e, cel_pad hm, cel_pad t170]
    exact ⟨rfl, RELx_in h⟩
  cases cu with
  | none =>
    refine gM_mono (c_X11_ask_0 ho) ?_
    rintro ρ N1 v1 ⟨h1, rfl, h2⟩ -
    exact ⟨_, rfl, ⟨F, V, by rw [← h1, ← h2]; exact hm⟩, NO N1 v1 h1 h2 (Or.inl (by rw [hgr.1 rfl]))⟩
  | some c =>
    obtain ⟨h174, hgs, hrk⟩ := hgr.2 c rfl
    by_cases hx : 0 ≤ x ∧ x ≤ p 4 - 1
    · obtain ⟨xn, rfl⟩ := Int.eq_ofNat_of_zero_le hx.1
      refine gM_mono (a_ask ho hgs hrk h174 (by omega) t5 t6 r_what) ?_
      rintro ρ N1 v1 ⟨rfl, res, n1, tr1, hc, rfl, rfl⟩ -
      refine ⟨_, rfl, ⟨F, V, (cel_fr hm (Nat.le_refl _) (by (repeat (first | rw [va_up_self] | rw [va_up_ne _ _ (by omega)])); all_goals rfl))⟩, ?_⟩
      refine gM_mono (c_X12_ask (cel_fr hm (Nat.le_refl _) (by (repeat (first | rw [va_up_self] | rw [va_up_ne _ _ (by omega)])); all_goals rfl)) (cel_fr ca (Nat.le_refl _) (by (repeat (first | rw [va_up_self] | rw [va_up_ne _ _ (by omega)])); all_goals rfl)) (cel_fr t170 (Nat.le_refl _) (by (repeat (first | rw [va_up_self] | rw [va_up_ne _ _ (by omega)])); all_goals rfl)) pr hp hkl.1 hkl.2 r_x r_what) ?_
      rintro ρ2 N2 v2 ⟨rfl, res2, n2, tr2, hc2, rfl, rfl⟩ -
      have key : res2 = res ∧ n2 = (n1 : Int) ∧ n1 ≤ 16 ∧ tr2 = tr1 := by
        rw [Int.toNat_natCast] at hc2
        rcases hc with ⟨q, e, e1, e3⟩ | ⟨q, e1, e3, e⟩ <;> rcases hc2 with ⟨q2, e2, f1, f3⟩ | ⟨q2, f1, f3, e2⟩
        · exact ⟨e2.trans e.symm, by omega, by omega, f3.trans e3.symm⟩
        · exact absurd q2.2 q
        · exact absurd ⟨hx, q⟩ q2
        · exact ⟨e2.trans e.symm, by rw [f1, e1], by rw [e1]; exact askD_len _ _, f3.trans e3.symm⟩
      clear hc hc2
      obtain ⟨rfl, rfl, k16, rfl⟩ := key
      refine ⟨rfl, RELx_gen (fau2 := fau) (fin2 := fin) (F2 := va_up F 13 (n1 : Int)) (V2 := V) h (Nat.le_refl _) (fun k hk => (by (repeat (first | rw [va_up_self] | rw [va_up_ne _ _ (by omega)])); all_goals rfl)) (GK_hi (Nat.le_refl _) (fun k h1 h2 => (by (repeat (first | rw [va_up_self] | rw [va_up_ne _ _ (by omega)])); all_goals rfl))) (cel_fr ho (Nat.le_refl _) (by (repeat (first | rw [va_up_self] | rw [va_up_ne _ _ (by omega)])); all_goals rfl)) ⟨(hm).1, (by (repeat (first | rw [va_up_self] | rw [va_up_ne _ _ (by omega)])); all_goals rfl)⟩ (Rw_fr hrw (Nat.le_refl _) (fun k hk => (by (repeat (first | rw [va_up_self] | rw [va_up_ne _ _ (by omega)])); all_goals rfl))) (Tp_fr htp (Nat.le_refl _) (fun k hk => (by (repeat (first | rw [va_up_self] | rw [va_up_ne _ _ (by omega)])); all_goals rfl))) ⟨n1, _, rfl, k16, ⟨(t5).1, (by (repeat (first | rw [va_up_self] | rw [va_up_ne _ _ (by omega)])); all_goals rfl)⟩, ⟨(t6).1, (by (repeat (first | rw [va_up_self] | rw [va_up_ne _ _ (by omega)])); all_goals rfl)⟩, ⟨(t170).1, (by (repeat (first | rw [va_up_self] | rw [va_up_ne _ _ (by omega)])); all_goals rfl)⟩⟩ (Sc_fr hsc (Nat.le_refl _) (fun k hk => (by (repeat (first | rw [va_up_self] | rw [va_up_ne _ _ (by omega)])); all_goals rfl))) ⟨hkf.1, hkf.2.1, rfl, rfl⟩⟩
    · refine gM_mono (c_X11_ask_n ho hgs.1 hgs.2.2.2.1 hx h4 r_x) ?_
      rintro ρ N1 v1 ⟨h1, rfl, h2⟩ -
      exact ⟨_, rfl, ⟨F, V, by rw [← h1, ← h2]; exact hm⟩, NO N1 v1 h1 h2 (Or.inr hx)⟩
/-! rows -/
theorem RwC_up {E : XE} {B N : Nat} {v w : Nat → va_E} {la sz : Nat → Int} {it : Nat → Nat → Int} {i : Nat} {a b : Int} {g : Nat → Int} (h : RwC E B N v la sz it) (hi : i < 8) (h1 : Cel N w (15 + 2 * i) (oRw B (15 + 2 * i) a b)) (h2 : Cel N w (15 + 2 * i + 1) (iarr E 40 g)) (hw : ∀ k, (k = 1 ∨ 15 ≤ k ∧ k ≤ 30) → k ≠ 15 + 2 * i → k ≠ 15 + 2 * i + 1 → w k = v k) : RwC E B N w (va_up la i a) (va_up sz i b) (va_up it i g) := by
  refine ⟨cel_fr h.1 (Nat.le_refl _) (hw _ (by omega) (by omega) (by omega)), fun j hj => ?_⟩
  by_cases q : j = i
  · subst q
    rw [va_up_self, va_up_self, va_up_self]
    exact ⟨h1, h2⟩
  · rw [va_up_ne _ _ q, va_up_ne _ _ q, va_up_ne _ _ q]
    exact ⟨cel_fr (h.2 j hj).1 (Nat.le_refl _) (hw _ (by omega) (by omega) (by omega)), cel_fr (h.2 j hj).2 (Nat.le_refl _) (hw _ (by omega) (by omega) (by omega))⟩
theorem RwA_up {la sz : Nat → Int} {it : Nat → Nat → Int} {la2 sz2 it2 la3 sz3 it3 : Nat → Int} {i : Nat} {a b : Int} {g : Nat → Int} (h : RwA la sz it la2 sz2 it2) (h1 : RwA1 i a b g (la3 i) (sz3 i) it3) (ho : ∀ j, j < 8 → j ≠ i → la3 j = la2 j ∧ sz3 j = sz2 j ∧ ∀ k : Nat, k < 40 → it3 (40 * j + k) = it2 (40 * j + k)) : RwA (va_up la i a) (va_up sz i b) (va_up it i g) la3 sz3 it3 := fun j hj => by
  by_cases q : j = i
  · subst q
    rw [va_up_self, va_up_self, va_up_self]
    exact h1
  · rw [va_up_ne _ _ q, va_up_ne _ _ q, va_up_ne _ _ q, (ho j hj q).1, (ho j hj q).2.1]
    obtain ⟨k1, k2, k3, k4, k5, k6⟩ := h j hj
    exact ⟨k1, k2, k3, k4, k5, fun z => ⟨(k6 z).1, (k6 z).2.1, fun k hk => ((ho j hj q).2.2 k (by omega)).trans ((k6 z).2.2 k hk)⟩⟩
theorem RwA_no {la sz : Nat → Int} {it : Nat → Nat → Int} {la2 sz2 it2 : Nat → Int} {i : Nat} (hi : i < 8) (h : RwA la sz it la2 sz2 it2) : RwA (va_up la i (la i)) (va_up sz i (sz i)) (va_up it i (it i)) la2 sz2 it2 := RwA_up h (h i hi) (fun _ _ _ => ⟨rfl, rfl, fun _ _ => rfl⟩)
theorem st_row {E : XE} {B N : Nat} {v : Nat → va_E} {r : Int} {lane : Int} {n : Int} (h : REL E B N v) (r_r : (-2147483648 ≤ r ∧ r ≤ 2147483647)) (r_lane : (-2147483648 ≤ lane ∧ lane ≤ 2147483647)) (r_n : (-2147483648 ≤ n ∧ n ≤ 2147483647)) : gM yX11_row wsX11_row ({ frames := 2, cells := 0, slots := 0, locals := 44 }) E B N v [.ref (B + 0), .int (zI r), .int (zI lane), .int (zI n)] (PB E B yX12_row wsX12_row ({ frames := 2, cells := 0, slots := 0, locals := 45 }) [.ref (B + 161), .int (zI r), .int (zI lane), .int (zI n)]) := by
  obtain ⟨cu, old, kept, fau, fin, F, V, p, l, h⟩ := h
  obtain ⟨hN, ho, hm, hrw, htp, htr, hln, hno, hac, hgr, him, hsc, hkf, hkl⟩ := id h
  obtain ⟨la, sz, it, la2, sz2, it2, hC, c2, c3, c4, hA⟩ := hrw
  obtain ⟨i, hi, hci, hri⟩ := rowI r
  have hA1 := hA i hi
  refine gM_mono (c_X11_row (c := 15 + 2 * i) (g := it i) ho hC.1 (hC.2 i hi).1 (hC.2 i hi).2 hci.symm r_r r_lane r_n (by have := hA1.2.1; omega)) ?_
  rintro ρ N1 v1 ⟨rfl, res, fin2, a, b, g, hc, rfl, rfl⟩ -
  refine ⟨res, rfl, ⟨F, V, (cel_fr hm (Nat.le_refl _) (by (repeat (first | rw [va_up_self] | rw [va_up_ne _ _ (by omega)])); all_goals rfl))⟩, ?_⟩
  refine gM_mono (c_X12_row (cel_fr hm (Nat.le_refl _) (by (repeat (first | rw [va_up_self] | rw [va_up_ne _ _ (by omega)])); all_goals rfl)) (cel_fr c2 (Nat.le_refl _) (by (repeat (first | rw [va_up_self] | rw [va_up_ne _ _ (by omega)])); all_goals rfl)) (cel_fr c3 (Nat.le_refl _) (by (repeat (first | rw [va_up_self] | rw [va_up_ne _ _ (by omega)])); all_goals rfl)) (cel_fr c4 (Nat.le_refl _) (by (repeat (first | rw [va_up_self] | rw [va_up_ne _ _ (by omega)])); all_goals rfl)) r_r r_lane r_n) ?_
  rintro ρ2 N2 v2 ⟨rfl, res2, F2, la3, sz3, it3, hc2, rfl, rfl⟩ -
  have key : res2 = res ∧ sF F F2 fin2 ∧ RwA (va_up la i a) (va_up sz i b) (va_up it i g) la3 sz3 it3 := by
    rcases hc with ⟨q, e, ef, ea, eb, eg⟩ | ⟨q, w, e, ef, ea, eb, eg⟩ | ⟨q, w, e, ef, ea, eb, eg⟩ <;> rcases hc2 with ⟨q2, e2, eF, fa, fb, fg⟩ | ⟨q2, e2, eF, fa, fb, fg⟩ | ⟨q2, e2, eF, fa, fb, fg⟩
    · exact ⟨e2.trans e.symm, by rw [ef, eF]; exact sF_no hkf.1, by rw [ea, eb, eg, fa, fb, fg]; exact RwA_no hi hA⟩
    · omega
    · omega
    · omega
    · exact ⟨e2.trans e.symm, by rw [ef, eF]; exact sF_up F _, by rw [ea, eb, eg, fa, fb, fg]; exact RwA_no hi hA⟩
    · omega
    · omega
    · omega
    · have hr := hri ⟨q2.1, q2.2.1⟩
      subst hr
      rw [Int.toNat_natCast] at fa fb fg
      refine ⟨e2.trans e.symm, by rw [ef, eF]; exact sF_up F _, ?_⟩
      subst ea; subst eb; subst fa; subst fb; subst fg
      refine RwA_up hA ?_ (fun j hj hne => ⟨va_up_ne _ _ hne, va_up_ne _ _ hne, fun k hk => ?_⟩)
      · rw [va_up_self, va_up_self]
        refine ⟨by omega, by omega, by omega, by omega, by omega, fun _ => ⟨rfl, rfl, fun k hk => ?_⟩⟩
        rw [eg k hk]
        unfold clrA
        rw [if_pos (by omega)]
      · unfold clrA
        rw [if_neg (by omega)]
  clear hc hc2
  exact ⟨res_eq key.1, RELx_gen (fau2 := fau) (fin2 := fin2) (F2 := F2) (V2 := V) h (Nat.le_refl _) (fun k hk => (by (repeat (first | rw [va_up_self] | rw [va_up_ne _ _ (by omega)])); all_goals rfl)) (GK_hi (Nat.le_refl _) (fun k h1 h2 => (by (repeat (first | rw [va_up_self] | rw [va_up_ne _ _ (by omega)])); all_goals rfl))) ⟨(ho).1, (by (repeat (first | rw [va_up_self] | rw [va_up_ne _ _ (by omega)])); all_goals rfl)⟩ ⟨(hm).1, (by (repeat (first | rw [va_up_self] | rw [va_up_ne _ _ (by omega)])); all_goals rfl)⟩ ⟨_, _, _, la3, sz3, it3, RwC_up hC hi ⟨((hC.2 i hi).1).1, (by (repeat (first | rw [va_up_self] | rw [va_up_ne _ _ (by omega)])); all_goals rfl)⟩ ⟨((hC.2 i hi).2).1, (by (repeat (first | rw [va_up_self] | rw [va_up_ne _ _ (by omega)])); all_goals rfl)⟩ (fun k hk h1 h2 => (by (repeat (first | rw [va_up_self] | rw [va_up_ne _ _ (by omega)])); all_goals rfl)), ⟨(c2).1, (by (repeat (first | rw [va_up_self] | rw [va_up_ne _ _ (by omega)])); all_goals rfl)⟩, ⟨(c3).1, (by (repeat (first | rw [va_up_self] | rw [va_up_ne _ _ (by omega)])); all_goals rfl)⟩, ⟨(c4).1, (by (repeat (first | rw [va_up_self] | rw [va_up_ne _ _ (by omega)])); all_goals rfl)⟩, key.2.2⟩ (by rw [key.2.1.2.1]; exact Tp_fr htp (Nat.le_refl _) (fun k hk => (by (repeat (first | rw [va_up_self] | rw [va_up_ne _ _ (by omega)])); all_goals rfl))) (by rw [key.2.1.2.2.2.2.2]; exact Tr_fr htr (Nat.le_refl _) (fun k hk => (by (repeat (first | rw [va_up_self] | rw [va_up_ne _ _ (by omega)])); all_goals rfl))) (Sc_fr hsc (Nat.le_refl _) (fun k hk => (by (repeat (first | rw [va_up_self] | rw [va_up_ne _ _ (by omega)])); all_goals rfl))) ⟨key.2.1.1, key.2.1.2.2.1.trans hkf.2.1, key.2.1.2.2.2.1, key.2.1.2.2.2.2.1⟩⟩

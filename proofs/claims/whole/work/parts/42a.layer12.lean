/-! one of the people into the array of them; a table of jumps by its looks -/
section
variable {Γ : XT} {E : XE} {B : Nat} {cc : ByteArray} {own : String} {Ts : List Cond} {rm : Room} {N : Nat} {v : Nat → va_E} {L : List (Nat × Value)} {kc ks pc : Nat} {st : List Value}
theorem x_aastP {c n ci d : Nat} {r : vw_C} {vs : List Value} {g : Nat → Option Nat} {i : Int} (j : Nat) (K : Cx Γ E B cc own Ts rm) (hv : Cel N v c (rarr E 5 n B g)) (hw : Cel N v d (.inr (ci, vs))) (hc : vwCl[ci]? = some r) (hy : (r.1, "BorderBeds$Person") ∈ xYes) (hi : i = (j : Int)) (hj : j < n) (hn : n < 2147483648) (hd : decode cc pc = .ok (.aastore, 1)) (k : XW Γ N (va_up v c (rarr E 5 n B (va_up g j (some d)))) L kc ks (pc + 1) st) : XW Γ N v L kc ks pc (.ref (B + d) :: .int (zI i) :: .ref (B + c) :: st) := by
  obtain ⟨p, l, e, R, s, m, args, below, meth, c0, E', B', Q, nL⟩ := Γ
  obtain ⟨rfl, rfl, hx, hb, hown, hts, hK, hml, hA, rfl⟩ := K
  intro H locs ls hP hS hl
  have h0 := hP.2 c hv.1
  rw [hv.2] at h0
  have hin := zI_in hi hn hj
  have h9 := hP.2 d hw.1
  rw [hw.2] at h9
  obtain ⟨r', hr', cellV, g1, g2, g3, -⟩ := h9
  have hcls := (hK.1 ci r hc).2
  obtain ⟨kA, comp, k1, k2, k3, -⟩ := (hK.2 5 _ rfl).2
  obtain ⟨c9, t9, f1, f2, f3⟩ := Cond.castable_spec (va_Nw.use (A := args) rfl (hA.2.2.1 _ hy))
  have ec : t9 = comp := Option.some.inj (f2.symm.trans k3)
  subst ec
  have ec2 : c9 = E'.1.1 ci := Option.some.inj (f1.symm.trans hcls.1)
  subst ec2
  obtain ⟨kC, hkC, -⟩ := hcls.2
  obtain ⟨kComp, hkComp, -⟩ := Vm.findClass_spec k3
  refine W.aast hx hb h0 (fun q h => by cases h) (fun h => by cases h) k1 k2 rfl hkComp ⟨fun q => hin (Or.inl q), by show _ < (arrV _ _ _).slots.size; rw [arrV_size]; exact Nat.not_le.mp fun q => hin (Or.inr q)⟩ g1 (fun q h => by rw [g3] at h; cases h) (by rw [g2]; exact hkC) (by rw [g2]; exact f3) rfl rfl hd fun H1 e z oq => ?_
  refine k H1 _ ls (gP_set hP z ?_ oq) (hS.put z oq (Nat.le_add_right _ _)) hl
  show H1[B' + c]? = some (vp_cell (E'.2.1 5) (n, .inr (.inr (.inr (.inr (fun k => (va_up g j (some d) k).map (fun c => B' + c)))))))
  rw [e, zI_cl hi (by omega)]
  rw [vp_cell_q, vp_cell_q, arrV_store]
  congr 2
  funext q
  by_cases hq : q = j
  · subst hq
    simp [updV, va_up, va_rf]
  · simp [updV, va_up, hq]
theorem x_aastK {kd : Int} {c n d : Nat} {vs : List Value} {g : Nat → Option Nat} {i : Int} (j : Nat) (K : Cx Γ E B cc own Ts rm) (hk : 1 ≤ kd ∧ kd ≤ 5) (hv : Cel N v c (rarr E 5 n B g)) (hw : Cel N v d (.inr (kci kd, vs))) (hi : i = (j : Int)) (hj : j < n) (hn : n < 2147483648) (hd : decode cc pc = .ok (.aastore, 1)) (k : XW Γ N (va_up v c (rarr E 5 n B (va_up g j (some d)))) L kc ks (pc + 1) st) : XW Γ N v L kc ks pc (.ref (B + d) :: .int (zI i) :: .ref (B + c) :: st) := by
  rcases kd5 hk with rfl | rfl | rfl | rfl | rfl
  · exact x_aastP (ci := 0) (r := (RX0, TX0, 4)) j K hv hw rfl (by decide +kernel) hi hj hn hd k
  · exact x_aastP (ci := 2) (r := (RX2, TX2, 4)) j K hv hw rfl (by decide +kernel) hi hj hn hd k
  · exact x_aastP (ci := 9) (r := (RX10, TX10, 4)) j K hv hw rfl (by decide +kernel) hi hj hn hd k
  · exact x_aastP (ci := 1) (r := (RX1, TX1, 4)) j K hv hw rfl (by decide +kernel) hi hj hn hd k
  · exact x_aastP (ci := 5) (r := (RX5, TX5, 4)) j K hv hw rfl (by decide +kernel) hi hj hn hd k
end
/-! a field under its other name -/
section
variable {Γ : XT} {E : XE} {B : Nat} {cc : ByteArray} {own : String} {Ts : List Cond} {rm : Room} {N : Nat} {v : Nat → va_E} {L : List (Nat × Value)} {kc ks pc : Nat} {st : List Value}
theorem x_getI {C : String} {T : u_T} {n ci idx : Nat} {ref : String} {c : Nat} {fs : List Value} {x : Value} (K : Cx Γ E B cc own Ts rm) (hv : Cel N v c (.inr (ci, fs))) (hc : vwCl[ci]? = some (C, T, n)) (hin : ∀ w ∈ u_ws C T n, w ∈ Ts) (k9 : Nat) (hk : k9 < n) (hlink : Cond.fieldLink own idx ref (T k9).2.1 (T k9).2.2.1 ∈ Ts) (hsame : Cond.sameField ref (T k9).1 (T k9).2.1 (T k9).2.2.1 ∈ Ts) (hf : fs[k9]? = some x) (hd : decode cc pc = .ok (.getfield idx, 3)) (k : XW Γ N v L kc ks (pc + 3) (x :: st)) : XW Γ N v L kc ks pc (.ref (B + c) :: st) := by
  obtain ⟨p, l, e, R, s, m, args, below, meth, c0, E', B', Q, nL⟩ := Γ
  obtain ⟨rfl, rfl, hx, hb, hown, hts, hK, hml, hA, rfl⟩ := K
  refine fun H locs ls hP hS hl => va_get (ws := [(B' + c, .inr (ci, fs))]) hx hb hts hin hown hK (fun k q hq => ?_) 0 rfl hc k9 hk (hts _ hlink) (fun z h9 => ?_) hf hd (k H locs ls hP hS hl)
  · have h0 := hP.2 c hv.1
    rw [hv.2] at h0
    match k, hq with
    | 0, hq => cases hq; exact h0
    | k + 1, hq => simp at hq
  · have w := hts _ hsame
    cases hr : s.fieldFound? ref (T k9).2.1 (T k9).2.2.1 with
    | none => simp [Cond.before, Cond.holds, Cond.value, hr] at w
    | some y =>
      obtain ⟨c1, k1, i1, f1⟩ := y
      rw [Cond.sameField_spec hr w] at h9
      exact h9
end

/-! the people: their class by their kind -/
def kci (k : Int) : Nat := if k = 1 then 0 else if k = 2 then 2 else if k = 3 then 9 else if k = 4 then 1 else 5
theorem kd5 {k : Int} (h : 1 ≤ k ∧ k ≤ 5) : k = 1 ∨ k = 2 ∨ k = 3 ∨ k = 4 ∨ k = 5 := by omega
theorem TX_same : TX1 = TX0 ∧ TX2 = TX0 ∧ TX5 = TX0 ∧ TX10 = TX0 := ⟨rfl, rfl, rfl, rfl⟩
section
variable {Γ : XT} {E : XE} {B : Nat} {cc : ByteArray} {own : String} {Ts : List Cond} {rm : Room} {N : Nat} {v : Nat → va_E} {L : List (Nat × Value)} {kc ks pc : Nat} {st st0 : List Value}
variable {y : MethodName} {bytes : ByteArray} {maxL idx : Nat} {ret : Option FieldType} {ws ws' : List Cond} {rmc : Room} {As : List Value} {po : Option Value → Nat → (Nat → va_E) → Prop}
theorem x_getP {kd : Int} {o : Nat} {fs : List Value} {x : Value} (K : Cx Γ E B cc own Ts rm) (hk : 1 ≤ kd ∧ kd ≤ 5) (hv : Cel N v o (.inr (kci kd, fs))) (h0 : ∀ w ∈ u_ws RX0 TX0 4, w ∈ Ts) (h1 : ∀ w ∈ u_ws RX1 TX1 4, w ∈ Ts) (h2 : ∀ w ∈ u_ws RX2 TX2 4, w ∈ Ts) (h5 : ∀ w ∈ u_ws RX5 TX5 4, w ∈ Ts) (h10 : ∀ w ∈ u_ws RX10 TX10 4, w ∈ Ts) (k9 : Nat) (hk9 : k9 < 4) (hlink : Cond.fieldLink own idx (TX0 k9).1 (TX0 k9).2.1 (TX0 k9).2.2.1 ∈ Ts) (hf : fs[k9]? = some x) (hd : decode cc pc = .ok (.getfield idx, 3)) (k : XW Γ N v L kc ks (pc + 3) (x :: st)) : XW Γ N v L kc ks pc (.ref (B + o) :: st) := by
  rcases kd5 hk with rfl | rfl | rfl | rfl | rfl
  · exact x_get (C := RX0) (T := TX0) (n := 4) (ci := 0) K hv rfl h0 k9 hk9 hlink rfl hf hd k
  · exact x_get (C := RX2) (T := TX2) (n := 4) (ci := 2) K hv rfl h2 k9 hk9 (by rw [TX_same.2.1]; exact hlink) (by rw [TX_same.2.1]) hf hd k
  · exact x_get (C := RX10) (T := TX10) (n := 4) (ci := 9) K hv rfl h10 k9 hk9 (by rw [TX_same.2.2.2]; exact hlink) (by rw [TX_same.2.2.2]) hf hd k
  · exact x_get (C := RX1) (T := TX1) (n := 4) (ci := 1) K hv rfl h1 k9 hk9 (by rw [TX_same.1]; exact hlink) (by rw [TX_same.1]) hf hd k
  · exact x_get (C := RX5) (T := TX5) (n := 4) (ci := 5) K hv rfl h5 k9 hk9 (by rw [TX_same.2.2.1]; exact hlink) (by rw [TX_same.2.2.1]) hf hd k
/-- an abstract method, by the receiver's class -/
theorem x_callA {na : Nat} {C : String} {T : u_T} {n ci c : Nat} {fs : List Value} (K : Cx Γ E B cc own Ts rm) (hM : gM y ws rmc E B N v (.ref (B + c) :: As) po) (hT : GoodIn Ts (va_wsU own idx C "BorderBeds$Person" ⟨"BorderBeds$Person", "sort", "()I"⟩ y ws)) (hw : ws = Cond.code y bytes maxL ret :: ws') (hdd : "BorderBeds$Person" ≠ "java/lang/invoke/MethodHandle" ∧ "BorderBeds$Person" ≠ "java/lang/invoke/VarHandle" ∧ (parseMethodDescriptor "()I").map (fun d => d.parameters.length) = some na) (hna : As.length = na) (hR : rmc.frames + 1 ≤ rm.frames ∧ 8 + (maxL + 11) + rmc.locals ≤ rm.locals) (hv : Cel N v c (.inr (ci, fs))) (hc : vwCl[ci]? = some (C, T, n)) (hst : st0 = As.reverse ++ .ref (B + c) :: st) (hroom : (st.map fun v => v.category).sum ≤ 8) (hcs : kc + rmc.cells ≤ rm.cells ∧ ks + rmc.slots ≤ rm.slots) (hd : decode cc pc = .ok (.invokevirtual idx, 3))
    (k : ∀ r N' v', po r N' v' → N ≤ N' → XW Γ N' v' L (kc + rmc.cells) (ks + rmc.slots) (pc + 3) (r.toList ++ st)) : XW Γ N v L kc ks pc st0 := by
  subst hst
  subst hna
  obtain ⟨p, l, e, R, s, m, args, below, meth, c0, E', B', Q, nL⟩ := Γ
  obtain ⟨rfl, rfl, hx, hb, hown, hts, hK, hml, hA, rfl⟩ := K
  intro H locs ls hP hS hl
  refine x_run (va_runU (As := As) (rest := st) ⟨hx, hb, hml, hown, hts⟩ (hM l) (va_cwA As.length hts hT hw rfl rfl hA.2.2.2.2.2.2.2.2.2.1 hdd hR) ⟨gPre_blind, x_recv hK hP hv hc, fun U hU hW => ⟨rfl, by rw [hU]; exact hP, va_K.moved hW.alike hK, gI_tr hA.2 hW hS hU⟩⟩ rfl rfl hl.1 rfl (lv_room hroom) hd hcs) hS (fun r N' v' H1 locs1 h1 h2 h3 h4 => k r N' v' h1 h2 H1 locs1 ls h3 h4 hl)
end

/-! what the law's own body needs -/
section
variable {Γ : XT} {E : XE} {B N : Nat} {v : Nat → va_E} {L : List (Nat × Value)} {kc ks pc : Nat} {st : List Value} {cc : ByteArray} {own : String} {Ts : List Cond} {rm : Room}
theorem x_sld0 {b n : Nat} {xs : Nat → Int32} {i : Int} (j : Nat) (K : Cx Γ E B cc own Ts rm) (hX : va_X b n xs Γ.2.2.2.2.1 Γ.2.2.2.2.1.heap) (hb9 : b < B) (hi : i = (j : Int)) (hj : j < n) (hn : n < 2147483648) (hd : decode cc pc = .ok (.iaload, 1)) (k : XW Γ N v L kc ks (pc + 1) (.int (xs j) :: st)) : XW Γ N v L kc ks pc (.int (zI i) :: .ref b :: st) := by
  obtain ⟨p, l, e, R, s, m, args, below, meth, c0, E', B', Q, nL⟩ := Γ
  obtain ⟨rfl, rfl, hx, hb, hown, hts, hK, hml, hA, rfl⟩ := K
  intro H locs ls hP hS hl
  refine va_sld hx hb hX (Nat.lt_of_lt_of_le hb9 hA.1) (Nat.not_le.mpr hb9) hS (zI_in hi hn hj) hd ?_
  rw [zI_cl hi (by omega)]
  exact k H locs ls hP hS hl
theorem x_sld {b n : Nat} {xs : Nat → Int32} {i : Int} (j : Nat) (K : Cx Γ E B cc own Ts rm) (hX : va_X b n xs Γ.2.2.2.2.1 Γ.2.2.2.2.1.heap) (hb9 : b < B) (hi : i = (j : Int)) (hj : j < n) (hn : n < 2147483648) (hd : decode cc pc = .ok (.iaload, 1)) (k : XW Γ N v L kc ks (pc + 1) (.int (zI (xs j).toInt) :: st)) : XW Γ N v L kc ks pc (.int (zI i) :: .ref b :: st) :=
  x_sld0 j K hX hb9 hi hj hn hd (x_st (by rw [zI_self]) k)
theorem x_slen {b n : Nat} {xs : Nat → Int32} (K : Cx Γ E B cc own Ts rm) (hX : va_X b n xs Γ.2.2.2.2.1 Γ.2.2.2.2.1.heap) (hb9 : b < B) (hd : decode cc pc = .ok (.arraylength, 1)) (k : XW Γ N v L kc ks (pc + 1) (.int (zI (n : Int)) :: st)) : XW Γ N v L kc ks pc (.ref b :: st) := by
  obtain ⟨p, l, e, R, s, m, args, below, meth, c0, E', B', Q, nL⟩ := Γ
  obtain ⟨rfl, rfl, hx, hb, hown, hts, hK, hml, hA, rfl⟩ := K
  intro H locs ls hP hS hl
  refine va_slen hx hb hX (Nat.lt_of_lt_of_le hb9 hA.1) (Nat.not_le.mpr hb9) hS hd ?_
  rw [show Int32.ofNat n = zI (n : Int) from zI_nI n]
  exact k H locs ls hP hS hl
theorem x_same {x : Int32} {off : Int} {tgt : Nat} (K : Cx Γ E B cc own Ts rm) (hd : decode cc pc = .ok (.if_icmp .eq off, 3)) (ht : (pc : Int) + off = (tgt : Int)) (kt : XW Γ N v L kc ks tgt st) : XW Γ N v L kc ks pc (.int x :: .int x :: st) := by
  rw [← zI_self x]
  exact x_icmp_eq K (zI_rng x) (zI_rng x) hd ht (fun _ => kt) (fun h => absurd rfl h)
end
theorem and31 (x : Int32) : ∃ z : Nat, z ≤ 31 ∧ x &&& zI 31 = zI (z : Int) := by
  have h0 : (x &&& zI 31).toBitVec.toNat ≤ 31 := by
    rw [Int32.toBitVec_and, BitVec.toNat_and]
    exact Nat.and_le_right
  refine ⟨(x &&& zI 31).toBitVec.toNat, h0, ?_⟩
  have h1 : (x &&& zI 31).toInt = (((x &&& zI 31).toBitVec.toNat : Nat) : Int) := by
    show (x &&& zI 31).toBitVec.toInt = _
    exact BitVec.toInt_eq_toNat_of_lt (by omega)
  rw [← h1]
  exact (zI_self _).symm
/-! array classes, by the tables -/
theorem ar_cls {s : State} {a : Array Value} {ty : FieldType} (h : (Cond.arrayClass ty).before a s = true) : ∃ cA : ClassId, ArrOfT s cA ty ∧ s.vm.findClass ("[" ++ ty.toString) = some cA := by
  obtain ⟨c, k, comp, h1, h2, h3⟩ := Cond.arrayClass_spec h
  exact ⟨c, fun n z => ⟨(fun k h => by cases h), k, h2, comp, h3⟩, h1⟩
theorem ar_obj {s : State} {a : Array Value} {C : String} (h : (Cond.arrayOver (.object C)).before a s = true) : ∃ cA : ClassId, ArrOfT s cA (.object C) ∧ va_RA s cA (.object C) := by
  obtain ⟨comp, c, k, h1, -, h3, h4, h5⟩ := Cond.arrayOver_spec h
  exact ⟨c, fun n z => ⟨(fun k h => by cases h), k, h3, comp, h4⟩, k, comp, h3, h4, h1, h5⟩
theorem ar_arr {s : State} {a : Array Value} {ty : FieldType} (h : (Cond.arrayOver (.array ty)).before a s = true) : ∃ cA : ClassId, ArrOfT s cA (.array ty) ∧ s.vm.findClass ("[" ++ (FieldType.array ty).toString) = some cA := by
  obtain ⟨comp, c, k, h1, h3, h4, h5⟩ := Cond.arrayOver_specA h
  exact ⟨c, fun n z => ⟨(fun k h => by cases h), k, h3, comp, h4⟩, h5⟩
/-- which classes and array classes there are -/
theorem law_K {s : State} {a : Array Value} (hts : ∀ w ∈ lw_tbl, w.before a s = true) : ∃ (D : va_G) (ca : Nat → ClassId), va_K D vwCl (xT ca) s := by
  obtain ⟨c0, i0, k0⟩ := u_known (C := RX0) (T := TX0) (N := 4) (n := 4) hts (by decide +kernel) (hts (.instantiable RX0 4) (by decide +kernel))
  obtain ⟨c1, i1, k1⟩ := u_known (C := RX1) (T := TX1) (N := 4) (n := 4) hts (by decide +kernel) (hts (.instantiable RX1 4) (by decide +kernel))
  obtain ⟨c2, i2, k2⟩ := u_known (C := RX2) (T := TX2) (N := 4) (n := 4) hts (by decide +kernel) (hts (.instantiable RX2 4) (by decide +kernel))
  obtain ⟨c3, i3, k3⟩ := u_known (C := RX3) (T := TX3) (N := 11) (n := 11) hts (by decide +kernel) (hts (.instantiable RX3 11) (by decide +kernel))
  obtain ⟨c4, i4, k4⟩ := u_known (C := RX4) (T := TX4) (N := 5) (n := 5) hts (by decide +kernel) (hts (.instantiable RX4 5) (by decide +kernel))
  obtain ⟨c5, i5, k5⟩ := u_known (C := RX5) (T := TX5) (N := 4) (n := 4) hts (by decide +kernel) (hts (.instantiable RX5 4) (by decide +kernel))
  obtain ⟨c6, i6, k6⟩ := u_known (C := RX7) (T := TX7) (N := 3) (n := 3) hts (by decide +kernel) (hts (.instantiable RX7 3) (by decide +kernel))
  obtain ⟨c7, i7, k7⟩ := u_known (C := RX8) (T := TX8) (N := 9) (n := 9) hts (by decide +kernel) (hts (.instantiable RX8 9) (by decide +kernel))
  obtain ⟨c8, i8, k8⟩ := u_known (C := RX9) (T := TX9) (N := 2) (n := 2) hts (by decide +kernel) (hts (.instantiable RX9 2) (by decide +kernel))
  obtain ⟨c9, i9, k9⟩ := u_known (C := RX10) (T := TX10) (N := 4) (n := 4) hts (by decide +kernel) (hts (.instantiable RX10 4) (by decide +kernel))
  obtain ⟨c10, i10, k10⟩ := u_known (C := RX11) (T := TX11) (N := 12) (n := 12) hts (by decide +kernel) (hts (.instantiable RX11 12) (by decide +kernel))
  obtain ⟨c11, i11, k11⟩ := u_known (C := RX12) (T := TX12) (N := 26) (n := 26) hts (by decide +kernel) (hts (.instantiable RX12 26) (by decide +kernel))
  have hKn : ∃ (dC : Nat → ClassId) (dI : Nat → Nat → Nat), ∀ (k : Nat) (q : vw_C), vwCl[k]? = some q → u_Kn s q.1 q.2.1 q.2.2 (dC k) (dI k) := by
    refine ⟨fun k => match k with | 0 => c0 | 1 => c1 | 2 => c2 | 3 => c3 | 4 => c4 | 5 => c5 | 6 => c6 | 7 => c7 | 8 => c8 | 9 => c9 | 10 => c10 | _ => c11, fun k => match k with | 0 => i0 | 1 => i1 | 2 => i2 | 3 => i3 | 4 => i4 | 5 => i5 | 6 => i6 | 7 => i7 | 8 => i8 | 9 => i9 | 10 => i10 | _ => i11, ?_⟩
    intro k q hq
    match k, hq with
    | 0, hq => cases hq; exact k0
    | 1, hq => cases hq; exact k1
    | 2, hq => cases hq; exact k2
    | 3, hq => cases hq; exact k3
    | 4, hq => cases hq; exact k4
    | 5, hq => cases hq; exact k5
    | 6, hq => cases hq; exact k6
    | 7, hq => cases hq; exact k7
    | 8, hq => cases hq; exact k8
    | 9, hq => cases hq; exact k9
    | 10, hq => cases hq; exact k10
    | 11, hq => cases hq; exact k11
    | k + 12, hq => simp [vwCl] at hq
  obtain ⟨dC, dI, hKn⟩ := hKn
  obtain ⟨t0, r0, s0⟩ := ar_cls (hts (.arrayClass .int) (by decide +kernel))
  obtain ⟨t1, r1, s1⟩ := ar_cls (hts (.arrayClass .boolean) (by decide +kernel))
  obtain ⟨t2, r2, s2⟩ := ar_obj (hts (.arrayOver (.object "BorderBeds$Row")) (by decide +kernel))
  obtain ⟨t3, r3, s3⟩ := ar_obj (hts (.arrayOver (.object "BorderBeds$Line")) (by decide +kernel))
  obtain ⟨t4, r4, s4⟩ := ar_obj (hts (.arrayOver (.object "BorderBeds$Ground")) (by decide +kernel))
  obtain ⟨t5, r5, s5⟩ := ar_obj (hts (.arrayOver (.object "BorderBeds$Person")) (by decide +kernel))
  obtain ⟨t6, r6, s6⟩ := ar_arr (hts (.arrayOver (.array .int)) (by decide +kernel))
  refine ⟨(dC, dI), fun k => match k with | 0 => t0 | 1 => t1 | 2 => t2 | 3 => t3 | 4 => t4 | 5 => t5 | _ => t6, hKn, ?_⟩
  intro k q hq
  match k, hq with
  | 0, hq => cases hq; exact ⟨r0, s0⟩
  | 1, hq => cases hq; exact ⟨r1, s1⟩
  | 2, hq => cases hq; exact ⟨r2, s2⟩
  | 3, hq => cases hq; exact ⟨r3, s3⟩
  | 4, hq => cases hq; exact ⟨r4, s4⟩
  | 5, hq => cases hq; exact ⟨r5, s5⟩
  | 6, hq => cases hq; exact ⟨r6, s6⟩
  | k + 7, hq => simp [xT] at hq
/-! what the launch gives -/
def lwF : List Cond := flatC (Jvm.Cond.and given_1 narrow_1)
def lwS (i : Nat) : Term := .string "BorderBeds$Tape" (xIx i)
def lwV (i : Nat) : Term := .field (lwS i) "java/lang/String" "value" "[B"
theorem lf_no : ∀ q ∈ xNo, Cond.not (.castable q.1 q.2) ∈ lwF := by decide +kernel
theorem lf_yes : ∀ q ∈ xYes, Cond.castable q.1 q.2 ∈ lw_tbl := by decide +kernel
theorem lf_ex : ∀ i : Nat, i < 9 → Cond.exactly (lwS i) "java/lang/String" ∈ lwF := by decide +kernel
theorem lf_co : ∀ i : Nat, i < 9 → Cond.eq (.field (lwS i) "java/lang/String" "coder" "B") (.int 0) ∈ lwF := by decide +kernel
theorem lf_ar : ∀ i : Nat, i < 9 → Cond.arrayOf (lwV i) .byte ∈ lwF := by decide +kernel
theorem lf_le : ∀ i : Nat, i < 9 → Cond.eq (.length (lwV i)) (.int (Int32.ofNat (xLen.getD i 0))) ∈ lwF := by decide +kernel
theorem lf_el : ∀ i : Nat, i < 9 → ∀ j : Nat, j < xLen.getD i 0 → Cond.eq (.elem (lwV i) (.int (Int32.ofNat j))) (.int ((xByt.getD i []).getD j 0)) ∈ lwF := by decide +kernel
theorem lf_ne : ∀ i : Nat, i < 9 → ∀ j : Nat, j < 9 → i ≠ j → Cond.not (.eq (lwS i) (lwS j)) ∈ lwF ∨ Cond.not (.eq (lwS j) (lwS i)) ∈ lwF := by decide +kernel
theorem lf_st : ∀ i : Nat, i < 9 → Cond.stringRef "BorderBeds$Tape" (xIx i) (xTx i) ∈ lw_tbl := by decide +kernel
theorem lf_ao : ∀ C ∈ xAr, Cond.arrayOver (.object C) ∈ lw_tbl := by decide +kernel
theorem lf_ne2 : ∀ q ∈ xNe, Cond.methodLinkNest q.1 q.2.1 q.2.2 "BorderBeds" ∈ lw_tbl := by decide +kernel
theorem lf_31 : ∀ i : Nat, i < 9 → xLen.getD i 0 < 2 ^ 31 := by decide +kernel
theorem law_gI {s : State} {b : Nat} (hts : ∀ w ∈ lw_tbl, w.before #[Value.ref b] s = true) (hgv : (Jvm.Cond.and given_1 narrow_1).before #[Value.ref b] s = true) : ∃ adK adV : Nat → Nat, ∀ (D : va_G) (ca : Nat → ClassId), gI (D, ca, adK, adV) s.heap.size s := by
  have hs : ∀ c ∈ lwF, c.before #[Value.ref b] s = true := flat_of_before _ hgv
  have hA : ∀ a : Nat, a < s.heap.size → ¬ (fun q : Nat => s.heap.size ≤ q) a := fun a h => Nat.not_le.mpr h
  obtain ⟨adK, adV, hS, hE⟩ := vk_Sof (A := fun q : Nat => s.heap.size ≤ q) (tm := lwS) (len := xLen) (byt := xByt) (N := 9) lf_31 (fun i hi => hs _ (lf_ex i hi)) (fun i hi => hs _ (lf_co i hi)) (fun i hi => hs _ (lf_ar i hi)) (fun i hi => hs _ (lf_le i hi)) (fun i hi j hj => hs _ (lf_el i hi j hj)) (fun i j hi hj hne => (lf_ne i hi j hj hne).elim (fun h => Or.inl (hs _ h)) (fun h => Or.inr (hs _ h))) hA
  refine ⟨adK, adV, fun D ca => ⟨fun q hq => va_Nc.of (hs _ (lf_no q hq)), fun q hq => va_Nw.of rfl (hts _ (lf_yes q hq)), hS, fun i hi => vk_R.of (hts _ (lf_st i hi)) (hE i hi), va_Zof (hts (.laysStatic "java/lang/String" "COMPACT_STRINGS" "Z") (by decide +kernel)) (hts (.initialized "java/lang/String") (by decide +kernel)) (va_eqt (hs (.eq (.static "java/lang/String" "COMPACT_STRINGS" "Z") (.int 1)) (by decide +kernel))) hA, va_Zqof (hts (.laysStatic "jdk/internal/util/Preconditions" "SIOOBE_FORMATTER" "Ljava/util/function/BiFunction;") (by decide +kernel)) (hts (.initialized "jdk/internal/util/Preconditions") (by decide +kernel)) (hs (.isRef (.static "jdk/internal/util/Preconditions" "SIOOBE_FORMATTER" "Ljava/util/function/BiFunction;")) (by decide +kernel)) hA, fun C hC => va_AO.of (hts _ (lf_ao C hC)), hts (.arrayOver (.array .int)) (by decide +kernel), va_Nw.of rfl (hts (.declares ⟨"BorderBeds$Person", "sort", "()I"⟩) (by decide +kernel)), fun q hq => va_Nw.of rfl (hts _ (lf_ne2 q hq))⟩⟩

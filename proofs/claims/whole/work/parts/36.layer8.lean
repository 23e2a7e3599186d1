/-! String constants and their own methods; calls of another class's static method -/
def xCh (i k : Nat) : Int := ((xByt.getD i []).getD k 0).toInt
section
variable {Γ : XT} {E : XE} {B : Nat} {cc : ByteArray} {own : String} {Ts : List Cond} {rm : Room} {N : Nat} {v : Nat → va_E} {L : List (Nat × Value)} {kc ks pc : Nat} {st : List Value}
theorem x_ldcS {idx : Nat} (i : Nat) (K : Cx Γ E B cc own Ts rm) (hi : i < 9) (ho : own = "BorderBeds$Tape") (hx9 : xIx i = idx) (hd : decode cc pc = .ok (.ldc idx, 2)) (k : XW Γ N v L kc ks (pc + 2) (.ref (E.2.2.1 i) :: st)) : XW Γ N v L kc ks pc st := by
  subst ho
  subst hx9
  obtain ⟨p, l, e, R, s, m, args, below, meth, c0, E', B', Q, nL⟩ := Γ
  obtain ⟨rfl, rfl, hx, hb, hown, hts, hK, hml, hA, rfl⟩ := K
  exact fun H locs ls hP hS hl => va_ldcS hx hb hown (hA.2.2.2.2.1 i hi) hd (k H locs ls hP hS hl)
theorem x_getV {idx i : Nat} (K : Cx Γ E B cc own Ts rm) (hi : i < 9) (hlk : Cond.fieldLink own idx "java/lang/String" "value" "[B" ∈ Ts) (hd : decode cc pc = .ok (.getfield idx, 3)) (k : XW Γ N v L kc ks (pc + 3) (.ref (E.2.2.2 i) :: st)) : XW Γ N v L kc ks pc (.ref (E.2.2.1 i) :: st) := by
  obtain ⟨p, l, e, R, s, m, args, below, meth, c0, E', B', Q, nL⟩ := Γ
  obtain ⟨rfl, rfl, hx, hb, hown, hts, hK, hml, hA, rfl⟩ := K
  exact fun H locs ls hP hS hl => vk_getf hx hb (hA.2.2.2.1.1 i hi).2.2.1 hS hown (hts _ hlk) (fun _ h => h) hd (k H locs ls hP hS hl)
theorem x_getC {idx i : Nat} (K : Cx Γ E B cc own Ts rm) (hi : i < 9) (hlk : Cond.fieldLink own idx "java/lang/String" "coder" "B" ∈ Ts) (hd : decode cc pc = .ok (.getfield idx, 3)) (k : XW Γ N v L kc ks (pc + 3) (.int (zI 0) :: st)) : XW Γ N v L kc ks pc (.ref (E.2.2.1 i) :: st) := by
  obtain ⟨p, l, e, R, s, m, args, below, meth, c0, E', B', Q, nL⟩ := Γ
  obtain ⟨rfl, rfl, hx, hb, hown, hts, hK, hml, hA, rfl⟩ := K
  exact fun H locs ls hP hS hl => vk_getf hx hb (v := .int (zI 0)) (hA.2.2.2.1.1 i hi).2.1 hS hown (hts _ hlk) (fun _ h => h) hd (k H locs ls hP hS hl)
theorem x_alenK {i : Nat} (K : Cx Γ E B cc own Ts rm) (hi : i < 9) (hd : decode cc pc = .ok (.arraylength, 1)) (k : XW Γ N v L kc ks (pc + 1) (.int (zI ((xLen.getD i 0 : Nat) : Int)) :: st)) : XW Γ N v L kc ks pc (.ref (E.2.2.2 i) :: st) := by
  obtain ⟨p, l, e, R, s, m, args, below, meth, c0, E', B', Q, nL⟩ := Γ
  obtain ⟨rfl, rfl, hx, hb, hown, hts, hK, hml, hA, rfl⟩ := K
  exact fun H locs ls hP hS hl => va_tlen hx hb (hA.2.2.2.1.1 i hi).2.2.2 hS (v := zI ((xLen.getD i 0 : Nat) : Int)) (by rw [← zI_nI]; rfl) hd (k H locs ls hP hS hl)
theorem x_baldK {i k0 : Nat} (K : Cx Γ E B cc own Ts rm) (hi : i < 9) (hk : k0 < xLen.getD i 0) (h31 : xLen.getD i 0 < 2147483648) (hd : decode cc pc = .ok (.baload, 1)) (k : XW Γ N v L kc ks (pc + 1) (.int ((xByt.getD i []).getD k0 0) :: st)) : XW Γ N v L kc ks pc (.int (zI (k0 : Int)) :: .ref (E.2.2.2 i) :: st) := by
  obtain ⟨p, l, e, R, s, m, args, below, meth, c0, E', B', Q, nL⟩ := Γ
  obtain ⟨rfl, rfl, hx, hb, hown, hts, hK, hml, hA, rfl⟩ := K
  exact fun H locs ls hP hS hl => va_tb hx hb (hA.2.2.2.1.1 i hi).2.2.2 hS (zI_in rfl h31 hk) (v := .int ((xByt.getD i []).getD k0 0)) (by rw [zI_cl rfl (by omega)]) hd (k H locs ls hP hS hl)
theorem x_getsC {idx : Nat} (K : Cx Γ E B cc own Ts rm) (hlk : Cond.fieldLink own idx "java/lang/String" "COMPACT_STRINGS" "Z" ∈ Ts) (hd : decode cc pc = .ok (.getstatic idx, 3)) (k : XW Γ N v L kc ks (pc + 3) (.int (zI 1) :: st)) : XW Γ N v L kc ks pc st := by
  obtain ⟨p, l, e, R, s, m, args, below, meth, c0, E', B', Q, nL⟩ := Γ
  obtain ⟨rfl, rfl, hx, hb, hown, hts, hK, hml, hA, rfl⟩ := K
  exact fun H locs ls hP hS hl => va_gets hx hb (v := .int (zI 1)) hA.2.2.2.2.2.1 hS hown (hts _ hlk) (fun _ h => h) hd (k H locs ls hP hS hl)
theorem x_getsQ {idx : Nat} (K : Cx Γ E B cc own Ts rm) (hlk : Cond.fieldLink own idx "jdk/internal/util/Preconditions" "SIOOBE_FORMATTER" "Ljava/util/function/BiFunction;" ∈ Ts) (hd : decode cc pc = .ok (.getstatic idx, 3)) (k1 : XW Γ N v L kc ks (pc + 3) (.null :: st)) (k2 : ∀ t : Nat, XW Γ N v L kc ks (pc + 3) (.ref t :: st)) : XW Γ N v L kc ks pc st := by
  obtain ⟨p, l, e, R, s, m, args, below, meth, c0, E', B', Q, nL⟩ := Γ
  obtain ⟨rfl, rfl, hx, hb, hown, hts, hK, hml, hA, rfl⟩ := K
  intro H locs ls hP hS hl
  rcases hA.2.2.2.2.2.2.1 with h | ⟨t, h⟩
  · exact va_gets hx hb h hS hown (hts _ hlk) (fun _ h => h) hd (k1 H locs ls hP hS hl)
  · exact va_gets hx hb h hS hown (hts _ hlk) (fun _ h => h) hd (k2 t H locs ls hP hS hl)
theorem x_ishr {x y : Int32} (K : Cx Γ E B cc own Ts rm) (hd : decode cc pc = .ok (.ishr, 1)) (k : XW Γ N v L kc ks (pc + 1) (.int (x >>> (y &&& 31)) :: st)) : XW Γ N v L kc ks pc (.int y :: .int x :: st) := by
  obtain ⟨p, l, e, R, s, m, args, below, meth, c0, E', B', Q, nL⟩ := Γ
  obtain ⟨rfl, rfl, hx, hb, hown, hts, hK, hml, hA, rfl⟩ := K
  exact fun H locs ls hP hS hl => lv_ishr hx hb hd (k H locs ls hP hS hl)
theorem x_i2c {x y : Int32} (K : Cx Γ E B cc own Ts rm) (hy : (x.toUInt32 % 65536).toInt32 = y) (hd : decode cc pc = .ok (.i2c, 1)) (k : XW Γ N v L kc ks (pc + 1) (.int y :: st)) : XW Γ N v L kc ks pc (.int x :: st) := by
  obtain ⟨p, l, e, R, s, m, args, below, meth, c0, E', B', Q, nL⟩ := Γ
  obtain ⟨rfl, rfl, hx, hb, hown, hts, hK, hml, hA, rfl⟩ := K
  exact fun H locs ls hP hS hl => lv_i2c hx hb hd hy (k H locs ls hP hS hl)
end
section
variable {Γ : XT} {E : XE} {B : Nat} {cc : ByteArray} {own : String} {Ts : List Cond} {rm : Room} {N : Nat} {v : Nat → va_E} {L : List (Nat × Value)} {kc ks pc : Nat} {st st0 : List Value}
variable {y : MethodName} {bytes : ByteArray} {maxL idx : Nat} {ret : Option FieldType} {ws ws' : List Cond} {rmc : Room} {As : List Value} {po : Option Value → Nat → (Nat → va_E) → Prop}
theorem x_nret {N0 : Nat} {x : Int32} {ty : FieldType} (K : Cx Γ E B cc own Ts rm) (KR : Rx Γ E B N0 po (some ty)) (hN : N0 ≤ N) (hkc : kc ≤ rm.cells) (hks : ks ≤ rm.slots) (hx9 : narrow ty (.int x) = .int x) (hd : decode cc pc = .ok (.ireturn, 1)) (hpo : po (some (.int x)) N v) : XW Γ N v L kc ks pc [.int x] := by
  obtain ⟨p, l, e, R, s, m, args, below, meth, c0, E', B', Q, nL⟩ := Γ
  obtain ⟨rfl, rfl, hx, hb, hown, hts, hK, hml, hA, rfl⟩ := K
  obtain ⟨rfl, hlocks, hr⟩ := KR
  intro H locs ls hP hS hl
  refine W.widen hkc hks ?_
  exact W.zret hx hb hr hx9 (fun t ht hW => ⟨⟨_, N, v, rfl, hpo, hN, by rw [ht]; exact hP⟩, hS.F ht⟩) hS.2.2 hd hlocks
theorem x_callK {na i : Nat} (K : Cx Γ E B cc own Ts rm) (hi : i < 9) (hM : gM y ws rmc E B N v (.ref (E.2.2.1 i) :: As) po) (hT : GoodIn Ts (wsV own idx "java/lang/String" y ws)) (hw : ws = Cond.code y bytes maxL ret :: ws') (hdd : y.cls = "java/lang/String" ∧ y.cls ≠ "java/lang/invoke/MethodHandle" ∧ y.cls ≠ "java/lang/invoke/VarHandle" ∧ (parseMethodDescriptor y.desc).map (fun d => d.parameters.length) = some na) (hna : As.length = na) (hR : rmc.frames + 1 ≤ rm.frames ∧ 8 + (maxL + 11) + rmc.locals ≤ rm.locals) (hst : st0 = As.reverse ++ .ref (E.2.2.1 i) :: st) (hroom : (st.map fun v => v.category).sum ≤ 8) (hcs : kc + rmc.cells ≤ rm.cells ∧ ks + rmc.slots ≤ rm.slots) (hd : decode cc pc = .ok (.invokevirtual idx, 3))
    (k : ∀ r N' v', po r N' v' → N ≤ N' → XW Γ N' v' L (kc + rmc.cells) (ks + rmc.slots) (pc + 3) (r.toList ++ st)) : XW Γ N v L kc ks pc st0 := by
  subst hst
  subst hna
  obtain ⟨p, l, e, R, s, m, args, below, meth, c0, E', B', Q, nL⟩ := Γ
  obtain ⟨rfl, rfl, hx, hb, hown, hts, hK, hml, hA, rfl⟩ := K
  intro H locs ls hP hS hl
  refine x_run (va_runV (As := As) (rest := st) ⟨hx, hb, hml, hown, hts⟩ (hM l) (cwV As.length hts hT hw rfl rfl hdd hR) ⟨gPre_blind, vk_recv hA.2.2.2.1 hi hS, fun U hU hW => ⟨rfl, by rw [hU]; exact hP, va_K.moved hW.alike hK, gI_tr hA.2 hW hS hU⟩⟩ rfl rfl hl.1 rfl (lv_room hroom) hd hcs) hS (fun r N' v' H1 locs1 h1 h2 h3 h4 => k r N' v' h1 h2 H1 locs1 ls h3 h4 hl)
theorem x_callS2 {na : Nat} (K : Cx Γ E B cc own Ts rm) (hM : gM y ws rmc E B N v As po) (hT : GoodIn Ts (va_wsS own idx y ws)) (hw : ws = Cond.code y bytes maxL ret :: ws') (hdd : y.cls ≠ "java/lang/invoke/MethodHandle" ∧ y.cls ≠ "java/lang/invoke/VarHandle" ∧ (parseMethodDescriptor y.desc).map (fun d => d.parameters.length) = some na) (hna : As.length = na) (hR : rmc.frames + 1 ≤ rm.frames ∧ 8 + (maxL + 11) + rmc.locals ≤ rm.locals) (hst : st0 = As.reverse ++ st) (hroom : (st.map fun v => v.category).sum ≤ 8) (hcs : kc + rmc.cells ≤ rm.cells ∧ ks + rmc.slots ≤ rm.slots) (hd : decode cc pc = .ok (.invokestatic idx, 3))
    (k : ∀ r N' v', po r N' v' → N ≤ N' → XW Γ N' v' L (kc + rmc.cells) (ks + rmc.slots) (pc + 3) (r.toList ++ st)) : XW Γ N v L kc ks pc st0 := by
  subst hst
  subst hna
  obtain ⟨p, l, e, R, s, m, args, below, meth, c0, E', B', Q, nL⟩ := Γ
  obtain ⟨rfl, rfl, hx, hb, hown, hts, hK, hml, hA, rfl⟩ := K
  intro H locs ls hP hS hl
  refine x_run (va_runS (As := As) (rest := st) ⟨hx, hb, hml, hown, hts⟩ (hM l) (va_cwS As.length hts hT hw rfl rfl hdd hR) ⟨gPre_blind, fun U hU hW => ⟨rfl, by rw [hU]; exact hP, va_K.moved hW.alike hK, gI_tr hA.2 hW hS hU⟩⟩ rfl rfl hl.1 rfl (lv_room hroom) hd hcs) hS (fun r N' v' H1 locs1 h1 h2 h3 h4 => k r N' v' h1 h2 H1 locs1 ls h3 h4 hl)
end

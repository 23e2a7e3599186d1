/-! the layer: ints as integers; the heap as a function of the place behind the law's start; a judgement over both -/
def zI (z : Int) : Int32 := Int32.ofInt z
def zL (z : Int) : Int64 := Int64.ofInt z
theorem zI_add (a b : Int) : zI a + zI b = zI (a + b) := (Int32.ofInt_add a b).symm
theorem zI_sub (a b : Int) : zI a - zI b = zI (a - b) := (Int32.ofInt_sub a b).symm
theorem zI_mul (a b : Int) : zI a * zI b = zI (a * b) := (Int32.ofInt_mul a b).symm
theorem zI_neg (a : Int) : -zI a = zI (-a) := (Int32.ofInt_neg a).symm
theorem zI_bmod {z : Int} (h : -2147483648 ≤ z ∧ z ≤ 2147483647) : z.bmod (2 ^ 32) = z := by
  apply Int.bmod_eq_of_le <;> omega
theorem zI_toInt {z : Int} (h : -2147483648 ≤ z ∧ z ≤ 2147483647) : (zI z).toInt = z := by
  unfold zI
  rw [Int32.toInt_ofInt]
  exact zI_bmod h
theorem zI_self (x : Int32) : zI x.toInt = x := Int32.ofInt_toInt x
theorem zI_rng (x : Int32) : -2147483648 ≤ x.toInt ∧ x.toInt ≤ 2147483647 := by
  have h1 := Int32.le_toInt x
  have h2 := Int32.toInt_lt x
  constructor
  · simpa using h1
  · have : x.toInt < 2147483648 := by simpa using h2
    omega
theorem zI_nI (n : Nat) : nI n = zI (n : Int) := by
  apply Int32.toBitVec_inj.mp
  simp [nI, zI]
theorem zI_lt {a b : Int} (ha : -2147483648 ≤ a ∧ a ≤ 2147483647) (hb : -2147483648 ≤ b ∧ b ≤ 2147483647) : zI a < zI b ↔ a < b := by
  rw [Int32.lt_iff_toInt_lt, zI_toInt ha, zI_toInt hb]
theorem zI_le {a b : Int} (ha : -2147483648 ≤ a ∧ a ≤ 2147483647) (hb : -2147483648 ≤ b ∧ b ≤ 2147483647) : zI a ≤ zI b ↔ a ≤ b := by
  rw [Int32.le_iff_toInt_le, zI_toInt ha, zI_toInt hb]
theorem zI_eq {a b : Int} (ha : -2147483648 ≤ a ∧ a ≤ 2147483647) (hb : -2147483648 ≤ b ∧ b ≤ 2147483647) : zI a = zI b ↔ a = b := by
  rw [← Int32.toInt_inj, zI_toInt ha, zI_toInt hb]
theorem zI_cl {a : Int} {k : Nat} (h : a = (k : Int)) (hk : k < 2147483648) : (zI a).toNatClampNeg = k := by
  show (zI a).toInt.toNat = k
  rw [zI_toInt (by omega)]
  omega
theorem zI_in {a : Int} {k n : Nat} (h : a = (k : Int)) (hn : n < 2147483648) (hk : k < n) : vp_in (zI a) n := by
  rw [vp_in_iff, zI_toInt (by omega)]
  omega
theorem zI_div {a b : Int} (ha : 0 ≤ a ∧ a ≤ 2147483647) (hb : 1 ≤ b ∧ b ≤ 2147483647) : zI a / zI b = zI (a / b) := by
  obtain ⟨n, rfl⟩ := Int.eq_ofNat_of_zero_le ha.1
  obtain ⟨d, rfl⟩ := Int.eq_ofNat_of_zero_le (show (0 : Int) ≤ b by omega)
  have h := pk_div (a := n) (d := d) (by omega) (by omega) (by omega)
  rw [zI_nI, zI_nI, zI_nI] at h
  exact h
theorem zI_rem {a b : Int} (ha : 0 ≤ a ∧ a ≤ 2147483647) (hb : 1 ≤ b ∧ b ≤ 2147483647) : zI a - zI a / zI b * zI b = zI (a % b) := by
  obtain ⟨n, rfl⟩ := Int.eq_ofNat_of_zero_le ha.1
  obtain ⟨d, rfl⟩ := Int.eq_ofNat_of_zero_le (show (0 : Int) ≤ b by omega)
  have h := pk_rem (a := n) (d := d) (by omega) (by omega) (by omega)
  rw [zI_nI, zI_nI, zI_nI] at h
  exact h
theorem zI_ne0 {b : Int} (hb : 1 ≤ b ∧ b ≤ 2147483647) : ¬ zI b = 0 := by
  have h : (0 : Int32) = zI 0 := by decide
  rw [h, zI_eq (by omega) (by omega)]
  omega
theorem zI_0 : (0 : Int32) = zI 0 := by decide
theorem zL_toInt {z : Int} (h : -9223372036854775808 ≤ z ∧ z ≤ 9223372036854775807) : (zL z).toInt = z := by
  unfold zL
  rw [Int64.toInt_ofInt, show Int64.size = 18446744073709551616 from rfl]
  apply Int.bmod_eq_of_le <;> omega
theorem zL_of {a : Int} (h : -2147483648 ≤ a ∧ a ≤ 2147483647) : (zI a).toInt64 = zL a := by
  apply Int64.toInt_inj.mp
  rw [zL_toInt (by omega), Int32.toInt_toInt64, zI_toInt h]
theorem zL_to (a : Int) : (zL a).toInt32 = zI a := by
  exact Int64.toInt32_ofInt
theorem zL_add (a b : Int) : zL a + zL b = zL (a + b) := (Int64.ofInt_add a b).symm
theorem zL_sub (a b : Int) : zL a - zL b = zL (a - b) := (Int64.ofInt_sub a b).symm
theorem zL_mul (a b : Int) : zL a * zL b = zL (a * b) := (Int64.ofInt_mul a b).symm
/-- the sign of a comparison of longs -/
def cmpZ (a b : Int) : Int := if b < a then 1 else if a = b then 0 else -1
theorem zL_cmp {a b : Int} (ha : -9223372036854775808 ≤ a ∧ a ≤ 9223372036854775807) (hb : -9223372036854775808 ≤ b ∧ b ≤ 9223372036854775807) : lg_cmp (zL a) (zL b) = zI (cmpZ a b) := by
  have h1 : zL a > zL b ↔ b < a := by
    show zL b < zL a ↔ b < a
    rw [Int64.lt_iff_toInt_lt, zL_toInt ha, zL_toInt hb]
  have h2 : zL a = zL b ↔ a = b := by
    rw [← Int64.toInt_inj, zL_toInt ha, zL_toInt hb]
  unfold lg_cmp cmpZ
  simp only [h1, h2]
  split
  · decide
  · split <;> decide
theorem cmpZ_lt {a b : Int} : cmpZ a b < 0 ↔ a < b := by
  unfold cmpZ; split <;> (try split) <;> omega
theorem cmpZ_le {a b : Int} : cmpZ a b ≤ 0 ↔ a ≤ b := by
  unfold cmpZ; split <;> (try split) <;> omega
theorem cmpZ_eq {a b : Int} : cmpZ a b = 0 ↔ a = b := by
  unfold cmpZ; split <;> (try split) <;> omega
theorem cmpZ_rng (a b : Int) : -2147483648 ≤ cmpZ a b ∧ cmpZ a b ≤ 2147483647 := by
  unfold cmpZ; split <;> (try split) <;> omega
/-! the heap -/
abbrev XE : Type := va_G × (Nat → ClassId) × (Nat → Nat) × (Nat → Nat)
def xT (ca : Nat → ClassId) : List (ClassId × FieldType) := [(ca 0, .int), (ca 1, .boolean), (ca 2, .object "BorderBeds$Row"), (ca 3, .object "BorderBeds$Line"), (ca 4, .object "BorderBeds$Ground"), (ca 5, .object "BorderBeds$Person"), (ca 6, .array .int)]
/-- the heap holds v at the N places from B on, and nothing behind -/
def gP (E : XE) (B N : Nat) (v : Nat → va_E) (H : Heap) : Prop := H.size = B + N ∧ ∀ k, k < N → va_at E.1 vwCl (B + k, v k) H
def iarr (E : XE) (n : Nat) (g : Nat → Int) : va_E := .inl (E.2.1 0, n, .inl (fun k => zI (g k)))
def barr (E : XE) (n : Nat) (g : Nat → Int) : va_E := .inl (E.2.1 1, n, .inl (fun k => zI (g k)))
def rarr (E : XE) (t n : Nat) (B : Nat) (h : Nat → Option Nat) : va_E := .inl (E.2.1 t, n, .inr (.inr (.inr (.inr (fun k => (h k).map (fun c => B + c))))))
def rf (B : Nat) (r : Option Nat) : Value := match r with
  | none => .null
  | some c => .ref (B + c)
theorem rf_eq (B : Nat) (r : Option Nat) : va_rf (r.map (fun c => B + c)) = rf B r := by cases r <;> rfl
/-- place c holds e -/
def Cel (N : Nat) (v : Nat → va_E) (c : Nat) (e : va_E) : Prop := c < N ∧ v c = e
theorem cel_self {N c : Nat} {v : Nat → va_E} {e : va_E} (h : c < N) : Cel N (va_up v c e) c e := ⟨h, va_up_self v c e⟩
theorem cel_ne {N c d : Nat} {v : Nat → va_E} {e x : va_E} (h : Cel N v c e) (hn : c ≠ d) : Cel N (va_up v d x) c e := ⟨h.1, (va_up_ne v x hn).trans h.2⟩
theorem cel_grow {N M c : Nat} {v w : Nat → va_E} {e : va_E} (h : Cel N v c e) (hM : N ≤ M) (hw : ∀ k, k < N → w k = v k) : Cel M w c e := ⟨Nat.lt_of_lt_of_le h.1 hM, (hw c h.1).trans h.2⟩
theorem cel_pad {N c : Nat} {v : Nat → va_E} {e : va_E} (h : Cel N v c e) : va_up v c e = v := by
  funext k
  by_cases hk : k = c
  · subst hk; rw [va_up_self]; exact h.2.symm
  · rw [va_up_ne v e hk]
theorem va_at_kept {E : XE} {a : Nat} {e : va_E} {H H1 : Heap} (h : va_at E.1 vwCl (a, e) H) (hq : H1[a]? = H[a]?) : va_at E.1 vwCl (a, e) H1 := va_at.kept (q := (a, e)) h hq
theorem gP_set {E : XE} {B N c : Nat} {v : Nat → va_E} {e : va_E} {H H1 : Heap} (h : gP E B N v H) (z : H1.size = H.size) (he : va_at E.1 vwCl (B + c, e) H1) (oq : ∀ q : Nat, q ≠ B + c → H1[q]? = H[q]?) : gP E B N (va_up v c e) H1 := by
  refine ⟨z.trans h.1, fun k hk => ?_⟩
  by_cases hkc : k = c
  · subst hkc; rw [va_up_self]; exact he
  · rw [va_up_ne v e hkc]; exact va_at_kept (h.2 k hk) (oq _ (by omega))
theorem gP_push {E : XE} {B N : Nat} {v : Nat → va_E} {e : va_E} {H H1 : Heap} (h : gP E B N v H) (z : H1.size = H.size + 1) (he : va_at E.1 vwCl (B + N, e) H1) (oq : ∀ q : Nat, q < H.size → H1[q]? = H[q]?) : gP E B (N + 1) (va_up v N e) H1 := by
  refine ⟨by rw [z, h.1]; omega, fun k hk => ?_⟩
  by_cases hkc : k = N
  · subst hkc; rw [va_up_self]; exact he
  · rw [va_up_ne v e hkc]; exact va_at_kept (h.2 k (by omega)) (oq _ (by rw [h.1]; omega))
/-! the judgement -/
abbrev XT : Type := Program × Launch × Env × Room × State × MethodId × Array Value × List Frame × Method × Code × XE × Nat × (State → Prop) × Nat
def XW (Γ : XT) (N : Nat) (v : Nat → va_E) (L : List (Nat × Value)) (kc ks pc : Nat) (st : List Value) : Prop := match Γ with
  | (p, l, e, R, s, m, args, below, meth, c, E, B, Q, nL) => ∀ (H : Heap) (locs : List Loc) (ls : Array Slot), gP E B N v H → va_S (fun q => B ≤ q) s.heap H locs → lv_has ls nL L → W p l e R s m args below meth c H locs kc ks Q (F0 m pc ls st)
def xLen : List Nat := [5, 7, 5, 6, 4, 5, 4, 5, 4]
def xTx : Nat → String := fun i => match i with | 0 => "posts" | 1 => "village" | 2 => "guard" | 3 => "person" | 4 => "aunt" | 5 => "envoy" | 6 => "twin" | 7 => "child" | _ => "monk"
def xIx : Nat → Nat := fun i => match i with | 0 => 63 | 1 => 86 | 2 => 95 | 3 => 101 | 4 => 111 | 5 => 115 | 6 => 119 | 7 => 123 | _ => 127
def xByt : List (List Int32) := [[112, 111, 115, 116, 115], [118, 105, 108, 108, 97, 103, 101], [103, 117, 97, 114, 100], [112, 101, 114, 115, 111, 110], [97, 117, 110, 116], [101, 110, 118, 111, 121], [116, 119, 105, 110], [99, 104, 105, 108, 100], [109, 111, 110, 107]]
def xNo : List (String × String) := [("BorderBeds$Aunt", "BorderBeds$Child"), ("BorderBeds$Aunt", "BorderBeds$Envoy"), ("BorderBeds$Aunt", "BorderBeds$Monk"), ("BorderBeds$Aunt", "BorderBeds$Twin"), ("BorderBeds$Child", "BorderBeds$Aunt"), ("BorderBeds$Child", "BorderBeds$Envoy"), ("BorderBeds$Child", "BorderBeds$Monk"), ("BorderBeds$Child", "BorderBeds$Twin"), ("BorderBeds$Envoy", "BorderBeds$Child"), ("BorderBeds$Envoy", "BorderBeds$Monk"), ("BorderBeds$Envoy", "BorderBeds$Twin"), ("BorderBeds$Monk", "BorderBeds$Aunt"), ("BorderBeds$Monk", "BorderBeds$Envoy"), ("BorderBeds$Monk", "BorderBeds$Twin"), ("BorderBeds$Twin", "BorderBeds$Child"), ("BorderBeds$Twin", "BorderBeds$Envoy"), ("BorderBeds$Twin", "BorderBeds$Monk")]
def xYes : List (String × String) := [("BorderBeds$Envoy", "BorderBeds$Aunt"), ("BorderBeds$Twin", "BorderBeds$Aunt"), ("BorderBeds$Monk", "BorderBeds$Child"), ("BorderBeds$Aunt", "BorderBeds$Person"), ("BorderBeds$Child", "BorderBeds$Person"), ("BorderBeds$Envoy", "BorderBeds$Person"), ("BorderBeds$Monk", "BorderBeds$Person"), ("BorderBeds$Twin", "BorderBeds$Person")]
def xAr : List String := ["BorderBeds$Row", "BorderBeds$Line", "BorderBeds$Ground", "BorderBeds$Person"]
def xNe : List (String × Nat × MethodName) := [(RX11, 17, yX8_init), (RX11, 24, yX9_init), (RX11, 31, yX4_init), (RX11, 66, yX7_init), (RX8, 42, yX3_init), (RX3, 48, yX4_init), (RX3, 125, yX11_isCell)]
/-- what is given of the launch, beside the tables: which classes aren't others, the strings, a static of String's -/
def gI (E : XE) (B : Nat) (U : State) : Prop := (∀ q ∈ xNo, va_Nc q.1 q.2 U) ∧ (∀ q ∈ xYes, va_Nw (.castable q.1 q.2) U) ∧ vk_S 9 xLen xByt E.2.2.1 E.2.2.2 (fun q => B ≤ q) U U.heap ∧ (∀ i, i < 9 → vk_R "BorderBeds$Tape" (xIx i) (xTx i) (E.2.2.1 i) U) ∧ va_Z "java/lang/String" "COMPACT_STRINGS" "Z" (.int 1) (fun q => B ≤ q) U U.heap ∧ va_Zq "jdk/internal/util/Preconditions" "SIOOBE_FORMATTER" "Ljava/util/function/BiFunction;" (fun q => B ≤ q) U U.heap ∧ (∀ C ∈ xAr, va_AO C U) ∧ (Cond.arrayOver (.array .int)).before #[] U = true ∧ va_Nw (.declares ⟨"BorderBeds$Person", "sort", "()I"⟩) U ∧ (∀ q ∈ xNe, va_Nw (.methodLinkNest q.1 q.2.1 q.2.2 "BorderBeds") U)
theorem gI_tr {E : XE} {B : Nat} {s U : State} {H : Heap} {locs : List Loc} (h : gI E B s) (hW : s.WarmedH U.vm) (hS : va_S (fun q => B ≤ q) s.heap H locs) (hU : U.heap = H) : gI E B U := by
  subst hU
  obtain ⟨h1, h2, h3, h4, h5, h6, h7, h8, h9, h10⟩ := h
  exact ⟨fun q hq => (h1 q hq).moved hW.alike, fun q hq => va_Nw.warmC hW (h2 q hq), (h3.moved hW.alike).kept hS.2.1, fun i hi => (h4 i hi).warm hW, (h5.moved hW.alike).kept hS.2.1, (h6.moved hW.alike).kept hS.2.1, fun C hC => (h7 C hC).moved hW.alike, over_moved hW.alike h8, va_Nw.warmD hW h9, fun q hq => va_Nw.warmM hW (h10 q hq)⟩
theorem gI_same {E : XE} {B : Nat} {u U : State} (h : gI E B u) (hv : U.vm = u.vm) (hH : U.heap = u.heap) : gI E B U := by
  obtain ⟨h1, h2, h3, h4, h5, h6, h7, h8, h9, h10⟩ := h
  have ha : u.vm.Alike U.vm := by rw [hv]; exact Vm.Alike.refl _
  exact ⟨fun q hq => (h1 q hq).moved ha, fun q hq => va_Nw.same rfl hv.symm (h2 q hq), by rw [hH]; exact h3.moved ha, fun i hi => (h4 i hi).same hv, by rw [hH]; exact h5.moved ha, by rw [hH]; exact h6.moved ha, fun C hC => (h7 C hC).moved ha, over_moved ha h8, va_Nw.same rfl hv.symm h9, fun q hq => va_Nw.same rfl hv.symm (h10 q hq)⟩
def Cx (Γ : XT) (E : XE) (B : Nat) (cc : ByteArray) (own : String) (Ts : List Cond) (rm : Room) : Prop := match Γ with
  | (p, _, _, R, s, m, args, _, _, c, E', B', _, nL) => E' = E ∧ B' = B ∧ p.tables.exec = Jvm.exec ∧ c.code = cc ∧ s.vm.findClass own = some m.cls ∧ (∀ w ∈ Ts, w.before args s = true) ∧ va_K E.1 vwCl (xT E.2.1) s ∧ c.maxLocals = nL ∧ (B ≤ s.heap.size ∧ gI E B s) ∧ R = rm
theorem x_b8 {n : Int} (h : -128 ≤ n ∧ n ≤ 127) : (Int8.ofInt n).toInt32 = zI n := by
  apply Int32.toInt_inj.mp
  rw [zI_toInt (by omega), Int8.toInt_toInt32, Int8.toInt_ofInt, show Int8.size = 256 from rfl]
  apply Int.bmod_eq_of_le <;> omega
theorem x_b16 {n : Int} (h : -32768 ≤ n ∧ n ≤ 32767) : (Int16.ofInt n).toInt32 = zI n := by
  apply Int32.toInt_inj.mp
  rw [zI_toInt (by omega), Int16.toInt_toInt32, Int16.toInt_ofInt, show Int16.size = 65536 from rfl]
  apply Int.bmod_eq_of_le <;> omega
theorem x_arr_ext {cA : ClassId} {n : Nat} {f g : Nat → Int32} (h : ∀ k, k < n → f k = g k) : vp_cell cA (n, .inl f) = vp_cell cA (n, .inl g) := by
  rw [vp_cell_i, vp_cell_i]
  unfold arrV
  congr 1
  apply Array.ext
  · simp
  · intro i h1 h2
    simp only [Array.getElem_ofFn]
    rw [h i (by simpa using h1)]
theorem x_rarr_ext {cA : ClassId} {n : Nat} {f g : Nat → Option Nat} (h : ∀ k, k < n → f k = g k) : vp_cell cA (n, .inr (.inr (.inr (.inr f)))) = vp_cell cA (n, .inr (.inr (.inr (.inr g)))) := by
  rw [vp_cell_q, vp_cell_q]
  unfold arrV
  congr 1
  apply Array.ext
  · simp
  · intro i h1 h2
    simp only [Array.getElem_ofFn]
    rw [h i (by simpa using h1)]
section XRules
variable {Γ : XT} {E : XE} {B : Nat} {cc : ByteArray} {own : String} {Ts : List Cond} {rm : Room} {N : Nat} {v : Nat → va_E} {L : List (Nat × Value)} {kc ks pc : Nat} {st : List Value}
theorem x_iconst {n : Int} (K : Cx Γ E B cc own Ts rm)  (hd : decode cc pc = .ok (.iconst n, 1)) (k : XW Γ N v L kc ks (pc + 1) (.int (zI n) :: st)) : XW Γ N v L kc ks pc (st) := by
  obtain ⟨p, l, e, R, s, m, args, below, meth, c, E', B', Q, nL⟩ := Γ
  obtain ⟨rfl, rfl, hx, hb, hown, hts, hK, hml, hA, rfl⟩ := K
  exact fun H locs ls hP hS hl => lv_iconst hx hb hd rfl (k H locs ls hP hS hl)
theorem x_bipush {n : Int} (K : Cx Γ E B cc own Ts rm) (hn : -128 ≤ n ∧ n ≤ 127) (hd : decode cc pc = .ok (.bipush n, 2)) (k : XW Γ N v L kc ks (pc + 2) (.int (zI n) :: st)) : XW Γ N v L kc ks pc (st) := by
  obtain ⟨p, l, e, R, s, m, args, below, meth, c, E', B', Q, nL⟩ := Γ
  obtain ⟨rfl, rfl, hx, hb, hown, hts, hK, hml, hA, rfl⟩ := K
  exact fun H locs ls hP hS hl => lv_bipush (v := zI n) hx hb hd (x_b8 hn) (k H locs ls hP hS hl)
theorem x_sipush {n : Int} (K : Cx Γ E B cc own Ts rm) (hn : -32768 ≤ n ∧ n ≤ 32767) (hd : decode cc pc = .ok (.sipush n, 3)) (k : XW Γ N v L kc ks (pc + 3) (.int (zI n) :: st)) : XW Γ N v L kc ks pc (st) := by
  obtain ⟨p, l, e, R, s, m, args, below, meth, c, E', B', Q, nL⟩ := Γ
  obtain ⟨rfl, rfl, hx, hb, hown, hts, hK, hml, hA, rfl⟩ := K
  exact fun H locs ls hP hS hl => lv_sipush (v := zI n) hx hb hd (x_b16 hn) (k H locs ls hP hS hl)
theorem x_ldc {x : Int32} {idx : Nat} (n : Int) (K : Cx Γ E B cc own Ts rm) (hx0 : x = zI n) (hw : Cond.constant own idx x ∈ Ts) (hd : decode cc pc = .ok (.ldc idx, 2)) (k : XW Γ N v L kc ks (pc + 2) (.int (zI n) :: st)) : XW Γ N v L kc ks pc (st) := by
  obtain ⟨p, l, e, R, s, m, args, below, meth, c, E', B', Q, nL⟩ := Γ
  obtain ⟨rfl, rfl, hx, hb, hown, hts, hK, hml, hA, rfl⟩ := K
  exact fun H locs ls hP hS hl => lv_ldc hx hb hown (hts _ hw) hd (hx0 ▸ k H locs ls hP hS hl)
theorem x_ldc2 {x : Int64} {idx : Nat} (n : Int) (K : Cx Γ E B cc own Ts rm) (hx0 : x = zL n) (hw : Cond.constantLong own idx x ∈ Ts) (hd : decode cc pc = .ok (.ldc2_w idx, 3)) (k : XW Γ N v L kc ks (pc + 3) (.long (zL n) :: st)) : XW Γ N v L kc ks pc (st) := by
  obtain ⟨p, l, e, R, s, m, args, below, meth, c, E', B', Q, nL⟩ := Γ
  obtain ⟨rfl, rfl, hx, hb, hown, hts, hK, hml, hA, rfl⟩ := K
  exact fun H locs ls hP hS hl => lv_ldc2 hx hb hown (hts _ hw) hd (hx0 ▸ k H locs ls hP hS hl)
theorem x_lconst {n : Fin 2} (z : Int) (K : Cx Γ E B cc own Ts rm) (hz : Int64.ofNat (n : Nat) = zL z) (hd : decode cc pc = .ok (.lconst n, 1)) (k : XW Γ N v L kc ks (pc + 1) (.long (zL z) :: st)) : XW Γ N v L kc ks pc (st) := by
  obtain ⟨p, l, e, R, s, m, args, below, meth, c, E', B', Q, nL⟩ := Γ
  obtain ⟨rfl, rfl, hx, hb, hown, hts, hK, hml, hA, rfl⟩ := K
  exact fun H locs ls hP hS hl => lv_lconst hx hb hd hz (k H locs ls hP hS hl)
theorem x_null  (K : Cx Γ E B cc own Ts rm)  (hd : decode cc pc = .ok (.aconst_null, 1)) (k : XW Γ N v L kc ks (pc + 1) (.null :: st)) : XW Γ N v L kc ks pc (st) := by
  obtain ⟨p, l, e, R, s, m, args, below, meth, c, E', B', Q, nL⟩ := Γ
  obtain ⟨rfl, rfl, hx, hb, hown, hts, hK, hml, hA, rfl⟩ := K
  exact fun H locs ls hP hS hl => lv_null hx hb hd (k H locs ls hP hS hl)
theorem x_iload_n {k9 : Fin 4} {i : Nat} {x : Int32} (q : Nat) (K : Cx Γ E B cc own Ts rm) (hq : L[q]? = some (i, .int x)) (hi : (k9 : Nat) = i) (hd : decode cc pc = .ok (.iload_n k9, 1)) (k : XW Γ N v L kc ks (pc + 1) (.int x :: st)) : XW Γ N v L kc ks pc (st) := by
  obtain ⟨p, l, e, R, s, m, args, below, meth, c, E', B', Q, nL⟩ := Γ
  obtain ⟨rfl, rfl, hx, hb, hown, hts, hK, hml, hA, rfl⟩ := K
  exact fun H locs ls hP hS hl => lv_iload_n hx hb hd hi (lv_at hl q hq) (k H locs ls hP hS hl)
theorem x_iload {i : Nat} {x : Int32} (q : Nat) (K : Cx Γ E B cc own Ts rm) (hq : L[q]? = some (i, .int x)) (hd : decode cc pc = .ok (.iload i, 2)) (k : XW Γ N v L kc ks (pc + 2) (.int x :: st)) : XW Γ N v L kc ks pc (st) := by
  obtain ⟨p, l, e, R, s, m, args, below, meth, c, E', B', Q, nL⟩ := Γ
  obtain ⟨rfl, rfl, hx, hb, hown, hts, hK, hml, hA, rfl⟩ := K
  exact fun H locs ls hP hS hl => lv_iload hx hb hd (lv_at hl q hq) (k H locs ls hP hS hl)
theorem x_lload_n {k9 : Fin 4} {i : Nat} {x : Int64} (q : Nat) (K : Cx Γ E B cc own Ts rm) (hq : L[q]? = some (i, .long x)) (hi : (k9 : Nat) = i) (hd : decode cc pc = .ok (.lload_n k9, 1)) (k : XW Γ N v L kc ks (pc + 1) (.long x :: st)) : XW Γ N v L kc ks pc (st) := by
  obtain ⟨p, l, e, R, s, m, args, below, meth, c, E', B', Q, nL⟩ := Γ
  obtain ⟨rfl, rfl, hx, hb, hown, hts, hK, hml, hA, rfl⟩ := K
  exact fun H locs ls hP hS hl => lv_lload_n hx hb hd hi (lv_at hl q hq) (k H locs ls hP hS hl)
theorem x_lload {i : Nat} {x : Int64} (q : Nat) (K : Cx Γ E B cc own Ts rm) (hq : L[q]? = some (i, .long x)) (hd : decode cc pc = .ok (.lload i, 2)) (k : XW Γ N v L kc ks (pc + 2) (.long x :: st)) : XW Γ N v L kc ks pc (st) := by
  obtain ⟨p, l, e, R, s, m, args, below, meth, c, E', B', Q, nL⟩ := Γ
  obtain ⟨rfl, rfl, hx, hb, hown, hts, hK, hml, hA, rfl⟩ := K
  exact fun H locs ls hP hS hl => lv_lload hx hb hd (lv_at hl q hq) (k H locs ls hP hS hl)
theorem x_aload_n {k9 : Fin 4} {i : Nat} {x : Nat} (q : Nat) (K : Cx Γ E B cc own Ts rm) (hq : L[q]? = some (i, .ref x)) (hi : (k9 : Nat) = i) (hd : decode cc pc = .ok (.aload_n k9, 1)) (k : XW Γ N v L kc ks (pc + 1) (.ref x :: st)) : XW Γ N v L kc ks pc (st) := by
  obtain ⟨p, l, e, R, s, m, args, below, meth, c, E', B', Q, nL⟩ := Γ
  obtain ⟨rfl, rfl, hx, hb, hown, hts, hK, hml, hA, rfl⟩ := K
  exact fun H locs ls hP hS hl => lv_aload_n hx hb hd hi (lv_at hl q hq) (k H locs ls hP hS hl)
theorem x_aload {i : Nat} {x : Nat} (q : Nat) (K : Cx Γ E B cc own Ts rm) (hq : L[q]? = some (i, .ref x)) (hd : decode cc pc = .ok (.aload i, 2)) (k : XW Γ N v L kc ks (pc + 2) (.ref x :: st)) : XW Γ N v L kc ks pc (st) := by
  obtain ⟨p, l, e, R, s, m, args, below, meth, c, E', B', Q, nL⟩ := Γ
  obtain ⟨rfl, rfl, hx, hb, hown, hts, hK, hml, hA, rfl⟩ := K
  exact fun H locs ls hP hS hl => lv_aload hx hb hd (lv_at hl q hq) (k H locs ls hP hS hl)
theorem x_aload_nN {k9 : Fin 4} {i : Nat} (q : Nat) (K : Cx Γ E B cc own Ts rm) (hq : L[q]? = some (i, .null)) (hi : (k9 : Nat) = i) (hd : decode cc pc = .ok (.aload_n k9, 1)) (k : XW Γ N v L kc ks (pc + 1) (.null :: st)) : XW Γ N v L kc ks pc (st) := by
  obtain ⟨p, l, e, R, s, m, args, below, meth, c, E', B', Q, nL⟩ := Γ
  obtain ⟨rfl, rfl, hx, hb, hown, hts, hK, hml, hA, rfl⟩ := K
  exact fun H locs ls hP hS hl => lv_aload_nN hx hb hd hi (lv_at hl q hq) (k H locs ls hP hS hl)
theorem x_aloadN {i : Nat} (q : Nat) (K : Cx Γ E B cc own Ts rm) (hq : L[q]? = some (i, .null)) (hd : decode cc pc = .ok (.aload i, 2)) (k : XW Γ N v L kc ks (pc + 2) (.null :: st)) : XW Γ N v L kc ks pc (st) := by
  obtain ⟨p, l, e, R, s, m, args, below, meth, c, E', B', Q, nL⟩ := Γ
  obtain ⟨rfl, rfl, hx, hb, hown, hts, hK, hml, hA, rfl⟩ := K
  exact fun H locs ls hP hS hl => lv_aloadN hx hb hd (lv_at hl q hq) (k H locs ls hP hS hl)
theorem x_istore_n {k9 : Fin 4} {i nL9 : Nat} {x : Int32} {L' : List (Nat × Value)} (K : Cx Γ E B cc own Ts rm) (hn9 : Γ.2.2.2.2.2.2.2.2.2.2.2.2.2 = nL9) (hi : (k9 : Nat) = i) (hn : i < nL9) (hl9 : (i, Value.int x) :: L.filter (fun q => !(q.1 == i) && !(q.1 + 1 == i && q.2.category == 2)) = L') (hd : decode cc pc = .ok (.istore_n k9, 1)) (k : XW Γ N v L' kc ks (pc + 1) st) : XW Γ N v L kc ks pc (.int x :: st) := by
  obtain ⟨p, l, e, R, s, m, args, below, meth, c, E', B', Q, nL⟩ := Γ
  obtain ⟨rfl, rfl, hx, hb, hown, hts, hK, hml, hA, rfl⟩ := K
  exact fun H locs ls hP hS hl => lv_istore_n hx hb hd hi hl (Nat.lt_of_lt_of_eq hn hn9.symm) hl9 (fun ls hl => k H locs ls hP hS hl)
theorem x_istore {i nL9 : Nat} {x : Int32} {L' : List (Nat × Value)} (K : Cx Γ E B cc own Ts rm) (hn9 : Γ.2.2.2.2.2.2.2.2.2.2.2.2.2 = nL9) (hn : i < nL9) (hl9 : (i, Value.int x) :: L.filter (fun q => !(q.1 == i) && !(q.1 + 1 == i && q.2.category == 2)) = L') (hd : decode cc pc = .ok (.istore i, 2)) (k : XW Γ N v L' kc ks (pc + 2) st) : XW Γ N v L kc ks pc (.int x :: st) := by
  obtain ⟨p, l, e, R, s, m, args, below, meth, c, E', B', Q, nL⟩ := Γ
  obtain ⟨rfl, rfl, hx, hb, hown, hts, hK, hml, hA, rfl⟩ := K
  exact fun H locs ls hP hS hl => lv_istore hx hb hd hl (Nat.lt_of_lt_of_eq hn hn9.symm) hl9 (fun ls hl => k H locs ls hP hS hl)
theorem x_astore_n {k9 : Fin 4} {i nL9 : Nat} {x : Nat} {L' : List (Nat × Value)} (K : Cx Γ E B cc own Ts rm) (hn9 : Γ.2.2.2.2.2.2.2.2.2.2.2.2.2 = nL9) (hi : (k9 : Nat) = i) (hn : i < nL9) (hl9 : (i, Value.ref x) :: L.filter (fun q => !(q.1 == i) && !(q.1 + 1 == i && q.2.category == 2)) = L') (hd : decode cc pc = .ok (.astore_n k9, 1)) (k : XW Γ N v L' kc ks (pc + 1) st) : XW Γ N v L kc ks pc (.ref x :: st) := by
  obtain ⟨p, l, e, R, s, m, args, below, meth, c, E', B', Q, nL⟩ := Γ
  obtain ⟨rfl, rfl, hx, hb, hown, hts, hK, hml, hA, rfl⟩ := K
  exact fun H locs ls hP hS hl => lv_astore_n hx hb hd hi hl (Nat.lt_of_lt_of_eq hn hn9.symm) hl9 (fun ls hl => k H locs ls hP hS hl)
theorem x_astore {i nL9 : Nat} {x : Nat} {L' : List (Nat × Value)} (K : Cx Γ E B cc own Ts rm) (hn9 : Γ.2.2.2.2.2.2.2.2.2.2.2.2.2 = nL9) (hn : i < nL9) (hl9 : (i, Value.ref x) :: L.filter (fun q => !(q.1 == i) && !(q.1 + 1 == i && q.2.category == 2)) = L') (hd : decode cc pc = .ok (.astore i, 2)) (k : XW Γ N v L' kc ks (pc + 2) st) : XW Γ N v L kc ks pc (.ref x :: st) := by
  obtain ⟨p, l, e, R, s, m, args, below, meth, c, E', B', Q, nL⟩ := Γ
  obtain ⟨rfl, rfl, hx, hb, hown, hts, hK, hml, hA, rfl⟩ := K
  exact fun H locs ls hP hS hl => lv_astore hx hb hd hl (Nat.lt_of_lt_of_eq hn hn9.symm) hl9 (fun ls hl => k H locs ls hP hS hl)
theorem x_astore_nN {k9 : Fin 4} {i nL9 : Nat} {L' : List (Nat × Value)} (K : Cx Γ E B cc own Ts rm) (hn9 : Γ.2.2.2.2.2.2.2.2.2.2.2.2.2 = nL9) (hi : (k9 : Nat) = i) (hn : i < nL9) (hl9 : (i, Value.null) :: L.filter (fun q => !(q.1 == i) && !(q.1 + 1 == i && q.2.category == 2)) = L') (hd : decode cc pc = .ok (.astore_n k9, 1)) (k : XW Γ N v L' kc ks (pc + 1) st) : XW Γ N v L kc ks pc (.null :: st) := by
  obtain ⟨p, l, e, R, s, m, args, below, meth, c, E', B', Q, nL⟩ := Γ
  obtain ⟨rfl, rfl, hx, hb, hown, hts, hK, hml, hA, rfl⟩ := K
  exact fun H locs ls hP hS hl => lv_astore_nN hx hb hd hi hl (Nat.lt_of_lt_of_eq hn hn9.symm) hl9 (fun ls hl => k H locs ls hP hS hl)
theorem x_astoreN {i nL9 : Nat} {L' : List (Nat × Value)} (K : Cx Γ E B cc own Ts rm) (hn9 : Γ.2.2.2.2.2.2.2.2.2.2.2.2.2 = nL9) (hn : i < nL9) (hl9 : (i, Value.null) :: L.filter (fun q => !(q.1 == i) && !(q.1 + 1 == i && q.2.category == 2)) = L') (hd : decode cc pc = .ok (.astore i, 2)) (k : XW Γ N v L' kc ks (pc + 2) st) : XW Γ N v L kc ks pc (.null :: st) := by
  obtain ⟨p, l, e, R, s, m, args, below, meth, c, E', B', Q, nL⟩ := Γ
  obtain ⟨rfl, rfl, hx, hb, hown, hts, hK, hml, hA, rfl⟩ := K
  exact fun H locs ls hP hS hl => lv_astoreN hx hb hd hl (Nat.lt_of_lt_of_eq hn hn9.symm) hl9 (fun ls hl => k H locs ls hP hS hl)
theorem x_lstore_n {k9 : Fin 4} {i nL9 : Nat} {x : Int64} {L' : List (Nat × Value)} (K : Cx Γ E B cc own Ts rm) (hn9 : Γ.2.2.2.2.2.2.2.2.2.2.2.2.2 = nL9) (hi : (k9 : Nat) = i) (hn : i + 1 < nL9) (hl9 : (i, Value.long x) :: L.filter (fun q => !(q.1 == i) && (!(q.1 == i + 1) && !(q.1 + 1 == i && q.2.category == 2))) = L') (hd : decode cc pc = .ok (.lstore_n k9, 1)) (k : XW Γ N v L' kc ks (pc + 1) st) : XW Γ N v L kc ks pc (.long x :: st) := by
  obtain ⟨p, l, e, R, s, m, args, below, meth, c, E', B', Q, nL⟩ := Γ
  obtain ⟨rfl, rfl, hx, hb, hown, hts, hK, hml, hA, rfl⟩ := K
  exact fun H locs ls hP hS hl => lv_lstore_n hx hb hd hi hl (Nat.lt_of_lt_of_eq hn hn9.symm) hl9 (fun ls hl => k H locs ls hP hS hl)
theorem x_lstore {i nL9 : Nat} {x : Int64} {L' : List (Nat × Value)} (K : Cx Γ E B cc own Ts rm) (hn9 : Γ.2.2.2.2.2.2.2.2.2.2.2.2.2 = nL9) (hn : i + 1 < nL9) (hl9 : (i, Value.long x) :: L.filter (fun q => !(q.1 == i) && (!(q.1 == i + 1) && !(q.1 + 1 == i && q.2.category == 2))) = L') (hd : decode cc pc = .ok (.lstore i, 2)) (k : XW Γ N v L' kc ks (pc + 2) st) : XW Γ N v L kc ks pc (.long x :: st) := by
  obtain ⟨p, l, e, R, s, m, args, below, meth, c, E', B', Q, nL⟩ := Γ
  obtain ⟨rfl, rfl, hx, hb, hown, hts, hK, hml, hA, rfl⟩ := K
  exact fun H locs ls hP hS hl => lv_lstore hx hb hd hl (Nat.lt_of_lt_of_eq hn hn9.symm) hl9 (fun ls hl => k H locs ls hP hS hl)
theorem x_iinc {i nL9 : Nat} {a n : Int} {L' : List (Nat × Value)} (q : Nat) (K : Cx Γ E B cc own Ts rm) (hn9 : Γ.2.2.2.2.2.2.2.2.2.2.2.2.2 = nL9) (hq : L[q]? = some (i, .int (zI a))) (hn : i < nL9) (hl9 : (i, Value.int (zI (a + n))) :: L.filter (fun q => !(q.1 == i) && !(q.1 + 1 == i && q.2.category == 2)) = L') (hd : decode cc pc = .ok (.iinc i n, 3)) (k : XW Γ N v L' kc ks (pc + 3) st) : XW Γ N v L kc ks pc (st) := by
  obtain ⟨p, l, e, R, s, m, args, below, meth, c, E', B', Q, nL⟩ := Γ
  obtain ⟨rfl, rfl, hx, hb, hown, hts, hK, hml, hA, rfl⟩ := K
  exact fun H locs ls hP hS hl => lv_iinc hx hb hd hl hq (zI_add a n) (Nat.lt_of_lt_of_eq hn hn9.symm) hl9 (fun ls hl => k H locs ls hP hS hl)
theorem x_iadd {a b : Int} (K : Cx Γ E B cc own Ts rm)  (hd : decode cc pc = .ok (.iadd, 1)) (k : XW Γ N v L kc ks (pc + 1) (.int (zI (a + b)) :: st)) : XW Γ N v L kc ks pc (.int (zI b) :: .int (zI a) :: st) := by
  obtain ⟨p, l, e, R, s, m, args, below, meth, c, E', B', Q, nL⟩ := Γ
  obtain ⟨rfl, rfl, hx, hb, hown, hts, hK, hml, hA, rfl⟩ := K
  exact fun H locs ls hP hS hl => lv_iadd hx hb hd (by rw [zI_add]; exact k H locs ls hP hS hl)
theorem x_isub {a b : Int} (K : Cx Γ E B cc own Ts rm)  (hd : decode cc pc = .ok (.isub, 1)) (k : XW Γ N v L kc ks (pc + 1) (.int (zI (a - b)) :: st)) : XW Γ N v L kc ks pc (.int (zI b) :: .int (zI a) :: st) := by
  obtain ⟨p, l, e, R, s, m, args, below, meth, c, E', B', Q, nL⟩ := Γ
  obtain ⟨rfl, rfl, hx, hb, hown, hts, hK, hml, hA, rfl⟩ := K
  exact fun H locs ls hP hS hl => lv_isub hx hb hd (by rw [zI_sub]; exact k H locs ls hP hS hl)
theorem x_imul {a b : Int} (K : Cx Γ E B cc own Ts rm)  (hd : decode cc pc = .ok (.imul, 1)) (k : XW Γ N v L kc ks (pc + 1) (.int (zI (a * b)) :: st)) : XW Γ N v L kc ks pc (.int (zI b) :: .int (zI a) :: st) := by
  obtain ⟨p, l, e, R, s, m, args, below, meth, c, E', B', Q, nL⟩ := Γ
  obtain ⟨rfl, rfl, hx, hb, hown, hts, hK, hml, hA, rfl⟩ := K
  exact fun H locs ls hP hS hl => lv_imul hx hb hd (by rw [zI_mul]; exact k H locs ls hP hS hl)
theorem x_ladd {a b : Int} (K : Cx Γ E B cc own Ts rm)  (hd : decode cc pc = .ok (.ladd, 1)) (k : XW Γ N v L kc ks (pc + 1) (.long (zL (a + b)) :: st)) : XW Γ N v L kc ks pc (.long (zL b) :: .long (zL a) :: st) := by
  obtain ⟨p, l, e, R, s, m, args, below, meth, c, E', B', Q, nL⟩ := Γ
  obtain ⟨rfl, rfl, hx, hb, hown, hts, hK, hml, hA, rfl⟩ := K
  exact fun H locs ls hP hS hl => lv_ladd hx hb hd (by rw [zL_add]; exact k H locs ls hP hS hl)
theorem x_lsub {a b : Int} (K : Cx Γ E B cc own Ts rm)  (hd : decode cc pc = .ok (.lsub, 1)) (k : XW Γ N v L kc ks (pc + 1) (.long (zL (a - b)) :: st)) : XW Γ N v L kc ks pc (.long (zL b) :: .long (zL a) :: st) := by
  obtain ⟨p, l, e, R, s, m, args, below, meth, c, E', B', Q, nL⟩ := Γ
  obtain ⟨rfl, rfl, hx, hb, hown, hts, hK, hml, hA, rfl⟩ := K
  exact fun H locs ls hP hS hl => lv_lsub hx hb hd (by rw [zL_sub]; exact k H locs ls hP hS hl)
theorem x_lmul {a b : Int} (K : Cx Γ E B cc own Ts rm)  (hd : decode cc pc = .ok (.lmul, 1)) (k : XW Γ N v L kc ks (pc + 1) (.long (zL (a * b)) :: st)) : XW Γ N v L kc ks pc (.long (zL b) :: .long (zL a) :: st) := by
  obtain ⟨p, l, e, R, s, m, args, below, meth, c, E', B', Q, nL⟩ := Γ
  obtain ⟨rfl, rfl, hx, hb, hown, hts, hK, hml, hA, rfl⟩ := K
  exact fun H locs ls hP hS hl => lv_lmul hx hb hd (by rw [zL_mul]; exact k H locs ls hP hS hl)
theorem x_idiv {a b : Int} (K : Cx Γ E B cc own Ts rm) (ha : 0 ≤ a ∧ a ≤ 2147483647) (hb9 : 1 ≤ b ∧ b ≤ 2147483647) (hd : decode cc pc = .ok (.idiv, 1)) (k : XW Γ N v L kc ks (pc + 1) (.int (zI (a / b)) :: st)) : XW Γ N v L kc ks pc (.int (zI b) :: .int (zI a) :: st) := by
  obtain ⟨p, l, e, R, s, m, args, below, meth, c, E', B', Q, nL⟩ := Γ
  obtain ⟨rfl, rfl, hx, hb, hown, hts, hK, hml, hA, rfl⟩ := K
  exact fun H locs ls hP hS hl => lv_idiv hx hb hd (zI_ne0 hb9) (by rw [zI_div ha hb9]; exact k H locs ls hP hS hl)
theorem x_irem {a b : Int} (K : Cx Γ E B cc own Ts rm) (ha : 0 ≤ a ∧ a ≤ 2147483647) (hb9 : 1 ≤ b ∧ b ≤ 2147483647) (hd : decode cc pc = .ok (.irem, 1)) (k : XW Γ N v L kc ks (pc + 1) (.int (zI (a % b)) :: st)) : XW Γ N v L kc ks pc (.int (zI b) :: .int (zI a) :: st) := by
  obtain ⟨p, l, e, R, s, m, args, below, meth, c, E', B', Q, nL⟩ := Γ
  obtain ⟨rfl, rfl, hx, hb, hown, hts, hK, hml, hA, rfl⟩ := K
  exact fun H locs ls hP hS hl => lv_irem hx hb hd (zI_ne0 hb9) (by rw [zI_rem ha hb9]; exact k H locs ls hP hS hl)
theorem x_ineg {a : Int} (K : Cx Γ E B cc own Ts rm)  (hd : decode cc pc = .ok (.ineg, 1)) (k : XW Γ N v L kc ks (pc + 1) (.int (zI (-a)) :: st)) : XW Γ N v L kc ks pc (.int (zI a) :: st) := by
  obtain ⟨p, l, e, R, s, m, args, below, meth, c, E', B', Q, nL⟩ := Γ
  obtain ⟨rfl, rfl, hx, hb, hown, hts, hK, hml, hA, rfl⟩ := K
  exact fun H locs ls hP hS hl => lv_ineg hx hb hd (by rw [zI_neg]; exact k H locs ls hP hS hl)
theorem x_i2l {a : Int} (K : Cx Γ E B cc own Ts rm) (ha : -2147483648 ≤ a ∧ a ≤ 2147483647) (hd : decode cc pc = .ok (.i2l, 1)) (k : XW Γ N v L kc ks (pc + 1) (.long (zL a) :: st)) : XW Γ N v L kc ks pc (.int (zI a) :: st) := by
  obtain ⟨p, l, e, R, s, m, args, below, meth, c, E', B', Q, nL⟩ := Γ
  obtain ⟨rfl, rfl, hx, hb, hown, hts, hK, hml, hA, rfl⟩ := K
  exact fun H locs ls hP hS hl => lv_i2l hx hb hd (zL_of ha) (k H locs ls hP hS hl)
theorem x_l2i {a : Int} (K : Cx Γ E B cc own Ts rm)  (hd : decode cc pc = .ok (.l2i, 1)) (k : XW Γ N v L kc ks (pc + 1) (.int (zI a) :: st)) : XW Γ N v L kc ks pc (.long (zL a) :: st) := by
  obtain ⟨p, l, e, R, s, m, args, below, meth, c, E', B', Q, nL⟩ := Γ
  obtain ⟨rfl, rfl, hx, hb, hown, hts, hK, hml, hA, rfl⟩ := K
  exact fun H locs ls hP hS hl => lv_l2i hx hb hd (zL_to a) (k H locs ls hP hS hl)
theorem x_lcmp {a b : Int} (K : Cx Γ E B cc own Ts rm) (ha : -9223372036854775808 ≤ a ∧ a ≤ 9223372036854775807) (hb9 : -9223372036854775808 ≤ b ∧ b ≤ 9223372036854775807) (hd : decode cc pc = .ok (.lcmp, 1)) (k : XW Γ N v L kc ks (pc + 1) (.int (zI (cmpZ a b)) :: st)) : XW Γ N v L kc ks pc (.long (zL b) :: .long (zL a) :: st) := by
  obtain ⟨p, l, e, R, s, m, args, below, meth, c, E', B', Q, nL⟩ := Γ
  obtain ⟨rfl, rfl, hx, hb, hown, hts, hK, hml, hA, rfl⟩ := K
  exact fun H locs ls hP hS hl => W.lcmp hx hb hd (by rw [zL_cmp ha hb9]; exact k H locs ls hP hS hl)
theorem x_i2b {a : Int} (K : Cx Γ E B cc own Ts rm)  (hd : decode cc pc = .ok (.i2b, 1)) (k : XW Γ N v L kc ks (pc + 1) (.int (zI (zI a).toInt8.toInt32.toInt) :: st)) : XW Γ N v L kc ks pc (.int (zI a) :: st) := by
  obtain ⟨p, l, e, R, s, m, args, below, meth, c, E', B', Q, nL⟩ := Γ
  obtain ⟨rfl, rfl, hx, hb, hown, hts, hK, hml, hA, rfl⟩ := K
  exact fun H locs ls hP hS hl => lv_i2b hx hb hd (zI_self _).symm (k H locs ls hP hS hl)
theorem x_i2s {a : Int} (K : Cx Γ E B cc own Ts rm)  (hd : decode cc pc = .ok (.i2s, 1)) (k : XW Γ N v L kc ks (pc + 1) (.int (zI (zI a).toInt16.toInt32.toInt) :: st)) : XW Γ N v L kc ks pc (.int (zI a) :: st) := by
  obtain ⟨p, l, e, R, s, m, args, below, meth, c, E', B', Q, nL⟩ := Γ
  obtain ⟨rfl, rfl, hx, hb, hown, hts, hK, hml, hA, rfl⟩ := K
  exact fun H locs ls hP hS hl => lv_i2s hx hb hd (zI_self _).symm (k H locs ls hP hS hl)
theorem x_iand {x y : Int32} (K : Cx Γ E B cc own Ts rm)  (hd : decode cc pc = .ok (.iand, 1)) (k : XW Γ N v L kc ks (pc + 1) (.int (x &&& y) :: st)) : XW Γ N v L kc ks pc (.int y :: .int x :: st) := by
  obtain ⟨p, l, e, R, s, m, args, below, meth, c, E', B', Q, nL⟩ := Γ
  obtain ⟨rfl, rfl, hx, hb, hown, hts, hK, hml, hA, rfl⟩ := K
  exact fun H locs ls hP hS hl => lv_iand hx hb hd (k H locs ls hP hS hl)
theorem x_ior {x y : Int32} (K : Cx Γ E B cc own Ts rm)  (hd : decode cc pc = .ok (.ior, 1)) (k : XW Γ N v L kc ks (pc + 1) (.int (x ||| y) :: st)) : XW Γ N v L kc ks pc (.int y :: .int x :: st) := by
  obtain ⟨p, l, e, R, s, m, args, below, meth, c, E', B', Q, nL⟩ := Γ
  obtain ⟨rfl, rfl, hx, hb, hown, hts, hK, hml, hA, rfl⟩ := K
  exact fun H locs ls hP hS hl => lv_ior hx hb hd (k H locs ls hP hS hl)
theorem x_land {x y : Int64} (K : Cx Γ E B cc own Ts rm)  (hd : decode cc pc = .ok (.land, 1)) (k : XW Γ N v L kc ks (pc + 1) (.long (x &&& y) :: st)) : XW Γ N v L kc ks pc (.long y :: .long x :: st) := by
  obtain ⟨p, l, e, R, s, m, args, below, meth, c, E', B', Q, nL⟩ := Γ
  obtain ⟨rfl, rfl, hx, hb, hown, hts, hK, hml, hA, rfl⟩ := K
  exact fun H locs ls hP hS hl => lv_land hx hb hd (k H locs ls hP hS hl)
theorem x_lor {x y : Int64} (K : Cx Γ E B cc own Ts rm)  (hd : decode cc pc = .ok (.lor, 1)) (k : XW Γ N v L kc ks (pc + 1) (.long (x ||| y) :: st)) : XW Γ N v L kc ks pc (.long y :: .long x :: st) := by
  obtain ⟨p, l, e, R, s, m, args, below, meth, c, E', B', Q, nL⟩ := Γ
  obtain ⟨rfl, rfl, hx, hb, hown, hts, hK, hml, hA, rfl⟩ := K
  exact fun H locs ls hP hS hl => lv_lor hx hb hd (k H locs ls hP hS hl)
theorem x_lshr {x : Int64} {y : Int32} (K : Cx Γ E B cc own Ts rm)  (hd : decode cc pc = .ok (.lshr, 1)) (k : XW Γ N v L kc ks (pc + 1) (.long (x >>> (y.toInt64 &&& 63)) :: st)) : XW Γ N v L kc ks pc (.int y :: .long x :: st) := by
  obtain ⟨p, l, e, R, s, m, args, below, meth, c, E', B', Q, nL⟩ := Γ
  obtain ⟨rfl, rfl, hx, hb, hown, hts, hK, hml, hA, rfl⟩ := K
  exact fun H locs ls hP hS hl => lv_lshr hx hb hd rfl (k H locs ls hP hS hl)
theorem x_lshl {x : Int64} {y : Int32} (K : Cx Γ E B cc own Ts rm)  (hd : decode cc pc = .ok (.lshl, 1)) (k : XW Γ N v L kc ks (pc + 1) (.long (x <<< (y.toInt64 &&& 63)) :: st)) : XW Γ N v L kc ks pc (.int y :: .long x :: st) := by
  obtain ⟨p, l, e, R, s, m, args, below, meth, c, E', B', Q, nL⟩ := Γ
  obtain ⟨rfl, rfl, hx, hb, hown, hts, hK, hml, hA, rfl⟩ := K
  exact fun H locs ls hP hS hl => lv_lshl hx hb hd rfl (k H locs ls hP hS hl)
theorem x_ldivX {x y : Int64} (K : Cx Γ E B cc own Ts rm) (hne : ¬ y = 0) (hd : decode cc pc = .ok (.ldiv, 1)) (k : XW Γ N v L kc ks (pc + 1) (.long (x / y) :: st)) : XW Γ N v L kc ks pc (.long y :: .long x :: st) := by
  obtain ⟨p, l, e, R, s, m, args, below, meth, c, E', B', Q, nL⟩ := Γ
  obtain ⟨rfl, rfl, hx, hb, hown, hts, hK, hml, hA, rfl⟩ := K
  exact fun H locs ls hP hS hl => lv_ldiv hx hb hd hne (k H locs ls hP hS hl)
theorem x_lremX {x y : Int64} (K : Cx Γ E B cc own Ts rm) (hne : ¬ y = 0) (hd : decode cc pc = .ok (.lrem, 1)) (k : XW Γ N v L kc ks (pc + 1) (.long (x - x / y * y) :: st)) : XW Γ N v L kc ks pc (.long y :: .long x :: st) := by
  obtain ⟨p, l, e, R, s, m, args, below, meth, c, E', B', Q, nL⟩ := Γ
  obtain ⟨rfl, rfl, hx, hb, hown, hts, hK, hml, hA, rfl⟩ := K
  exact fun H locs ls hP hS hl => lv_lrem hx hb hd hne (k H locs ls hP hS hl)
theorem x_i2lX {x : Int32} (K : Cx Γ E B cc own Ts rm)  (hd : decode cc pc = .ok (.i2l, 1)) (k : XW Γ N v L kc ks (pc + 1) (.long x.toInt64 :: st)) : XW Γ N v L kc ks pc (.int x :: st) := by
  obtain ⟨p, l, e, R, s, m, args, below, meth, c, E', B', Q, nL⟩ := Γ
  obtain ⟨rfl, rfl, hx, hb, hown, hts, hK, hml, hA, rfl⟩ := K
  exact fun H locs ls hP hS hl => lv_i2l hx hb hd rfl (k H locs ls hP hS hl)
theorem x_l2iX {x : Int64} (K : Cx Γ E B cc own Ts rm)  (hd : decode cc pc = .ok (.l2i, 1)) (k : XW Γ N v L kc ks (pc + 1) (.int x.toInt32 :: st)) : XW Γ N v L kc ks pc (.long x :: st) := by
  obtain ⟨p, l, e, R, s, m, args, below, meth, c, E', B', Q, nL⟩ := Γ
  obtain ⟨rfl, rfl, hx, hb, hown, hts, hK, hml, hA, rfl⟩ := K
  exact fun H locs ls hP hS hl => lv_l2i hx hb hd rfl (k H locs ls hP hS hl)
theorem x_dup {a : Value} (K : Cx Γ E B cc own Ts rm) (h1 : a.category = 1) (hd : decode cc pc = .ok (.dup, 1)) (k : XW Γ N v L kc ks (pc + 1) (a :: a :: st)) : XW Γ N v L kc ks pc (a :: st) := by
  obtain ⟨p, l, e, R, s, m, args, below, meth, c, E', B', Q, nL⟩ := Γ
  obtain ⟨rfl, rfl, hx, hb, hown, hts, hK, hml, hA, rfl⟩ := K
  exact fun H locs ls hP hS hl => lv_dup hx hb hd h1 (k H locs ls hP hS hl)
theorem x_dup_x1 {a b : Value} (K : Cx Γ E B cc own Ts rm) (h1 : a.category = 1) (h2 : b.category = 1) (hd : decode cc pc = .ok (.dup_x1, 1)) (k : XW Γ N v L kc ks (pc + 1) (a :: b :: a :: st)) : XW Γ N v L kc ks pc (a :: b :: st) := by
  obtain ⟨p, l, e, R, s, m, args, below, meth, c, E', B', Q, nL⟩ := Γ
  obtain ⟨rfl, rfl, hx, hb, hown, hts, hK, hml, hA, rfl⟩ := K
  exact fun H locs ls hP hS hl => lv_dup_x1 hx hb hd h1 h2 (k H locs ls hP hS hl)
theorem x_dup_x2 {a b d : Value} (K : Cx Γ E B cc own Ts rm) (h1 : a.category = 1) (h2 : b.category = 1) (h3 : d.category = 1) (hd : decode cc pc = .ok (.dup_x2, 1)) (k : XW Γ N v L kc ks (pc + 1) (a :: b :: d :: a :: st)) : XW Γ N v L kc ks pc (a :: b :: d :: st) := by
  obtain ⟨p, l, e, R, s, m, args, below, meth, c, E', B', Q, nL⟩ := Γ
  obtain ⟨rfl, rfl, hx, hb, hown, hts, hK, hml, hA, rfl⟩ := K
  exact fun H locs ls hP hS hl => lv_dup_x2 hx hb hd h1 h2 h3 (k H locs ls hP hS hl)
theorem x_dup2 {a b : Value} (K : Cx Γ E B cc own Ts rm) (h1 : a.category = 1) (h2 : b.category = 1) (hd : decode cc pc = .ok (.dup2, 1)) (k : XW Γ N v L kc ks (pc + 1) (a :: b :: a :: b :: st)) : XW Γ N v L kc ks pc (a :: b :: st) := by
  obtain ⟨p, l, e, R, s, m, args, below, meth, c, E', B', Q, nL⟩ := Γ
  obtain ⟨rfl, rfl, hx, hb, hown, hts, hK, hml, hA, rfl⟩ := K
  exact fun H locs ls hP hS hl => lv_dup2_11 hx hb hd h1 h2 (k H locs ls hP hS hl)
theorem x_pop {a : Value} (K : Cx Γ E B cc own Ts rm) (h1 : a.category = 1) (hd : decode cc pc = .ok (.pop, 1)) (k : XW Γ N v L kc ks (pc + 1) (st)) : XW Γ N v L kc ks pc (a :: st) := by
  obtain ⟨p, l, e, R, s, m, args, below, meth, c, E', B', Q, nL⟩ := Γ
  obtain ⟨rfl, rfl, hx, hb, hown, hts, hK, hml, hA, rfl⟩ := K
  exact fun H locs ls hP hS hl => lv_pop hx hb hd h1 (k H locs ls hP hS hl)
theorem x_icmp_eq {a b : Int} {off : Int} {tgt : Nat} (K : Cx Γ E B cc own Ts rm) (ha : -2147483648 ≤ a ∧ a ≤ 2147483647) (hb9 : -2147483648 ≤ b ∧ b ≤ 2147483647) (hd : decode cc pc = .ok (.if_icmp .eq off, 3)) (ht : (pc : Int) + off = (tgt : Int)) (kt : a = b → XW Γ N v L kc ks tgt st) (kf : ¬ a = b → XW Γ N v L kc ks (pc + 3) st) : XW Γ N v L kc ks pc (.int (zI b) :: .int (zI a) :: st) := by
  obtain ⟨p, l, e, R, s, m, args, below, meth, c, E', B', Q, nL⟩ := Γ
  obtain ⟨rfl, rfl, hx, hb, hown, hts, hK, hml, hA, rfl⟩ := K
  exact fun H locs ls hP hS hl => lv_icmp_eq hx hb hd ht (fun q => kt ((zI_eq ha hb9).mp q) H locs ls hP hS hl) (fun q => kf (fun z => q ((zI_eq ha hb9).mpr z)) H locs ls hP hS hl)
theorem x_icmp_ne {a b : Int} {off : Int} {tgt : Nat} (K : Cx Γ E B cc own Ts rm) (ha : -2147483648 ≤ a ∧ a ≤ 2147483647) (hb9 : -2147483648 ≤ b ∧ b ≤ 2147483647) (hd : decode cc pc = .ok (.if_icmp .ne off, 3)) (ht : (pc : Int) + off = (tgt : Int)) (kt : ¬ a = b → XW Γ N v L kc ks tgt st) (kf : a = b → XW Γ N v L kc ks (pc + 3) st) : XW Γ N v L kc ks pc (.int (zI b) :: .int (zI a) :: st) := by
  obtain ⟨p, l, e, R, s, m, args, below, meth, c, E', B', Q, nL⟩ := Γ
  obtain ⟨rfl, rfl, hx, hb, hown, hts, hK, hml, hA, rfl⟩ := K
  exact fun H locs ls hP hS hl => lv_icmp_ne hx hb hd ht (fun q => kt (fun z => q ((zI_eq ha hb9).mpr z)) H locs ls hP hS hl) (fun q => kf ((zI_eq ha hb9).mp q) H locs ls hP hS hl)
theorem x_icmp_lt {a b : Int} {off : Int} {tgt : Nat} (K : Cx Γ E B cc own Ts rm) (ha : -2147483648 ≤ a ∧ a ≤ 2147483647) (hb9 : -2147483648 ≤ b ∧ b ≤ 2147483647) (hd : decode cc pc = .ok (.if_icmp .lt off, 3)) (ht : (pc : Int) + off = (tgt : Int)) (kt : a < b → XW Γ N v L kc ks tgt st) (kf : ¬ a < b → XW Γ N v L kc ks (pc + 3) st) : XW Γ N v L kc ks pc (.int (zI b) :: .int (zI a) :: st) := by
  obtain ⟨p, l, e, R, s, m, args, below, meth, c, E', B', Q, nL⟩ := Γ
  obtain ⟨rfl, rfl, hx, hb, hown, hts, hK, hml, hA, rfl⟩ := K
  exact fun H locs ls hP hS hl => lv_icmp_lt hx hb hd ht (fun q => kt ((zI_lt ha hb9).mp q) H locs ls hP hS hl) (fun q => kf (fun z => q ((zI_lt ha hb9).mpr z)) H locs ls hP hS hl)
theorem x_icmp_ge {a b : Int} {off : Int} {tgt : Nat} (K : Cx Γ E B cc own Ts rm) (ha : -2147483648 ≤ a ∧ a ≤ 2147483647) (hb9 : -2147483648 ≤ b ∧ b ≤ 2147483647) (hd : decode cc pc = .ok (.if_icmp .ge off, 3)) (ht : (pc : Int) + off = (tgt : Int)) (kt : b ≤ a → XW Γ N v L kc ks tgt st) (kf : ¬ b ≤ a → XW Γ N v L kc ks (pc + 3) st) : XW Γ N v L kc ks pc (.int (zI b) :: .int (zI a) :: st) := by
  obtain ⟨p, l, e, R, s, m, args, below, meth, c, E', B', Q, nL⟩ := Γ
  obtain ⟨rfl, rfl, hx, hb, hown, hts, hK, hml, hA, rfl⟩ := K
  exact fun H locs ls hP hS hl => lv_icmp_ge hx hb hd ht (fun q => kt ((zI_le hb9 ha).mp q) H locs ls hP hS hl) (fun q => kf (fun z => q ((zI_le hb9 ha).mpr z)) H locs ls hP hS hl)
theorem x_icmp_gt {a b : Int} {off : Int} {tgt : Nat} (K : Cx Γ E B cc own Ts rm) (ha : -2147483648 ≤ a ∧ a ≤ 2147483647) (hb9 : -2147483648 ≤ b ∧ b ≤ 2147483647) (hd : decode cc pc = .ok (.if_icmp .gt off, 3)) (ht : (pc : Int) + off = (tgt : Int)) (kt : b < a → XW Γ N v L kc ks tgt st) (kf : ¬ b < a → XW Γ N v L kc ks (pc + 3) st) : XW Γ N v L kc ks pc (.int (zI b) :: .int (zI a) :: st) := by
  obtain ⟨p, l, e, R, s, m, args, below, meth, c, E', B', Q, nL⟩ := Γ
  obtain ⟨rfl, rfl, hx, hb, hown, hts, hK, hml, hA, rfl⟩ := K
  exact fun H locs ls hP hS hl => lv_icmp_gt hx hb hd ht (fun q => kt ((zI_lt hb9 ha).mp q) H locs ls hP hS hl) (fun q => kf (fun z => q ((zI_lt hb9 ha).mpr z)) H locs ls hP hS hl)
theorem x_icmp_le {a b : Int} {off : Int} {tgt : Nat} (K : Cx Γ E B cc own Ts rm) (ha : -2147483648 ≤ a ∧ a ≤ 2147483647) (hb9 : -2147483648 ≤ b ∧ b ≤ 2147483647) (hd : decode cc pc = .ok (.if_icmp .le off, 3)) (ht : (pc : Int) + off = (tgt : Int)) (kt : a ≤ b → XW Γ N v L kc ks tgt st) (kf : ¬ a ≤ b → XW Γ N v L kc ks (pc + 3) st) : XW Γ N v L kc ks pc (.int (zI b) :: .int (zI a) :: st) := by
  obtain ⟨p, l, e, R, s, m, args, below, meth, c, E', B', Q, nL⟩ := Γ
  obtain ⟨rfl, rfl, hx, hb, hown, hts, hK, hml, hA, rfl⟩ := K
  exact fun H locs ls hP hS hl => lv_icmp_le hx hb hd ht (fun q => kt ((zI_le ha hb9).mp q) H locs ls hP hS hl) (fun q => kf (fun z => q ((zI_le ha hb9).mpr z)) H locs ls hP hS hl)
theorem x_if_eq {a : Int} {off : Int} {tgt : Nat} (K : Cx Γ E B cc own Ts rm) (ha : -2147483648 ≤ a ∧ a ≤ 2147483647)  (hd : decode cc pc = .ok (.ifCond .eq off, 3)) (ht : (pc : Int) + off = (tgt : Int)) (kt : a = 0 → XW Γ N v L kc ks tgt st) (kf : ¬ a = 0 → XW Γ N v L kc ks (pc + 3) st) : XW Γ N v L kc ks pc (.int (zI a) :: st) := by
  obtain ⟨p, l, e, R, s, m, args, below, meth, c, E', B', Q, nL⟩ := Γ
  obtain ⟨rfl, rfl, hx, hb, hown, hts, hK, hml, hA, rfl⟩ := K
  exact fun H locs ls hP hS hl => lv_if_eq hx hb hd ht (fun q => kt ((zI_eq ha (show (-2147483648 : Int) ≤ 0 ∧ (0 : Int) ≤ 2147483647 by omega)).mp (zI_0 ▸ q)) H locs ls hP hS hl) (fun q => kf (fun z => q (zI_0 ▸ (zI_eq ha (show (-2147483648 : Int) ≤ 0 ∧ (0 : Int) ≤ 2147483647 by omega)).mpr z)) H locs ls hP hS hl)
theorem x_if_ne {a : Int} {off : Int} {tgt : Nat} (K : Cx Γ E B cc own Ts rm) (ha : -2147483648 ≤ a ∧ a ≤ 2147483647)  (hd : decode cc pc = .ok (.ifCond .ne off, 3)) (ht : (pc : Int) + off = (tgt : Int)) (kt : ¬ a = 0 → XW Γ N v L kc ks tgt st) (kf : a = 0 → XW Γ N v L kc ks (pc + 3) st) : XW Γ N v L kc ks pc (.int (zI a) :: st) := by
  obtain ⟨p, l, e, R, s, m, args, below, meth, c, E', B', Q, nL⟩ := Γ
  obtain ⟨rfl, rfl, hx, hb, hown, hts, hK, hml, hA, rfl⟩ := K
  exact fun H locs ls hP hS hl => lv_if_ne hx hb hd ht (fun q => kt (fun z => q (zI_0 ▸ (zI_eq ha (show (-2147483648 : Int) ≤ 0 ∧ (0 : Int) ≤ 2147483647 by omega)).mpr z)) H locs ls hP hS hl) (fun q => kf ((zI_eq ha (show (-2147483648 : Int) ≤ 0 ∧ (0 : Int) ≤ 2147483647 by omega)).mp (zI_0 ▸ q)) H locs ls hP hS hl)
theorem x_if_lt {a : Int} {off : Int} {tgt : Nat} (K : Cx Γ E B cc own Ts rm) (ha : -2147483648 ≤ a ∧ a ≤ 2147483647)  (hd : decode cc pc = .ok (.ifCond .lt off, 3)) (ht : (pc : Int) + off = (tgt : Int)) (kt : a < 0 → XW Γ N v L kc ks tgt st) (kf : ¬ a < 0 → XW Γ N v L kc ks (pc + 3) st) : XW Γ N v L kc ks pc (.int (zI a) :: st) := by
  obtain ⟨p, l, e, R, s, m, args, below, meth, c, E', B', Q, nL⟩ := Γ
  obtain ⟨rfl, rfl, hx, hb, hown, hts, hK, hml, hA, rfl⟩ := K
  exact fun H locs ls hP hS hl => lv_if_lt hx hb hd ht (fun q => kt ((zI_lt ha (show (-2147483648 : Int) ≤ 0 ∧ (0 : Int) ≤ 2147483647 by omega)).mp (zI_0 ▸ q)) H locs ls hP hS hl) (fun q => kf (fun z => q (zI_0 ▸ (zI_lt ha (show (-2147483648 : Int) ≤ 0 ∧ (0 : Int) ≤ 2147483647 by omega)).mpr z)) H locs ls hP hS hl)
theorem x_if_ge {a : Int} {off : Int} {tgt : Nat} (K : Cx Γ E B cc own Ts rm) (ha : -2147483648 ≤ a ∧ a ≤ 2147483647)  (hd : decode cc pc = .ok (.ifCond .ge off, 3)) (ht : (pc : Int) + off = (tgt : Int)) (kt : 0 ≤ a → XW Γ N v L kc ks tgt st) (kf : ¬ 0 ≤ a → XW Γ N v L kc ks (pc + 3) st) : XW Γ N v L kc ks pc (.int (zI a) :: st) := by
  obtain ⟨p, l, e, R, s, m, args, below, meth, c, E', B', Q, nL⟩ := Γ
  obtain ⟨rfl, rfl, hx, hb, hown, hts, hK, hml, hA, rfl⟩ := K
  exact fun H locs ls hP hS hl => lv_if_ge hx hb hd ht (fun q => kt ((zI_le (show (-2147483648 : Int) ≤ 0 ∧ (0 : Int) ≤ 2147483647 by omega) ha).mp (zI_0 ▸ q)) H locs ls hP hS hl) (fun q => kf (fun z => q (zI_0 ▸ (zI_le (show (-2147483648 : Int) ≤ 0 ∧ (0 : Int) ≤ 2147483647 by omega) ha).mpr z)) H locs ls hP hS hl)
theorem x_if_gt {a : Int} {off : Int} {tgt : Nat} (K : Cx Γ E B cc own Ts rm) (ha : -2147483648 ≤ a ∧ a ≤ 2147483647)  (hd : decode cc pc = .ok (.ifCond .gt off, 3)) (ht : (pc : Int) + off = (tgt : Int)) (kt : 0 < a → XW Γ N v L kc ks tgt st) (kf : ¬ 0 < a → XW Γ N v L kc ks (pc + 3) st) : XW Γ N v L kc ks pc (.int (zI a) :: st) := by
  obtain ⟨p, l, e, R, s, m, args, below, meth, c, E', B', Q, nL⟩ := Γ
  obtain ⟨rfl, rfl, hx, hb, hown, hts, hK, hml, hA, rfl⟩ := K
  exact fun H locs ls hP hS hl => lv_if_gt hx hb hd ht (fun q => kt ((zI_lt (show (-2147483648 : Int) ≤ 0 ∧ (0 : Int) ≤ 2147483647 by omega) ha).mp (zI_0 ▸ q)) H locs ls hP hS hl) (fun q => kf (fun z => q (zI_0 ▸ (zI_lt (show (-2147483648 : Int) ≤ 0 ∧ (0 : Int) ≤ 2147483647 by omega) ha).mpr z)) H locs ls hP hS hl)
theorem x_if_le {a : Int} {off : Int} {tgt : Nat} (K : Cx Γ E B cc own Ts rm) (ha : -2147483648 ≤ a ∧ a ≤ 2147483647)  (hd : decode cc pc = .ok (.ifCond .le off, 3)) (ht : (pc : Int) + off = (tgt : Int)) (kt : a ≤ 0 → XW Γ N v L kc ks tgt st) (kf : ¬ a ≤ 0 → XW Γ N v L kc ks (pc + 3) st) : XW Γ N v L kc ks pc (.int (zI a) :: st) := by
  obtain ⟨p, l, e, R, s, m, args, below, meth, c, E', B', Q, nL⟩ := Γ
  obtain ⟨rfl, rfl, hx, hb, hown, hts, hK, hml, hA, rfl⟩ := K
  exact fun H locs ls hP hS hl => lv_if_le hx hb hd ht (fun q => kt ((zI_le ha (show (-2147483648 : Int) ≤ 0 ∧ (0 : Int) ≤ 2147483647 by omega)).mp (zI_0 ▸ q)) H locs ls hP hS hl) (fun q => kf (fun z => q (zI_0 ▸ (zI_le ha (show (-2147483648 : Int) ≤ 0 ∧ (0 : Int) ≤ 2147483647 by omega)).mpr z)) H locs ls hP hS hl)
theorem x_goto {off : Int} {tgt : Nat} (K : Cx Γ E B cc own Ts rm) (hd : decode cc pc = .ok (.goto off, 3)) (ht : (pc : Int) + off = (tgt : Int)) (k : XW Γ N v L kc ks tgt st) : XW Γ N v L kc ks pc st := by
  obtain ⟨p, l, e, R, s, m, args, below, meth, c, E', B', Q, nL⟩ := Γ
  obtain ⟨rfl, rfl, hx, hb, hown, hts, hK, hml, hA, rfl⟩ := K
  exact fun H locs ls hP hS hl => lv_goto hx hb hd ht (k H locs ls hP hS hl)
theorem x_ifnull {x : Nat} {off : Int} (K : Cx Γ E B cc own Ts rm) (hd : decode cc pc = .ok (.ifnull off, 3)) (k : XW Γ N v L kc ks (pc + 3) st) : XW Γ N v L kc ks pc (.ref x :: st) := by
  obtain ⟨p, l, e, R, s, m, args, below, meth, c, E', B', Q, nL⟩ := Γ
  obtain ⟨rfl, rfl, hx, hb, hown, hts, hK, hml, hA, rfl⟩ := K
  exact fun H locs ls hP hS hl => lv_ifnull hx hb hd (k H locs ls hP hS hl)
theorem x_ifnonnull {x : Nat} {off : Int} {tgt : Nat} (K : Cx Γ E B cc own Ts rm) (hd : decode cc pc = .ok (.ifnonnull off, 3)) (ht : (pc : Int) + off = (tgt : Int)) (k : XW Γ N v L kc ks tgt st) : XW Γ N v L kc ks pc (.ref x :: st) := by
  obtain ⟨p, l, e, R, s, m, args, below, meth, c, E', B', Q, nL⟩ := Γ
  obtain ⟨rfl, rfl, hx, hb, hown, hts, hK, hml, hA, rfl⟩ := K
  exact fun H locs ls hP hS hl => lv_ifnonnull hx hb hd ht (k H locs ls hP hS hl)
theorem x_ifnullN {off : Int} {tgt : Nat} (K : Cx Γ E B cc own Ts rm) (hd : decode cc pc = .ok (.ifnull off, 3)) (ht : (pc : Int) + off = (tgt : Int)) (k : XW Γ N v L kc ks tgt st) : XW Γ N v L kc ks pc (.null :: st) := by
  obtain ⟨p, l, e, R, s, m, args, below, meth, c, E', B', Q, nL⟩ := Γ
  obtain ⟨rfl, rfl, hx, hb, hown, hts, hK, hml, hA, rfl⟩ := K
  exact fun H locs ls hP hS hl => lv_ifnullN hx hb hd ht (k H locs ls hP hS hl)
theorem x_ifnonnullN {off : Int} (K : Cx Γ E B cc own Ts rm) (hd : decode cc pc = .ok (.ifnonnull off, 3)) (k : XW Γ N v L kc ks (pc + 3) st) : XW Γ N v L kc ks pc (.null :: st) := by
  obtain ⟨p, l, e, R, s, m, args, below, meth, c, E', B', Q, nL⟩ := Γ
  obtain ⟨rfl, rfl, hx, hb, hown, hts, hK, hml, hA, rfl⟩ := K
  exact fun H locs ls hP hS hl => lv_ifnonnullN hx hb hd (k H locs ls hP hS hl)
theorem x_sub {L' : List (Nat × Value)} (is : List Nat) (h : lv_pick L is = L') (k : XW Γ N v L' kc ks pc st) : XW Γ N v L kc ks pc st := by
  obtain ⟨p, l, e, R, s, m, args, below, meth, c, E', B', Q, nL⟩ := Γ
  exact fun H locs ls hP hS hl => k H locs ls hP hS (lv_sub hl is h)
theorem x_v {w : Nat → va_E} (h : w = v) (k : XW Γ N w L kc ks pc st) : XW Γ N v L kc ks pc st := h ▸ k
theorem x_st {st' : List Value} (h : st' = st) (k : XW Γ N v L kc ks pc st') : XW Γ N v L kc ks pc st := h ▸ k
theorem x_widen {kc' ks' : Nat} (h1 : kc ≤ kc') (h2 : ks ≤ ks') (k : XW Γ N v L kc' ks' pc st) : XW Γ N v L kc ks pc st := by
  obtain ⟨p, l, e, R, s, m, args, below, meth, c, E', B', Q, nL⟩ := Γ
  exact fun H locs ls hP hS hl => W.widen h1 h2 (k H locs ls hP hS hl)
/-- an array's values behind its length are nobody's -/
theorem x_iext {c n : Nat} {g g' : Nat → Int} (K : Cx Γ E B cc own Ts rm) (hv : Cel N v c (iarr E n g)) (h : ∀ k, k < n → g' k = g k) (k : XW Γ N (va_up v c (iarr E n g')) L kc ks pc st) : XW Γ N v L kc ks pc st := by
  obtain ⟨p, l, e, R, s, m, args, below, meth, c0, E', B', Q, nL⟩ := Γ
  obtain ⟨rfl, rfl, hx, hb, hown, hts, hK, hml, hA, rfl⟩ := K
  refine fun H locs ls hP hS hl => k H locs ls (gP_set hP rfl ?_ (fun _ _ => rfl)) hS hl
  have h0 := hP.2 c hv.1
  rw [hv.2] at h0
  have e0 : (vp_cell (E'.2.1 0) (n, .inl (fun k => zI (g' k)))) = vp_cell (E'.2.1 0) (n, .inl (fun k => zI (g k))) := x_arr_ext (fun j hj => by rw [h j hj])
  show H[_]? = some (vp_cell (E'.2.1 0) (n, .inl (fun k => zI (g' k))))
  rw [e0]
  exact h0
theorem x_bext {c n : Nat} {g g' : Nat → Int} (K : Cx Γ E B cc own Ts rm) (hv : Cel N v c (barr E n g)) (h : ∀ k, k < n → g' k = g k) (k : XW Γ N (va_up v c (barr E n g')) L kc ks pc st) : XW Γ N v L kc ks pc st := by
  obtain ⟨p, l, e, R, s, m, args, below, meth, c0, E', B', Q, nL⟩ := Γ
  obtain ⟨rfl, rfl, hx, hb, hown, hts, hK, hml, hA, rfl⟩ := K
  refine fun H locs ls hP hS hl => k H locs ls (gP_set hP rfl ?_ (fun _ _ => rfl)) hS hl
  have h0 := hP.2 c hv.1
  rw [hv.2] at h0
  have e0 : (vp_cell (E'.2.1 1) (n, .inl (fun k => zI (g' k)))) = vp_cell (E'.2.1 1) (n, .inl (fun k => zI (g k))) := x_arr_ext (fun j hj => by rw [h j hj])
  show H[_]? = some (vp_cell (E'.2.1 1) (n, .inl (fun k => zI (g' k))))
  rw [e0]
  exact h0
theorem x_rext {c t n : Nat} {g g' : Nat → Option Nat} (K : Cx Γ E B cc own Ts rm) (hv : Cel N v c (rarr E t n B g)) (h : ∀ k, k < n → g' k = g k) (k : XW Γ N (va_up v c (rarr E t n B g')) L kc ks pc st) : XW Γ N v L kc ks pc st := by
  obtain ⟨p, l, e, R, s, m, args, below, meth, c0, E', B', Q, nL⟩ := Γ
  obtain ⟨rfl, rfl, hx, hb, hown, hts, hK, hml, hA, rfl⟩ := K
  refine fun H locs ls hP hS hl => k H locs ls (gP_set hP rfl ?_ (fun _ _ => rfl)) hS hl
  have h0 := hP.2 c hv.1
  rw [hv.2] at h0
  have e0 : (vp_cell (E'.2.1 t) (n, .inr (.inr (.inr (.inr (fun k => (g' k).map (fun c => B' + c))))))) = vp_cell (E'.2.1 t) (n, .inr (.inr (.inr (.inr (fun k => (g k).map (fun c => B' + c)))))) := x_rarr_ext (fun j hj => by rw [h j hj])
  show H[_]? = some (vp_cell (E'.2.1 t) (n, .inr (.inr (.inr (.inr (fun k => (g' k).map (fun c => B' + c)))))))
  rw [e0]
  exact h0

theorem x_get {C : String} {T : u_T} {n ci idx : Nat} {ref : String} {c : Nat} {fs : List Value} {x : Value} (K : Cx Γ E B cc own Ts rm) (hv : Cel N v c (.inr (ci, fs))) (hc : vwCl[ci]? = some (C, T, n)) (hin : ∀ w ∈ u_ws C T n, w ∈ Ts) (k9 : Nat) (hk : k9 < n) (hlink : Cond.fieldLink own idx ref (T k9).2.1 (T k9).2.2.1 ∈ Ts) (hsame : (T k9).1 = ref) (hf : fs[k9]? = some x) (hd : decode cc pc = .ok (.getfield idx, 3)) (k : XW Γ N v L kc ks (pc + 3) (x :: st)) : XW Γ N v L kc ks pc (.ref (B + c) :: st) := by
  obtain ⟨p, l, e, R, s, m, args, below, meth, c0, E', B', Q, nL⟩ := Γ
  obtain ⟨rfl, rfl, hx, hb, hown, hts, hK, hml, hA, rfl⟩ := K
  refine fun H locs ls hP hS hl => va_get (ws := [(B' + c, .inr (ci, fs))]) hx hb hts hin hown hK (fun k q hq => ?_) 0 rfl hc k9 hk (hts _ hlink) (fun _ h9 => hsame ▸ h9) hf hd (k H locs ls hP hS hl)
  have h0 := hP.2 c hv.1
  rw [hv.2] at h0
  match k, hq with
  | 0, hq => cases hq; exact h0
  | k + 1, hq => simp at hq
theorem x_getN {C : String} {T : u_T} {n ci idx : Nat} {ref : String} {c : Nat} {fs : List Value} {x : Value} {host : String} (K : Cx Γ E B cc own Ts rm) (hv : Cel N v c (.inr (ci, fs))) (hc : vwCl[ci]? = some (C, T, n)) (hin : ∀ w ∈ u_ws C T n, w ∈ Ts) (k9 : Nat) (hk : k9 < n) (hlink : Cond.fieldLinkNest own idx ref (T k9).2.1 (T k9).2.2.1 host ∈ Ts) (hsame : (T k9).1 = ref) (hf : fs[k9]? = some x) (hd : decode cc pc = .ok (.getfield idx, 3)) (k : XW Γ N v L kc ks (pc + 3) (x :: st)) : XW Γ N v L kc ks pc (.ref (B + c) :: st) := by
  obtain ⟨p, l, e, R, s, m, args, below, meth, c0, E', B', Q, nL⟩ := Γ
  obtain ⟨rfl, rfl, hx, hb, hown, hts, hK, hml, hA, rfl⟩ := K
  refine fun H locs ls hP hS hl => va_getN (ws := [(B' + c, .inr (ci, fs))]) hx hb hts hin hown hK (fun k q hq => ?_) 0 rfl hc k9 hk (hts _ hlink) (fun _ h9 => hsame ▸ h9) hf hd (k H locs ls hP hS hl)
  have h0 := hP.2 c hv.1
  rw [hv.2] at h0
  match k, hq with
  | 0, hq => cases hq; exact h0
  | k + 1, hq => simp at hq
theorem x_put {C : String} {T : u_T} {n ci idx : Nat} {ref : String} {c : Nat} {fs : List Value} {x : Value} {ty : FieldType} (K : Cx Γ E B cc own Ts rm) (hv : Cel N v c (.inr (ci, fs))) (hc : vwCl[ci]? = some (C, T, n)) (hin : ∀ w ∈ u_ws C T n, w ∈ Ts) (ty0 : Nat → FieldType) (hty : ∀ k, k < n → parseFieldDescriptor (T k).2.2.1 = some (ty0 k)) (hnm : ∀ a, a < n → ∀ b, b < n → a ≠ b → (T a).2.1 ≠ (T b).2.1) (k9 : Nat) (hk : k9 < n) (hlink : Cond.fieldLink own idx ref (T k9).2.1 (T k9).2.2.1 ∈ Ts) (hsame : (T k9).1 = ref) (hfin : (T k9).2.2.2 = false) (hdx : parseFieldDescriptor (T k9).2.2.1 = some ty) (hn : narrow ty x = x) (hfit : fits ty x = true) (hlen : k9 < fs.length) (hd : decode cc pc = .ok (.putfield idx, 3)) (k : XW Γ N (va_up v c (.inr (ci, fs.set k9 x))) L kc ks (pc + 3) st) : XW Γ N v L kc ks pc (x :: .ref (B + c) :: st) := by
  obtain ⟨p, l, e, R, s, m, args, below, meth, c0, E', B', Q, nL⟩ := Γ
  obtain ⟨rfl, rfl, hx, hb, hown, hts, hK, hml, hA, rfl⟩ := K
  intro H locs ls hP hS hl
  have hap := va_apart (own := own) hts hin ty0 hty hnm hK hc
  have h0 := hP.2 c hv.1
  rw [hv.2] at h0
  obtain ⟨r, h1, cell, q1, q2, q3, q4⟩ := h0
  have hr : r = (C, T, n) := Option.some.inj (h1.symm.trans hc)
  subst hr
  obtain ⟨hSl, hfc, kC, hkC, hkind⟩ := hK.1 ci _ hc
  obtain ⟨cf, kf, fi, f, hi, hsl⟩ := hSl k9 hk
  have hlay := hts _ (hin _ (u_in_lay hk))
  unfold u_lay at hlay
  rw [if_neg (by rw [hfin]; decide)] at hlay
  have hst := (u_facts hfc hkC (u_lays hts hin hk) hi).1
  have h6 := u_store hfc hkC hkind hlay hi hdx hn hfit
  refine W.putK hx hb (f := f) ⟨hown, hts _ hlink, ⟨_, _, _, hsame ▸ hi⟩, hst⟩ (by rw [q2]; exact h6) q1 q3 (by rw [hsl]; exact k2_hasslot (q4 k9 hk)) rfl rfl hd fun H' e1 e2 e3 => ?_
  rw [hsl] at e1 ⊢
  exact k H' _ ls (gP_set hP e2 ⟨_, hc, t_OB.to (V := updV (vp_V fs) k9 x) ⟨_, e1, q2, q3, t_set q4 hap hk x⟩ (fun j _ => vp_updV_set hlen x j)⟩ e3) (hS.put e2 e3 (Nat.le_add_right _ _)) hl
theorem x_putN {C : String} {T : u_T} {n ci idx : Nat} {ref : String} {c : Nat} {fs : List Value} {x : Value} {ty : FieldType} {host : String} (K : Cx Γ E B cc own Ts rm) (hv : Cel N v c (.inr (ci, fs))) (hc : vwCl[ci]? = some (C, T, n)) (hin : ∀ w ∈ u_ws C T n, w ∈ Ts) (ty0 : Nat → FieldType) (hty : ∀ k, k < n → parseFieldDescriptor (T k).2.2.1 = some (ty0 k)) (hnm : ∀ a, a < n → ∀ b, b < n → a ≠ b → (T a).2.1 ≠ (T b).2.1) (k9 : Nat) (hk : k9 < n) (hlink : Cond.fieldLinkNest own idx ref (T k9).2.1 (T k9).2.2.1 host ∈ Ts) (hsame : (T k9).1 = ref) (hfin : (T k9).2.2.2 = false) (hdx : parseFieldDescriptor (T k9).2.2.1 = some ty) (hn : narrow ty x = x) (hfit : fits ty x = true) (hlen : k9 < fs.length) (hd : decode cc pc = .ok (.putfield idx, 3)) (k : XW Γ N (va_up v c (.inr (ci, fs.set k9 x))) L kc ks (pc + 3) st) : XW Γ N v L kc ks pc (x :: .ref (B + c) :: st) := by
  obtain ⟨p, l, e, R, s, m, args, below, meth, c0, E', B', Q, nL⟩ := Γ
  obtain ⟨rfl, rfl, hx, hb, hown, hts, hK, hml, hA, rfl⟩ := K
  intro H locs ls hP hS hl
  have hap := va_apart (own := own) hts hin ty0 hty hnm hK hc
  have h0 := hP.2 c hv.1
  rw [hv.2] at h0
  obtain ⟨r, h1, cell, q1, q2, q3, q4⟩ := h0
  have hr : r = (C, T, n) := Option.some.inj (h1.symm.trans hc)
  subst hr
  obtain ⟨hSl, hfc, kC, hkC, hkind⟩ := hK.1 ci _ hc
  obtain ⟨cf, kf, fi, f, hi, hsl⟩ := hSl k9 hk
  have hlay := hts _ (hin _ (u_in_lay hk))
  unfold u_lay at hlay
  rw [if_neg (by rw [hfin]; decide)] at hlay
  have hst := (u_facts hfc hkC (u_lays hts hin hk) hi).1
  have h6 := u_store hfc hkC hkind hlay hi hdx hn hfit
  refine va_WputK hx hb (f := f) hown (hts _ hlink) (hsame ▸ hi) hst (by rw [q2]; exact h6) q1 q3 (by rw [hsl]; exact k2_hasslot (q4 k9 hk)) rfl rfl hd fun H' e1 e2 e3 => ?_
  rw [hsl] at e1 ⊢
  exact k H' _ ls (gP_set hP e2 ⟨_, hc, t_OB.to (V := updV (vp_V fs) k9 x) ⟨_, e1, q2, q3, t_set q4 hap hk x⟩ (fun j _ => vp_updV_set hlen x j)⟩ e3) (hS.put e2 e3 (Nat.le_add_right _ _)) hl
theorem x_putF {C : String} {T : u_T} {n ci idx : Nat} {ref : String} {c : Nat} {fs : List Value} {x : Value} {ty : FieldType} (K : Cx Γ E B cc own Ts rm) (hv : Cel N v c (.inr (ci, fs))) (hc : vwCl[ci]? = some (C, T, n)) (hin : ∀ w ∈ u_ws C T n, w ∈ Ts) (ty0 : Nat → FieldType) (hty : ∀ k, k < n → parseFieldDescriptor (T k).2.2.1 = some (ty0 k)) (hnm : ∀ a, a < n → ∀ b, b < n → a ≠ b → (T a).2.1 ≠ (T b).2.1) (k9 : Nat) (hk : k9 < n) (hlink : Cond.fieldLink own idx ref (T k9).2.1 (T k9).2.2.1 ∈ Ts) (hsame : (T k9).1 = ref) (hfin : (T k9).2.2.2 = true) (hin2 : Γ.2.2.2.2.2.2.2.2.1.name = "<init>") (hdecl : (T k9).1 = own) (hdx : parseFieldDescriptor (T k9).2.2.1 = some ty) (hn : narrow ty x = x) (hfit : fits ty x = true) (hlen : k9 < fs.length) (hd : decode cc pc = .ok (.putfield idx, 3)) (k : XW Γ N (va_up v c (.inr (ci, fs.set k9 x))) L kc ks (pc + 3) st) : XW Γ N v L kc ks pc (x :: .ref (B + c) :: st) := by
  obtain ⟨p, l, e, R, s, m, args, below, meth, c0, E', B', Q, nL⟩ := Γ
  obtain ⟨rfl, rfl, hx, hb, hown, hts, hK, hml, hA, rfl⟩ := K
  intro H locs ls hP hS hl
  have hap := va_apart (own := own) hts hin ty0 hty hnm hK hc
  have h0 := hP.2 c hv.1
  rw [hv.2] at h0
  obtain ⟨r, h1, cell, q1, q2, q3, q4⟩ := h0
  have hr : r = (C, T, n) := Option.some.inj (h1.symm.trans hc)
  subst hr
  obtain ⟨hSl, hfc, kC, hkC, hkind⟩ := hK.1 ci _ hc
  obtain ⟨cf, kf, fi, f, hi, hsl⟩ := hSl k9 hk
  have hlay := hts _ (hin _ (u_in_lay hk))
  unfold u_lay at hlay
  rw [if_pos hfin] at hlay
  have hst := (u_facts hfc hkC (u_lays hts hin hk) hi).1
  have hcf : m.cls = cf := by
    obtain ⟨_, _, c', _, _, _, -, -, hf', -, -, -, hown2, -⟩ := Cond.laysFinal_spec hlay
    have e1 : c' = cf := by have := hi.symm.trans hf'; simp at this; exact this.1.symm
    rw [hdecl] at hown2
    rw [← e1]; exact Option.some.inj (hown.symm.trans hown2)
  have h6 := u_fits hfc hkC hkind (Or.inr hlay) hi hdx hn hfit
  refine W.putFinK hx hb hown (hts _ hlink) (hsame ▸ hi) hst hcf hin2 (by rw [q2]; exact h6) q1 q3 (by rw [hsl]; exact k2_hasslot (q4 k9 hk)) rfl rfl hd fun H' e1 e2 e3 => ?_
  rw [hsl] at e1 ⊢
  exact k H' _ ls (gP_set hP e2 ⟨_, hc, t_OB.to (V := updV (vp_V fs) k9 x) ⟨_, e1, q2, q3, t_set q4 hap hk x⟩ (fun j _ => vp_updV_set hlen x j)⟩ e3) (hS.put e2 e3 (Nat.le_add_right _ _)) hl
theorem x_iald {c n : Nat} {g : Nat → Int} {i : Int} (j : Nat) (K : Cx Γ E B cc own Ts rm) (hv : Cel N v c (iarr E n g)) (hi : i = (j : Int)) (hj : j < n) (hn : n < 2147483648) (hd : decode cc pc = .ok (.iaload, 1)) (k : XW Γ N v L kc ks (pc + 1) (.int (zI (g j)) :: st)) : XW Γ N v L kc ks pc (.int (zI i) :: .ref (B + c) :: st) := by
  obtain ⟨p, l, e, R, s, m, args, below, meth, c0, E', B', Q, nL⟩ := Γ
  obtain ⟨rfl, rfl, hx, hb, hown, hts, hK, hml, hA, rfl⟩ := K
  intro H locs ls hP hS hl
  have h0 := hP.2 c hv.1
  rw [hv.2] at h0
  refine va_iald (ws := [(B' + c, iarr E' n g)]) (tys := xT E'.2.1) hx hb hK (fun k q hq => ?_) 0 0 rfl rfl (zI_in hi hn hj) hd ?_
  · match k, hq with
    | 0, hq => cases hq; exact h0
    | k + 1, hq => simp at hq
  · rw [zI_cl hi (by omega)]
    exact k H locs ls hP hS hl
theorem x_zald {c n : Nat} {g : Nat → Int} {i : Int} (j : Nat) (K : Cx Γ E B cc own Ts rm) (hv : Cel N v c (barr E n g)) (hi : i = (j : Int)) (hj : j < n) (hn : n < 2147483648) (hd : decode cc pc = .ok (.baload, 1)) (k : XW Γ N v L kc ks (pc + 1) (.int (zI (g j)) :: st)) : XW Γ N v L kc ks pc (.int (zI i) :: .ref (B + c) :: st) := by
  obtain ⟨p, l, e, R, s, m, args, below, meth, c0, E', B', Q, nL⟩ := Γ
  obtain ⟨rfl, rfl, hx, hb, hown, hts, hK, hml, hA, rfl⟩ := K
  intro H locs ls hP hS hl
  have h0 := hP.2 c hv.1
  rw [hv.2] at h0
  refine va_zald (ws := [(B' + c, barr E' n g)]) (tys := xT E'.2.1) hx hb hK (fun k q hq => ?_) 0 1 rfl rfl (zI_in hi hn hj) hd ?_
  · match k, hq with
    | 0, hq => cases hq; exact h0
    | k + 1, hq => simp at hq
  · rw [zI_cl hi (by omega)]
    exact k H locs ls hP hS hl
theorem x_aald {c n t : Nat} {ty : FieldType} {g : Nat → Option Nat} {i : Int} (j : Nat) (K : Cx Γ E B cc own Ts rm) (hv : Cel N v c (rarr E t n B g)) (ht : (xT E.2.1)[t]? = some (E.2.1 t, ty)) (hty : ty.isReference = true) (hi : i = (j : Int)) (hj : j < n) (hn : n < 2147483648) (hd : decode cc pc = .ok (.aaload, 1)) (k : XW Γ N v L kc ks (pc + 1) (rf B (g j) :: st)) : XW Γ N v L kc ks pc (.int (zI i) :: .ref (B + c) :: st) := by
  obtain ⟨p, l, e, R, s, m, args, below, meth, c0, E', B', Q, nL⟩ := Γ
  obtain ⟨rfl, rfl, hx, hb, hown, hts, hK, hml, hA, rfl⟩ := K
  intro H locs ls hP hS hl
  have h0 := hP.2 c hv.1
  rw [hv.2] at h0
  have hin := zI_in hi hn hj
  have hk := k H locs ls hP hS hl
  rw [← rf_eq] at hk
  refine W.aald (v := va_rf ((g j).map (fun c => B' + c))) (ty := ty) hx hb h0 ((hK.2 t _ ht).1 n (fun j => va_rf ((g j).map (fun c => B' + c)))) hty (fun q => by cases q) (by show ¬ (zI i < 0 ∨ (arrV _ _ _).slots.size ≤ _); rw [arrV_size]; exact hin) (by show (arrV _ _ _).slots[_]? = _; rw [zI_cl hi (by omega), arrV_read _ _ hj]) rfl rfl hd hk
theorem x_iast {c n : Nat} {g : Nat → Int} {i x : Int} (j : Nat) (K : Cx Γ E B cc own Ts rm) (hv : Cel N v c (iarr E n g)) (hi : i = (j : Int)) (hj : j < n) (hn : n < 2147483648)  (hd : decode cc pc = .ok (.iastore, 1)) (k : XW Γ N (va_up v c (iarr E n (va_up g j x))) L kc ks (pc + 1) st) : XW Γ N v L kc ks pc (.int (zI x) :: .int (zI i) :: .ref (B + c) :: st) := by
  obtain ⟨p, l, e, R, s, m, args, below, meth, c0, E', B', Q, nL⟩ := Γ
  obtain ⟨rfl, rfl, hx, hb, hown, hts, hK, hml, hA, rfl⟩ := K
  intro H locs ls hP hS hl
  have h0 := hP.2 c hv.1
  rw [hv.2] at h0
  have hin := zI_in hi hn hj
  refine W.iast hx hb h0 ((hK.2 0 _ rfl).1 n (fun j => .int (zI (g j)))) (fun q => by cases q) (by show ¬ (zI i < 0 ∨ (arrV _ _ _).slots.size ≤ _); rw [arrV_size]; exact hin) rfl rfl hd fun H1 e z oq => ?_
  refine k H1 _ ls (gP_set hP z ?_ oq) (hS.put z oq (Nat.le_add_right _ _)) hl
  show H1[B' + c]? = some (vp_cell (E'.2.1 0) (n, .inl (fun k => zI (va_up g j x k))))
  rw [e, zI_cl hi (by omega)]
  rw [vp_cell_i, vp_cell_i, arrV_store]
  congr 2
  funext q
  by_cases hq : q = j
  · subst hq
    simp [updV, va_up]
    
  · simp [updV, va_up, hq]
theorem x_zast {c n : Nat} {g : Nat → Int} {i x : Int} (j : Nat) (K : Cx Γ E B cc own Ts rm) (hv : Cel N v c (barr E n g)) (hi : i = (j : Int)) (hj : j < n) (hn : n < 2147483648) (hx9 : narrow .boolean (.int (zI x)) = .int (zI x)) (hd : decode cc pc = .ok (.bastore, 1)) (k : XW Γ N (va_up v c (barr E n (va_up g j x))) L kc ks (pc + 1) st) : XW Γ N v L kc ks pc (.int (zI x) :: .int (zI i) :: .ref (B + c) :: st) := by
  obtain ⟨p, l, e, R, s, m, args, below, meth, c0, E', B', Q, nL⟩ := Γ
  obtain ⟨rfl, rfl, hx, hb, hown, hts, hK, hml, hA, rfl⟩ := K
  intro H locs ls hP hS hl
  have h0 := hP.2 c hv.1
  rw [hv.2] at h0
  have hin := zI_in hi hn hj
  refine W.zast hx hb h0 ((hK.2 1 _ rfl).1 n (fun j => .int (zI (g j)))) (fun q => by cases q) (by show ¬ (zI i < 0 ∨ (arrV _ _ _).slots.size ≤ _); rw [arrV_size]; exact hin) rfl rfl hd fun H1 e z oq => ?_
  refine k H1 _ ls (gP_set hP z ?_ oq) (hS.put z oq (Nat.le_add_right _ _)) hl
  show H1[B' + c]? = some (vp_cell (E'.2.1 1) (n, .inl (fun k => zI (va_up g j x k))))
  rw [e, zI_cl hi (by omega)]
  rw [vp_cell_i, vp_cell_i, arrV_store]
  congr 2
  funext q
  by_cases hq : q = j
  · subst hq
    simp [updV, va_up]
    exact hx9
  · simp [updV, va_up, hq]
theorem x_aast {c n t ci d : Nat} {r : vw_C} {vs : List Value} {g : Nat → Option Nat} {i : Int} (j : Nat) (K : Cx Γ E B cc own Ts rm) (hv : Cel N v c (rarr E t n B g)) (hw : Cel N v d (.inr (ci, vs))) (ht : (xT E.2.1)[t]? = some (E.2.1 t, .object r.1)) (hc : vwCl[ci]? = some r) (hi : i = (j : Int)) (hj : j < n) (hn : n < 2147483648) (hd : decode cc pc = .ok (.aastore, 1)) (k : XW Γ N (va_up v c (rarr E t n B (va_up g j (some d)))) L kc ks (pc + 1) st) : XW Γ N v L kc ks pc (.ref (B + d) :: .int (zI i) :: .ref (B + c) :: st) := by
  obtain ⟨p, l, e, R, s, m, args, below, meth, c0, E', B', Q, nL⟩ := Γ
  obtain ⟨rfl, rfl, hx, hb, hown, hts, hK, hml, hA, rfl⟩ := K
  intro H locs ls hP hS hl
  have h0 := hP.2 c hv.1
  rw [hv.2] at h0
  have hin := zI_in hi hn hj
  have h9 := hP.2 d hw.1
  rw [hw.2] at h9
  obtain ⟨r', hr', cellV, g1, g2, g3, -⟩ := h9
  have hcls := (hK.1 ci r hc).2
  obtain ⟨kA, comp, k1, k2, k3, -⟩ := (hK.2 t _ ht).2
  have hcomp : comp = E'.1.1 ci := Option.some.inj (k3.symm.trans hcls.1)
  subst hcomp
  obtain ⟨kC, hkC, -⟩ := hcls.2
  refine W.aast hx hb h0 (fun q h => by cases h) (fun h => by cases h) k1 k2 rfl hkC ⟨fun q => hin (Or.inl q), by show _ < (arrV _ _ _).slots.size; rw [arrV_size]; exact Nat.not_le.mp fun q => hin (Or.inr q)⟩ g1 (fun q h => by rw [g3] at h; cases h) (by rw [g2]; exact hkC) (by rw [g2]; exact va_assign hcls) rfl rfl hd fun H1 e z oq => ?_
  refine k H1 _ ls (gP_set hP z ?_ oq) (hS.put z oq (Nat.le_add_right _ _)) hl
  show H1[B' + c]? = some (vp_cell (E'.2.1 t) (n, .inr (.inr (.inr (.inr (fun k => (va_up g j (some d) k).map (fun c => B' + c)))))))
  rw [e, zI_cl hi (by omega)]
  rw [vp_cell_q, vp_cell_q, arrV_store]
  congr 2
  funext q
  by_cases hq : q = j
  · subst hq
    simp [updV, va_up, va_rf]
  · simp [updV, va_up, hq]
end XRules
/-! contracts, calls, ends, making -/
def gPre (E : XE) (B N : Nat) (v : Nat → va_E) : State → Prop := fun U => gP E B N v U.heap ∧ va_K E.1 vwCl (xT E.2.1) U ∧ gI E B U
def gQ (E : XE) (B N : Nat) (po : Option Value → Nat → (Nat → va_E) → Prop) : Array Value → State → Outcome → State → Prop := fun _ st oc t => (∃ (r : Option Value) (N' : Nat) (v' : Nat → va_E), oc = .returned r ∧ po r N' v' ∧ N ≤ N' ∧ gP E B N' v' t.heap) ∧ va_F (fun q => B ≤ q) st t
/-- a contract: from every heap that holds v, the method y at these values comes back, and po holds of the answer and of what the heap holds then -/
def gM (y : MethodName) (ws : List Cond) (rm : Room) (E : XE) (B N : Nat) (v : Nat → va_E) (As : List Value) (po : Option Value → Nat → (Nat → va_E) → Prop) : Prop := ∀ l : Launch, Met l y ws rm (va_Pc As (gPre E B N v)) (gQ E B N po) rm.cells rm.slots (fun q => B ≤ q)
/-- the post of a method that makes nothing -/
def po0 (N : Nat) (q : Option Value → (Nat → va_E) → Prop) : Option Value → Nat → (Nat → va_E) → Prop := fun r N' v' => N = N' ∧ q r v'
theorem gPre_blind {E : XE} {B N : Nat} {v : Nat → va_E} {As : List Value} : FrameBlind (va_Pc As (gPre E B N v)) := fun a U g mk q => by
  obtain ⟨q0, qP, qK, qI⟩ := q
  exact ⟨q0, qP, va_K.moved (u := U) (U := U.calling g mk a) (Vm.Alike.refl U.vm) qK, gI_same (u := U) (U := U.calling g mk a) qI rfl rfl⟩
section XRun
variable {p : Program} {l : Launch} {e : Env} {R : Room} {s : State} {m : MethodId} {args : Array Value} {below : List Frame} {meth : Method} {c : Code} {H : Heap} {locs : List Loc} {cells slots : Nat} {Q : State → Prop}
theorem x_run {E : XE} {B N mc ms pc : Nat} {ls : Array Slot} {rest st0 : List Value} {a : Array Value} {po : Option Value → Nat → (Nat → va_E) → Prop} (hr : va_Run p l e R s m args below meth c H locs cells slots mc ms (F0 m pc ls st0) rest (gQ E B N po a) (fun q => B ≤ q)) (hS : va_S (fun q => B ≤ q) s.heap H locs)
    (kk : ∀ (r : Option Value) (N' : Nat) (v' : Nat → va_E) (H1 : Heap) (locs1 : List Loc), po r N' v' → N ≤ N' → gP E B N' v' H1 → va_S (fun q => B ≤ q) s.heap H1 locs1 → W p l e R s m args below meth c H1 locs1 (cells + mc) (slots + ms) Q (F0 m (pc + 3) ls (r.toList ++ rest))) : W p l e R s m args below meth c H locs cells slots Q (F0 m pc ls st0) := by
  intro T hT X
  obtain ⟨v, st₀, t, T', L, h0, X', hL, e1, e2, ⟨⟨r, N', v', hv, hp, hN, hP1⟩, hz, hk⟩, st⟩ := hr T hT X
  cases hv
  rw [h0] at hz hk
  obtain ⟨t2, a1, b1⟩ := kk v N' v' T'.heap (locs ++ L) hp hN (by rw [e1]; exact hP1)
    ⟨Nat.le_trans hS.1 (by rw [e1]; exact hz), fun q h1 h2 => by rw [e1, hk q (Nat.lt_of_lt_of_le h1 hS.1) h2]; exact hS.2.1 q h1 h2, fun q hq => by
      rcases List.mem_append.mp hq with h | h
      · exact hS.2.2 q h
      · exact hL q h⟩ T' rfl X'
  exact ⟨t2, st t2 a1, b1⟩
end XRun
section XCalls
variable {Γ : XT} {E : XE} {B : Nat} {cc : ByteArray} {own : String} {Ts : List Cond} {rm : Room} {N : Nat} {v : Nat → va_E} {L : List (Nat × Value)} {kc ks pc : Nat} {st st0 : List Value}
variable {y : MethodName} {ws ws' : List Cond} {rmc : Room} {bytes : ByteArray} {maxL : Nat} {ret : Option FieldType} {As : List Value} {po : Option Value → Nat → (Nat → va_E) → Prop} {idx : Nat}
theorem x_recv {s : State} {H : Heap} {C : String} {T : u_T} {n ci c : Nat} {fs : List Value} (hK : va_K E.1 vwCl (xT E.2.1) s) (hP : gP E B N v H) (hv : Cel N v c (.inr (ci, fs))) (hc : vwCl[ci]? = some (C, T, n)) : ∃ cell : Cell, H[B + c]? = some cell ∧ cell.vm.isStatics = false ∧ s.vm.findClass C = some cell.cls := by
  have h0 := hP.2 c hv.1
  rw [hv.2] at h0
  obtain ⟨q', h1, cell, g1, g2, g3, -⟩ := h0
  exact ⟨cell, g1, by rw [g3]; rfl, by rw [g2]; exact (hK.1 ci _ hc).2.1⟩
theorem x_callV {na : Nat} {C : String} {T : u_T} {n ci c : Nat} {fs : List Value} (K : Cx Γ E B cc own Ts rm) (hM : gM y ws rmc E B N v (.ref (B + c) :: As) po) (hT : GoodIn Ts (wsV own idx C y ws)) (hw : ws = Cond.code y bytes maxL ret :: ws') (hdd : y.cls = C ∧ y.cls ≠ "java/lang/invoke/MethodHandle" ∧ y.cls ≠ "java/lang/invoke/VarHandle" ∧ (parseMethodDescriptor y.desc).map (fun d => d.parameters.length) = some na) (hna : As.length = na) (hR : rmc.frames + 1 ≤ rm.frames ∧ 8 + (maxL + 11) + rmc.locals ≤ rm.locals) (hv : Cel N v c (.inr (ci, fs))) (hc : vwCl[ci]? = some (C, T, n)) (hst : st0 = As.reverse ++ .ref (B + c) :: st) (hroom : (st.map fun v => v.category).sum ≤ 8) (hcs : kc + rmc.cells ≤ rm.cells ∧ ks + rmc.slots ≤ rm.slots) (hd : decode cc pc = .ok (.invokevirtual idx, 3))
    (k : ∀ r N' v', po r N' v' → N ≤ N' → XW Γ N' v' L (kc + rmc.cells) (ks + rmc.slots) (pc + 3) (r.toList ++ st)) : XW Γ N v L kc ks pc st0 := by
  subst hst
  subst hna
  obtain ⟨p, l, e, R, s, m, args, below, meth, c0, E', B', Q, nL⟩ := Γ
  obtain ⟨rfl, rfl, hx, hb, hown, hts, hK, hml, hA, rfl⟩ := K
  intro H locs ls hP hS hl
  refine x_run (va_runV (As := As) (rest := st) ⟨hx, hb, hml, hown, hts⟩ (hM l) (cwV As.length hts hT hw rfl rfl hdd hR) ⟨gPre_blind, x_recv hK hP hv hc, fun U hU hW => ⟨rfl, by rw [hU]; exact hP, va_K.moved hW.alike hK, gI_tr hA.2 hW hS hU⟩⟩ rfl rfl hl.1 rfl (lv_room hroom) hd hcs) hS (fun r N' v' H1 locs1 h1 h2 h3 h4 => k r N' v' h1 h2 H1 locs1 ls h3 h4 hl)
theorem x_callS {na : Nat} (K : Cx Γ E B cc own Ts rm) (hM : gM y ws rmc E B N v As po) (hT : GoodIn Ts (wsS own idx y ws)) (hw : ws = Cond.code y bytes maxL ret :: ws') (hdd : y.cls = own ∧ y.cls ≠ "java/lang/invoke/MethodHandle" ∧ y.cls ≠ "java/lang/invoke/VarHandle" ∧ (parseMethodDescriptor y.desc).map (fun d => d.parameters.length) = some na) (hna : As.length = na) (hR : rmc.frames + 1 ≤ rm.frames ∧ 8 + (maxL + 11) + rmc.locals ≤ rm.locals) (hst : st0 = As.reverse ++ st) (hroom : (st.map fun v => v.category).sum ≤ 8) (hcs : kc + rmc.cells ≤ rm.cells ∧ ks + rmc.slots ≤ rm.slots) (hd : decode cc pc = .ok (.invokestatic idx, 3))
    (k : ∀ r N' v', po r N' v' → N ≤ N' → XW Γ N' v' L (kc + rmc.cells) (ks + rmc.slots) (pc + 3) (r.toList ++ st)) : XW Γ N v L kc ks pc st0 := by
  subst hst
  subst hna
  obtain ⟨p, l, e, R, s, m, args, below, meth, c0, E', B', Q, nL⟩ := Γ
  obtain ⟨rfl, rfl, hx, hb, hown, hts, hK, hml, hA, rfl⟩ := K
  intro H locs ls hP hS hl
  refine x_run (va_runS (As := As) (rest := st) ⟨hx, hb, hml, hown, hts⟩ (hM l) (cwS As.length hts hT hw rfl rfl hdd hR) ⟨gPre_blind, fun U hU hW => ⟨rfl, by rw [hU]; exact hP, va_K.moved hW.alike hK, gI_tr hA.2 hW hS hU⟩⟩ rfl rfl hl.1 rfl (lv_room hroom) hd hcs) hS (fun r N' v' H1 locs1 h1 h2 h3 h4 => k r N' v' h1 h2 H1 locs1 ls h3 h4 hl)
theorem x_callI {c na : Nat} (K : Cx Γ E B cc own Ts rm) (hM : gM y ws rmc E B N v (.ref (B + c) :: As) po) (hG : GoodIn Ts ws) (hw : ws = Cond.code y bytes maxL none :: ws') (hini : Cond.initialized y.cls ∈ Ts) (hlk : Cond.methodLink own idx y ∈ Ts) (hin : Cond.instanceMethod y ∈ Ts) (hy1 : y.name = "<init>") (hdd : y.cls ≠ "java/lang/invoke/MethodHandle" ∧ y.cls ≠ "java/lang/invoke/VarHandle" ∧ (parseMethodDescriptor y.desc).map (fun d => d.parameters.length) = some na) (hna : As.length = na) (hR : rmc.frames + 1 ≤ rm.frames ∧ 8 + (maxL + 11) + rmc.locals ≤ rm.locals) (hst : st0 = As.reverse ++ .ref (B + c) :: st) (hroom : (st.map fun v => v.category).sum ≤ 8) (hcs : kc + rmc.cells ≤ rm.cells ∧ ks + rmc.slots ≤ rm.slots) (hd : decode cc pc = .ok (.invokespecial idx, 3))
    (k : ∀ r N' v', po r N' v' → N ≤ N' → XW Γ N' v' L (kc + rmc.cells) (ks + rmc.slots) (pc + 3) (r.toList ++ st)) : XW Γ N v L kc ks pc st0 := by
  subst hst
  subst hna
  obtain ⟨p, l, e, R, s, m, args, below, meth, c0, E', B', Q, nL⟩ := Γ
  obtain ⟨rfl, rfl, hx, hb, hown, hts, hK, hml, hA, rfl⟩ := K
  intro H locs ls hP hS hl
  refine x_run (va_runI (As := As) (rest := st) ⟨hx, hb, hml, hown, hts⟩ (hM l) (cwI As.length hts hG hw rfl rfl (hts _ hini) (hts _ hlk) (hts _ hin) hy1 hdd hR) ⟨gPre_blind, fun U hU hW => ⟨rfl, by rw [hU]; exact hP, va_K.moved hW.alike hK, gI_tr hA.2 hW hS hU⟩⟩ rfl rfl hl.1 rfl (lv_room hroom) hd hcs) hS (fun r N' v' H1 locs1 h1 h2 h3 h4 => k r N' v' h1 h2 H1 locs1 ls h3 h4 hl)
theorem x_callIN {c na : Nat} (K : Cx Γ E B cc own Ts rm) (hM : gM y ws rmc E B N v (.ref (B + c) :: As) po) (hG : GoodIn Ts ws) (hw : ws = Cond.code y bytes maxL none :: ws') (hini : Cond.initialized y.cls ∈ Ts) (hlk : (own, idx, y) ∈ xNe) (hin : Cond.instanceMethod y ∈ Ts) (hy1 : y.name = "<init>") (hdd : y.cls ≠ "java/lang/invoke/MethodHandle" ∧ y.cls ≠ "java/lang/invoke/VarHandle" ∧ (parseMethodDescriptor y.desc).map (fun d => d.parameters.length) = some na) (hna : As.length = na) (hR : rmc.frames + 1 ≤ rm.frames ∧ 8 + (maxL + 11) + rmc.locals ≤ rm.locals) (hst : st0 = As.reverse ++ .ref (B + c) :: st) (hroom : (st.map fun v => v.category).sum ≤ 8) (hcs : kc + rmc.cells ≤ rm.cells ∧ ks + rmc.slots ≤ rm.slots) (hd : decode cc pc = .ok (.invokespecial idx, 3))
    (k : ∀ r N' v', po r N' v' → N ≤ N' → XW Γ N' v' L (kc + rmc.cells) (ks + rmc.slots) (pc + 3) (r.toList ++ st)) : XW Γ N v L kc ks pc st0 := by
  subst hst
  subst hna
  obtain ⟨p, l, e, R, s, m, args, below, meth, c0, E', B', Q, nL⟩ := Γ
  obtain ⟨rfl, rfl, hx, hb, hown, hts, hK, hml, hA, rfl⟩ := K
  intro H locs ls hP hS hl
  refine x_run (va_runIN (As := As) (rest := st) ⟨hx, hb, hml, hown, hts⟩ (hM l) ⟨va_cnB As.length hts hG hw rfl rfl (hA.2.2.2.2.2.2.2.2.2.2 _ hlk) (hts _ hini) hdd hR, hy1, hts _ hin⟩ ⟨gPre_blind, fun U hU hW => ⟨rfl, by rw [hU]; exact hP, va_K.moved hW.alike hK, gI_tr hA.2 hW hS hU⟩⟩ rfl rfl hl.1 rfl (lv_room hroom) hd hcs) hS (fun r N' v' H1 locs1 h1 h2 h3 h4 => k r N' v' h1 h2 H1 locs1 ls h3 h4 hl)
theorem x_callSN {na : Nat} (K : Cx Γ E B cc own Ts rm) (hM : gM y ws rmc E B N v As po) (hG : GoodIn Ts ws) (hw : ws = Cond.code y bytes maxL ret :: ws') (hini : Cond.initialized y.cls ∈ Ts) (hlk : (own, idx, y) ∈ xNe) (hsta : Cond.static y ∈ Ts) (hdd : y.cls ≠ "java/lang/invoke/MethodHandle" ∧ y.cls ≠ "java/lang/invoke/VarHandle" ∧ (parseMethodDescriptor y.desc).map (fun d => d.parameters.length) = some na) (hna : As.length = na) (hR : rmc.frames + 1 ≤ rm.frames ∧ 8 + (maxL + 11) + rmc.locals ≤ rm.locals) (hst : st0 = As.reverse ++ st) (hroom : (st.map fun v => v.category).sum ≤ 8) (hcs : kc + rmc.cells ≤ rm.cells ∧ ks + rmc.slots ≤ rm.slots) (hd : decode cc pc = .ok (.invokestatic idx, 3))
    (k : ∀ r N' v', po r N' v' → N ≤ N' → XW Γ N' v' L (kc + rmc.cells) (ks + rmc.slots) (pc + 3) (r.toList ++ st)) : XW Γ N v L kc ks pc st0 := by
  subst hst
  subst hna
  obtain ⟨p, l, e, R, s, m, args, below, meth, c0, E', B', Q, nL⟩ := Γ
  obtain ⟨rfl, rfl, hx, hb, hown, hts, hK, hml, hA, rfl⟩ := K
  intro H locs ls hP hS hl
  refine x_run (va_runSN (As := As) (rest := st) ⟨hx, hb, hml, hown, hts⟩ (hM l) ⟨va_cnB As.length hts hG hw rfl rfl (hA.2.2.2.2.2.2.2.2.2.2 _ hlk) (hts _ hini) hdd hR, hts _ hsta, trivial⟩ ⟨gPre_blind, fun U hU hW => ⟨rfl, by rw [hU]; exact hP, va_K.moved hW.alike hK, gI_tr hA.2 hW hS hU⟩⟩ rfl rfl hl.1 rfl (lv_room hroom) hd hcs) hS (fun r N' v' H1 locs1 h1 h2 h3 h4 => k r N' v' h1 h2 H1 locs1 ls h3 h4 hl)
/-- a method that the receiver's class may have from above -/
theorem x_callU {na : Nat} {C owner : String} {x : MethodName} {T : u_T} {n ci c : Nat} {fs : List Value} (K : Cx Γ E B cc own Ts rm) (hM : gM y ws rmc E B N v (.ref (B + c) :: As) po) (hT : GoodIn Ts (va_wsU own idx C owner x y ws)) (hw : ws = Cond.code y bytes maxL ret :: ws') (hyx : y = ⟨owner, x.name, x.desc⟩) (hdd : owner ≠ "java/lang/invoke/MethodHandle" ∧ owner ≠ "java/lang/invoke/VarHandle" ∧ (parseMethodDescriptor x.desc).map (fun d => d.parameters.length) = some na) (hna : As.length = na) (hR : rmc.frames + 1 ≤ rm.frames ∧ 8 + (maxL + 11) + rmc.locals ≤ rm.locals) (hv : Cel N v c (.inr (ci, fs))) (hc : vwCl[ci]? = some (C, T, n)) (hst : st0 = As.reverse ++ .ref (B + c) :: st) (hroom : (st.map fun v => v.category).sum ≤ 8) (hcs : kc + rmc.cells ≤ rm.cells ∧ ks + rmc.slots ≤ rm.slots) (hd : decode cc pc = .ok (.invokevirtual idx, 3))
    (k : ∀ r N' v', po r N' v' → N ≤ N' → XW Γ N' v' L (kc + rmc.cells) (ks + rmc.slots) (pc + 3) (r.toList ++ st)) : XW Γ N v L kc ks pc st0 := by
  subst hst
  subst hna
  obtain ⟨p, l, e, R, s, m, args, below, meth, c0, E', B', Q, nL⟩ := Γ
  obtain ⟨rfl, rfl, hx, hb, hown, hts, hK, hml, hA, rfl⟩ := K
  intro H locs ls hP hS hl
  refine x_run (va_runU (As := As) (rest := st) ⟨hx, hb, hml, hown, hts⟩ (hM l) (va_cwU As.length hts hT hw rfl rfl hyx hdd hR) ⟨gPre_blind, x_recv hK hP hv hc, fun U hU hW => ⟨rfl, by rw [hU]; exact hP, va_K.moved hW.alike hK, gI_tr hA.2 hW hS hU⟩⟩ rfl rfl hl.1 rfl (lv_room hroom) hd hcs) hS (fun r N' v' H1 locs1 h1 h2 h3 h4 => k r N' v' h1 h2 H1 locs1 ls h3 h4 hl)
theorem x_callO {na : Nat} {C owner : String} {x : MethodName} {T : u_T} {n ci c : Nat} {fs : List Value} {b0 : ByteArray} {m0 : Nat} {r0 : Option FieldType} (K : Cx Γ E B cc own Ts rm) (hM : gM y ws rmc E B N v (.ref (B + c) :: As) po) (hT : GoodIn Ts (va_wsO own idx C owner x y ws)) (hw : ws = Cond.code y bytes maxL ret :: ws') (h0 : Cond.code ⟨owner, x.name, x.desc⟩ b0 m0 r0 ∈ Ts) (hdd : owner ≠ "java/lang/invoke/MethodHandle" ∧ owner ≠ "java/lang/invoke/VarHandle" ∧ (parseMethodDescriptor x.desc).map (fun d => d.parameters.length) = some na) (hna : As.length = na) (hR : rmc.frames + 1 ≤ rm.frames ∧ 8 + (maxL + 11) + rmc.locals ≤ rm.locals) (hv : Cel N v c (.inr (ci, fs))) (hc : vwCl[ci]? = some (C, T, n)) (hst : st0 = As.reverse ++ .ref (B + c) :: st) (hroom : (st.map fun v => v.category).sum ≤ 8) (hcs : kc + rmc.cells ≤ rm.cells ∧ ks + rmc.slots ≤ rm.slots) (hd : decode cc pc = .ok (.invokevirtual idx, 3))
    (k : ∀ r N' v', po r N' v' → N ≤ N' → XW Γ N' v' L (kc + rmc.cells) (ks + rmc.slots) (pc + 3) (r.toList ++ st)) : XW Γ N v L kc ks pc st0 := by
  subst hst
  subst hna
  obtain ⟨p, l, e, R, s, m, args, below, meth, c0, E', B', Q, nL⟩ := Γ
  obtain ⟨rfl, rfl, hx, hb, hown, hts, hK, hml, hA, rfl⟩ := K
  intro H locs ls hP hS hl
  refine x_run (va_runU (As := As) (rest := st) ⟨hx, hb, hml, hown, hts⟩ (hM l) (va_cwO As.length hts hT hw rfl rfl h0 hdd hR) ⟨gPre_blind, x_recv hK hP hv hc, fun U hU hW => ⟨rfl, by rw [hU]; exact hP, va_K.moved hW.alike hK, gI_tr hA.2 hW hS hU⟩⟩ rfl rfl hl.1 rfl (lv_room hroom) hd hcs) hS (fun r N' v' H1 locs1 h1 h2 h3 h4 => k r N' v' h1 h2 H1 locs1 ls h3 h4 hl)
/-- super.y(..) of an object of class C -/
theorem x_callSU {na : Nat} {C : String} {T : u_T} {n ci c : Nat} {fs : List Value} (K : Cx Γ E B cc own Ts rm) (hM : gM y ws rmc E B N v (.ref (B + c) :: As) po) (hT : GoodIn Ts (va_wsSU own idx y ws)) (hw : ws = Cond.code y bytes maxL ret :: ws') (hdd : y.name ≠ "<init>" ∧ (parseMethodDescriptor y.desc).map (fun d => d.parameters.length) = some na) (hna : As.length = na) (hR : rmc.frames + 1 ≤ rm.frames ∧ 8 + (maxL + 11) + rmc.locals ≤ rm.locals) (hv : Cel N v c (.inr (ci, fs))) (hc : vwCl[ci]? = some (C, T, n)) (hst : st0 = As.reverse ++ .ref (B + c) :: st) (hroom : (st.map fun v => v.category).sum ≤ 8) (hcs : kc + rmc.cells ≤ rm.cells ∧ ks + rmc.slots ≤ rm.slots) (hd : decode cc pc = .ok (.invokespecial idx, 3))
    (k : ∀ r N' v', po r N' v' → N ≤ N' → XW Γ N' v' L (kc + rmc.cells) (ks + rmc.slots) (pc + 3) (r.toList ++ st)) : XW Γ N v L kc ks pc st0 := by
  subst hst
  subst hna
  obtain ⟨p, l, e, R, s, m, args, below, meth, c0, E', B', Q, nL⟩ := Γ
  obtain ⟨rfl, rfl, hx, hb, hown, hts, hK, hml, hA, rfl⟩ := K
  intro H locs ls hP hS hl
  refine x_run (va_runSU (As := As) (rest := st) (hK.1 ci _ hc).2 ⟨hx, hb, hml, hown, hts⟩ (hM l) (va_cwSU As.length hts hT hw rfl rfl hdd hR) ⟨gPre_blind, x_recv hK hP hv hc, fun U hU hW => ⟨rfl, by rw [hU]; exact hP, va_K.moved hW.alike hK, gI_tr hA.2 hW hS hU⟩⟩ rfl rfl hl.1 rfl (lv_room hroom) hd hcs) hS (fun r N' v' H1 locs1 h1 h2 h3 h4 => k r N' v' h1 h2 H1 locs1 ls h3 h4 hl)
/-- java.lang.Object's constructor -/
theorem x_objInit {c nL9 : Nat} (K : Cx Γ E B cc own Ts rm) (hlk : Cond.methodLink own idx objectInit ∈ Ts) (hin : Cond.instanceMethod objectInit ∈ Ts) (hcd : Cond.code objectInit ⟨#[0xb1]⟩ 1 none ∈ Ts) (hfr : 1 ≤ rm.frames) (hlo : 12 ≤ rm.locals) (hd : decode cc pc = .ok (.invokespecial idx, 3)) (k : XW Γ N v L kc ks (pc + 3) []) : XW Γ N v L kc ks pc [.ref (B + c)] := by
  obtain ⟨p, l, e, R, s, m, args, below, meth, c0, E', B', Q, nL⟩ := Γ
  obtain ⟨rfl, rfl, hx, hb, hown, hts, hK, hml, hA, rfl⟩ := K
  intro H locs ls hP hS hl
  refine W.objInit hx hb hown (hts _ hlk) (hts _ hin) (hts _ hcd) rfl (by rw [hml]; exact hl.1) rfl hd hfr hlo ?_
  exact W.eq (g2 := F0 m (pc + 3) ls []) rfl (k H locs ls hP hS hl)
/-! ends -/
def Rx (Γ : XT) (E : XE) (B N0 : Nat) (po : Option Value → Nat → (Nat → va_E) → Prop) (rt : Option FieldType) : Prop := match Γ with
  | (_, _, _, R, s, _, args, below, meth, _, _, _, Q, _) => Q = MQ below (gQ E B N0 po) args s R.cells R.slots (fun q => B ≤ q) ∧ meth.locks = false ∧ meth.sig.returnType = rt
theorem x_iret {N0 : Nat} {x : Int32} (K : Cx Γ E B cc own Ts rm) (KR : Rx Γ E B N0 po (some .int)) (hN : N0 ≤ N) (hkc : kc ≤ rm.cells) (hks : ks ≤ rm.slots) (hd : decode cc pc = .ok (.ireturn, 1)) (hpo : po (some (.int x)) N v) : XW Γ N v L kc ks pc [.int x] := by
  obtain ⟨p, l, e, R, s, m, args, below, meth, c0, E', B', Q, nL⟩ := Γ
  obtain ⟨rfl, rfl, hx, hb, hown, hts, hK, hml, hA, rfl⟩ := K
  obtain ⟨rfl, hlocks, hr⟩ := KR
  intro H locs ls hP hS hl
  refine W.widen hkc hks ?_
  exact W.iret hx hb hr (fun t ht hW => ⟨⟨_, N, v, rfl, hpo, hN, by rw [ht]; exact hP⟩, hS.F ht⟩) hS.2.2 hd hlocks
theorem x_zret {N0 : Nat} {x : Int32} (K : Cx Γ E B cc own Ts rm) (KR : Rx Γ E B N0 po (some .boolean)) (hN : N0 ≤ N) (hkc : kc ≤ rm.cells) (hks : ks ≤ rm.slots) (hx9 : narrow .boolean (.int x) = .int x) (hd : decode cc pc = .ok (.ireturn, 1)) (hpo : po (some (.int x)) N v) : XW Γ N v L kc ks pc [.int x] := by
  obtain ⟨p, l, e, R, s, m, args, below, meth, c0, E', B', Q, nL⟩ := Γ
  obtain ⟨rfl, rfl, hx, hb, hown, hts, hK, hml, hA, rfl⟩ := K
  obtain ⟨rfl, hlocks, hr⟩ := KR
  intro H locs ls hP hS hl
  refine W.widen hkc hks ?_
  exact W.zret hx hb hr hx9 (fun t ht hW => ⟨⟨_, N, v, rfl, hpo, hN, by rw [ht]; exact hP⟩, hS.F ht⟩) hS.2.2 hd hlocks
theorem x_vret {N0 : Nat} (K : Cx Γ E B cc own Ts rm) (KR : Rx Γ E B N0 po none) (hN : N0 ≤ N) (hkc : kc ≤ rm.cells) (hks : ks ≤ rm.slots) (hd : decode cc pc = .ok (.return_, 1)) (hpo : po none N v) : XW Γ N v L kc ks pc [] := by
  obtain ⟨p, l, e, R, s, m, args, below, meth, c0, E', B', Q, nL⟩ := Γ
  obtain ⟨rfl, rfl, hx, hb, hown, hts, hK, hml, hA, rfl⟩ := K
  obtain ⟨rfl, hlocks, hr⟩ := KR
  intro H locs ls hP hS hl
  refine W.widen hkc hks ?_
  exact W.vret hx hb hr (fun t ht hW => ⟨⟨_, N, v, rfl, hpo, hN, by rw [ht]; exact hP⟩, hS.F ht⟩) hS.2.2 hd hlocks
theorem x_aret {N0 : Nat} {x : Value} {C : String} (K : Cx Γ E B cc own Ts rm) (KR : Rx Γ E B N0 po (some (.object C))) (hN : N0 ≤ N) (hkc : kc ≤ rm.cells) (hks : ks ≤ rm.slots) (hx9 : x = .null ∨ ∃ a, x = .ref a) (hd : decode cc pc = .ok (.areturn, 1)) (hpo : po (some x) N v) : XW Γ N v L kc ks pc [x] := by
  obtain ⟨p, l, e, R, s, m, args, below, meth, c0, E', B', Q, nL⟩ := Γ
  obtain ⟨rfl, rfl, hx, hb, hown, hts, hK, hml, hA, rfl⟩ := K
  obtain ⟨rfl, hlocks, hr⟩ := KR
  intro H locs ls hP hS hl
  refine W.widen hkc hks ?_
  exact W.aret hx hb hr (Or.inl ⟨C, rfl⟩) hx9 (fun t ht hW => ⟨⟨_, N, v, rfl, hpo, hN, by rw [ht]; exact hP⟩, hS.F ht⟩) hS.2.2 hd hlocks
/-- a method from its entry -/
theorem x_met {nm : String} (hy : plainName y.cls = true) (hw : ws = Cond.code y bytes maxL ret :: ws') (hlen : (lg_sl As).length ≤ maxL) (hnm : y.name = nm)
    (body : ∀ Γ : XT, Cx Γ E B bytes y.cls ws rm → Rx Γ E B N po ret → Γ.2.2.2.2.2.2.2.2.2.2.2.2.2 = maxL → Γ.2.2.2.2.2.2.2.2.1.name = nm → XW Γ N v (lv_args 0 As) 0 0 0 []) : gM y ws rm E B N v As po := by
  intro l
  refine Met.ofW (cc := bytes) (maxL := maxL) (ret := ret) hy hw ?_
  intro p e s m args below meth c s₁ BD hml hv
  obtain ⟨rfl, hP, hK, hI⟩ := hv
  have hts := atoms_spec (ws := ws) BD.pre
  have hown : s.vm.findClass y.cls = some m.cls := findClass_of_methodNamed BD.named
  have hl := lv_entry As (n := maxL) hlen
  rw [lg_entry_eq]
  generalize (lg_sl As ++ List.replicate (maxL - (lg_sl As).length) Slot.unset).toArray = ls at hl ⊢
  refine body (p, l, e, rm, s, m, As.toArray, below, meth, c, E, B, _, maxL) ⟨rfl, rfl, BD.exec, BD.bytes, hown, hts, hK, hml, ⟨?_, hI⟩, rfl⟩ ⟨rfl, BD.notSynchronized, BD.returns⟩ rfl ((name_of_methodNamed BD.named BD.method).1.trans hnm) s.heap [] ls hP va_S.rf hl
  rw [hP.1]
  exact Nat.le_add_right _ _
end XCalls
theorem up_at0 {v : Nat → va_E} {c : Nat} {a b : va_E}  : va_up (va_up v c a) c b = (va_up v c b) := by
  funext k
  by_cases hk : k = c
  · subst hk; simp [va_up]
  · simp [va_up, hk]
theorem up_at1 {v : Nat → va_E} {c : Nat} {a b : va_E} {d0 : Nat} {x0 : va_E} (h0 : c ≠ d0) : va_up (va_up (va_up v c a) d0 x0) c b = (va_up (va_up v c b) d0 x0) := by
  funext k
  by_cases hk : k = c
  · subst hk; simp [va_up, h0]
  · simp [va_up, hk]
theorem up_at2 {v : Nat → va_E} {c : Nat} {a b : va_E} {d0 d1 : Nat} {x0 x1 : va_E} (h0 : c ≠ d0) (h1 : c ≠ d1) : va_up (va_up (va_up (va_up v c a) d0 x0) d1 x1) c b = (va_up (va_up (va_up v c b) d0 x0) d1 x1) := by
  funext k
  by_cases hk : k = c
  · subst hk; simp [va_up, h0, h1]
  · simp [va_up, hk]
theorem up_at3 {v : Nat → va_E} {c : Nat} {a b : va_E} {d0 d1 d2 : Nat} {x0 x1 x2 : va_E} (h0 : c ≠ d0) (h1 : c ≠ d1) (h2 : c ≠ d2) : va_up (va_up (va_up (va_up (va_up v c a) d0 x0) d1 x1) d2 x2) c b = (va_up (va_up (va_up (va_up v c b) d0 x0) d1 x1) d2 x2) := by
  funext k
  by_cases hk : k = c
  · subst hk; simp [va_up, h0, h1, h2]
  · simp [va_up, hk]
theorem up_at4 {v : Nat → va_E} {c : Nat} {a b : va_E} {d0 d1 d2 d3 : Nat} {x0 x1 x2 x3 : va_E} (h0 : c ≠ d0) (h1 : c ≠ d1) (h2 : c ≠ d2) (h3 : c ≠ d3) : va_up (va_up (va_up (va_up (va_up (va_up v c a) d0 x0) d1 x1) d2 x2) d3 x3) c b = (va_up (va_up (va_up (va_up (va_up v c b) d0 x0) d1 x1) d2 x2) d3 x3) := by
  funext k
  by_cases hk : k = c
  · subst hk; simp [va_up, h0, h1, h2, h3]
  · simp [va_up, hk]
theorem up_at5 {v : Nat → va_E} {c : Nat} {a b : va_E} {d0 d1 d2 d3 d4 : Nat} {x0 x1 x2 x3 x4 : va_E} (h0 : c ≠ d0) (h1 : c ≠ d1) (h2 : c ≠ d2) (h3 : c ≠ d3) (h4 : c ≠ d4) : va_up (va_up (va_up (va_up (va_up (va_up (va_up v c a) d0 x0) d1 x1) d2 x2) d3 x3) d4 x4) c b = (va_up (va_up (va_up (va_up (va_up (va_up v c b) d0 x0) d1 x1) d2 x2) d3 x3) d4 x4) := by
  funext k
  by_cases hk : k = c
  · subst hk; simp [va_up, h0, h1, h2, h3, h4]
  · simp [va_up, hk]
theorem up_at6 {v : Nat → va_E} {c : Nat} {a b : va_E} {d0 d1 d2 d3 d4 d5 : Nat} {x0 x1 x2 x3 x4 x5 : va_E} (h0 : c ≠ d0) (h1 : c ≠ d1) (h2 : c ≠ d2) (h3 : c ≠ d3) (h4 : c ≠ d4) (h5 : c ≠ d5) : va_up (va_up (va_up (va_up (va_up (va_up (va_up (va_up v c a) d0 x0) d1 x1) d2 x2) d3 x3) d4 x4) d5 x5) c b = (va_up (va_up (va_up (va_up (va_up (va_up (va_up v c b) d0 x0) d1 x1) d2 x2) d3 x3) d4 x4) d5 x5) := by
  funext k
  by_cases hk : k = c
  · subst hk; simp [va_up, h0, h1, h2, h3, h4, h5]
  · simp [va_up, hk]
theorem up_at7 {v : Nat → va_E} {c : Nat} {a b : va_E} {d0 d1 d2 d3 d4 d5 d6 : Nat} {x0 x1 x2 x3 x4 x5 x6 : va_E} (h0 : c ≠ d0) (h1 : c ≠ d1) (h2 : c ≠ d2) (h3 : c ≠ d3) (h4 : c ≠ d4) (h5 : c ≠ d5) (h6 : c ≠ d6) : va_up (va_up (va_up (va_up (va_up (va_up (va_up (va_up (va_up v c a) d0 x0) d1 x1) d2 x2) d3 x3) d4 x4) d5 x5) d6 x6) c b = (va_up (va_up (va_up (va_up (va_up (va_up (va_up (va_up v c b) d0 x0) d1 x1) d2 x2) d3 x3) d4 x4) d5 x5) d6 x6) := by
  funext k
  by_cases hk : k = c
  · subst hk; simp [va_up, h0, h1, h2, h3, h4, h5, h6]
  · simp [va_up, hk]
theorem up_at8 {v : Nat → va_E} {c : Nat} {a b : va_E} {d0 d1 d2 d3 d4 d5 d6 d7 : Nat} {x0 x1 x2 x3 x4 x5 x6 x7 : va_E} (h0 : c ≠ d0) (h1 : c ≠ d1) (h2 : c ≠ d2) (h3 : c ≠ d3) (h4 : c ≠ d4) (h5 : c ≠ d5) (h6 : c ≠ d6) (h7 : c ≠ d7) : va_up (va_up (va_up (va_up (va_up (va_up (va_up (va_up (va_up (va_up v c a) d0 x0) d1 x1) d2 x2) d3 x3) d4 x4) d5 x5) d6 x6) d7 x7) c b = (va_up (va_up (va_up (va_up (va_up (va_up (va_up (va_up (va_up v c b) d0 x0) d1 x1) d2 x2) d3 x3) d4 x4) d5 x5) d6 x6) d7 x7) := by
  funext k
  by_cases hk : k = c
  · subst hk; simp [va_up, h0, h1, h2, h3, h4, h5, h6, h7]
  · simp [va_up, hk]
theorem up_at9 {v : Nat → va_E} {c : Nat} {a b : va_E} {d0 d1 d2 d3 d4 d5 d6 d7 d8 : Nat} {x0 x1 x2 x3 x4 x5 x6 x7 x8 : va_E} (h0 : c ≠ d0) (h1 : c ≠ d1) (h2 : c ≠ d2) (h3 : c ≠ d3) (h4 : c ≠ d4) (h5 : c ≠ d5) (h6 : c ≠ d6) (h7 : c ≠ d7) (h8 : c ≠ d8) : va_up (va_up (va_up (va_up (va_up (va_up (va_up (va_up (va_up (va_up (va_up v c a) d0 x0) d1 x1) d2 x2) d3 x3) d4 x4) d5 x5) d6 x6) d7 x7) d8 x8) c b = (va_up (va_up (va_up (va_up (va_up (va_up (va_up (va_up (va_up (va_up v c b) d0 x0) d1 x1) d2 x2) d3 x3) d4 x4) d5 x5) d6 x6) d7 x7) d8 x8) := by
  funext k
  by_cases hk : k = c
  · subst hk; simp [va_up, h0, h1, h2, h3, h4, h5, h6, h7, h8]
  · simp [va_up, hk]
theorem up_at10 {v : Nat → va_E} {c : Nat} {a b : va_E} {d0 d1 d2 d3 d4 d5 d6 d7 d8 d9 : Nat} {x0 x1 x2 x3 x4 x5 x6 x7 x8 x9 : va_E} (h0 : c ≠ d0) (h1 : c ≠ d1) (h2 : c ≠ d2) (h3 : c ≠ d3) (h4 : c ≠ d4) (h5 : c ≠ d5) (h6 : c ≠ d6) (h7 : c ≠ d7) (h8 : c ≠ d8) (h9 : c ≠ d9) : va_up (va_up (va_up (va_up (va_up (va_up (va_up (va_up (va_up (va_up (va_up (va_up v c a) d0 x0) d1 x1) d2 x2) d3 x3) d4 x4) d5 x5) d6 x6) d7 x7) d8 x8) d9 x9) c b = (va_up (va_up (va_up (va_up (va_up (va_up (va_up (va_up (va_up (va_up (va_up v c b) d0 x0) d1 x1) d2 x2) d3 x3) d4 x4) d5 x5) d6 x6) d7 x7) d8 x8) d9 x9) := by
  funext k
  by_cases hk : k = c
  · subst hk; simp [va_up, h0, h1, h2, h3, h4, h5, h6, h7, h8, h9]
  · simp [va_up, hk]
theorem up_at11 {v : Nat → va_E} {c : Nat} {a b : va_E} {d0 d1 d2 d3 d4 d5 d6 d7 d8 d9 d10 : Nat} {x0 x1 x2 x3 x4 x5 x6 x7 x8 x9 x10 : va_E} (h0 : c ≠ d0) (h1 : c ≠ d1) (h2 : c ≠ d2) (h3 : c ≠ d3) (h4 : c ≠ d4) (h5 : c ≠ d5) (h6 : c ≠ d6) (h7 : c ≠ d7) (h8 : c ≠ d8) (h9 : c ≠ d9) (h10 : c ≠ d10) : va_up (va_up (va_up (va_up (va_up (va_up (va_up (va_up (va_up (va_up (va_up (va_up (va_up v c a) d0 x0) d1 x1) d2 x2) d3 x3) d4 x4) d5 x5) d6 x6) d7 x7) d8 x8) d9 x9) d10 x10) c b = (va_up (va_up (va_up (va_up (va_up (va_up (va_up (va_up (va_up (va_up (va_up (va_up v c b) d0 x0) d1 x1) d2 x2) d3 x3) d4 x4) d5 x5) d6 x6) d7 x7) d8 x8) d9 x9) d10 x10) := by
  funext k
  by_cases hk : k = c
  · subst hk; simp [va_up, h0, h1, h2, h3, h4, h5, h6, h7, h8, h9, h10]
  · simp [va_up, hk]
theorem up_at12 {v : Nat → va_E} {c : Nat} {a b : va_E} {d0 d1 d2 d3 d4 d5 d6 d7 d8 d9 d10 d11 : Nat} {x0 x1 x2 x3 x4 x5 x6 x7 x8 x9 x10 x11 : va_E} (h0 : c ≠ d0) (h1 : c ≠ d1) (h2 : c ≠ d2) (h3 : c ≠ d3) (h4 : c ≠ d4) (h5 : c ≠ d5) (h6 : c ≠ d6) (h7 : c ≠ d7) (h8 : c ≠ d8) (h9 : c ≠ d9) (h10 : c ≠ d10) (h11 : c ≠ d11) : va_up (va_up (va_up (va_up (va_up (va_up (va_up (va_up (va_up (va_up (va_up (va_up (va_up (va_up v c a) d0 x0) d1 x1) d2 x2) d3 x3) d4 x4) d5 x5) d6 x6) d7 x7) d8 x8) d9 x9) d10 x10) d11 x11) c b = (va_up (va_up (va_up (va_up (va_up (va_up (va_up (va_up (va_up (va_up (va_up (va_up (va_up v c b) d0 x0) d1 x1) d2 x2) d3 x3) d4 x4) d5 x5) d6 x6) d7 x7) d8 x8) d9 x9) d10 x10) d11 x11) := by
  funext k
  by_cases hk : k = c
  · subst hk; simp [va_up, h0, h1, h2, h3, h4, h5, h6, h7, h8, h9, h10, h11]
  · simp [va_up, hk]
theorem up_at13 {v : Nat → va_E} {c : Nat} {a b : va_E} {d0 d1 d2 d3 d4 d5 d6 d7 d8 d9 d10 d11 d12 : Nat} {x0 x1 x2 x3 x4 x5 x6 x7 x8 x9 x10 x11 x12 : va_E} (h0 : c ≠ d0) (h1 : c ≠ d1) (h2 : c ≠ d2) (h3 : c ≠ d3) (h4 : c ≠ d4) (h5 : c ≠ d5) (h6 : c ≠ d6) (h7 : c ≠ d7) (h8 : c ≠ d8) (h9 : c ≠ d9) (h10 : c ≠ d10) (h11 : c ≠ d11) (h12 : c ≠ d12) : va_up (va_up (va_up (va_up (va_up (va_up (va_up (va_up (va_up (va_up (va_up (va_up (va_up (va_up (va_up v c a) d0 x0) d1 x1) d2 x2) d3 x3) d4 x4) d5 x5) d6 x6) d7 x7) d8 x8) d9 x9) d10 x10) d11 x11) d12 x12) c b = (va_up (va_up (va_up (va_up (va_up (va_up (va_up (va_up (va_up (va_up (va_up (va_up (va_up (va_up v c b) d0 x0) d1 x1) d2 x2) d3 x3) d4 x4) d5 x5) d6 x6) d7 x7) d8 x8) d9 x9) d10 x10) d11 x11) d12 x12) := by
  funext k
  by_cases hk : k = c
  · subst hk; simp [va_up, h0, h1, h2, h3, h4, h5, h6, h7, h8, h9, h10, h11, h12]
  · simp [va_up, hk]
theorem up_at14 {v : Nat → va_E} {c : Nat} {a b : va_E} {d0 d1 d2 d3 d4 d5 d6 d7 d8 d9 d10 d11 d12 d13 : Nat} {x0 x1 x2 x3 x4 x5 x6 x7 x8 x9 x10 x11 x12 x13 : va_E} (h0 : c ≠ d0) (h1 : c ≠ d1) (h2 : c ≠ d2) (h3 : c ≠ d3) (h4 : c ≠ d4) (h5 : c ≠ d5) (h6 : c ≠ d6) (h7 : c ≠ d7) (h8 : c ≠ d8) (h9 : c ≠ d9) (h10 : c ≠ d10) (h11 : c ≠ d11) (h12 : c ≠ d12) (h13 : c ≠ d13) : va_up (va_up (va_up (va_up (va_up (va_up (va_up (va_up (va_up (va_up (va_up (va_up (va_up (va_up (va_up (va_up v c a) d0 x0) d1 x1) d2 x2) d3 x3) d4 x4) d5 x5) d6 x6) d7 x7) d8 x8) d9 x9) d10 x10) d11 x11) d12 x12) d13 x13) c b = (va_up (va_up (va_up (va_up (va_up (va_up (va_up (va_up (va_up (va_up (va_up (va_up (va_up (va_up (va_up v c b) d0 x0) d1 x1) d2 x2) d3 x3) d4 x4) d5 x5) d6 x6) d7 x7) d8 x8) d9 x9) d10 x10) d11 x11) d12 x12) d13 x13) := by
  funext k
  by_cases hk : k = c
  · subst hk; simp [va_up, h0, h1, h2, h3, h4, h5, h6, h7, h8, h9, h10, h11, h12, h13]
  · simp [va_up, hk]
theorem up_at15 {v : Nat → va_E} {c : Nat} {a b : va_E} {d0 d1 d2 d3 d4 d5 d6 d7 d8 d9 d10 d11 d12 d13 d14 : Nat} {x0 x1 x2 x3 x4 x5 x6 x7 x8 x9 x10 x11 x12 x13 x14 : va_E} (h0 : c ≠ d0) (h1 : c ≠ d1) (h2 : c ≠ d2) (h3 : c ≠ d3) (h4 : c ≠ d4) (h5 : c ≠ d5) (h6 : c ≠ d6) (h7 : c ≠ d7) (h8 : c ≠ d8) (h9 : c ≠ d9) (h10 : c ≠ d10) (h11 : c ≠ d11) (h12 : c ≠ d12) (h13 : c ≠ d13) (h14 : c ≠ d14) : va_up (va_up (va_up (va_up (va_up (va_up (va_up (va_up (va_up (va_up (va_up (va_up (va_up (va_up (va_up (va_up (va_up v c a) d0 x0) d1 x1) d2 x2) d3 x3) d4 x4) d5 x5) d6 x6) d7 x7) d8 x8) d9 x9) d10 x10) d11 x11) d12 x12) d13 x13) d14 x14) c b = (va_up (va_up (va_up (va_up (va_up (va_up (va_up (va_up (va_up (va_up (va_up (va_up (va_up (va_up (va_up (va_up v c b) d0 x0) d1 x1) d2 x2) d3 x3) d4 x4) d5 x5) d6 x6) d7 x7) d8 x8) d9 x9) d10 x10) d11 x11) d12 x12) d13 x13) d14 x14) := by
  funext k
  by_cases hk : k = c
  · subst hk; simp [va_up, h0, h1, h2, h3, h4, h5, h6, h7, h8, h9, h10, h11, h12, h13, h14]
  · simp [va_up, hk]
theorem up_at16 {v : Nat → va_E} {c : Nat} {a b : va_E} {d0 d1 d2 d3 d4 d5 d6 d7 d8 d9 d10 d11 d12 d13 d14 d15 : Nat} {x0 x1 x2 x3 x4 x5 x6 x7 x8 x9 x10 x11 x12 x13 x14 x15 : va_E} (h0 : c ≠ d0) (h1 : c ≠ d1) (h2 : c ≠ d2) (h3 : c ≠ d3) (h4 : c ≠ d4) (h5 : c ≠ d5) (h6 : c ≠ d6) (h7 : c ≠ d7) (h8 : c ≠ d8) (h9 : c ≠ d9) (h10 : c ≠ d10) (h11 : c ≠ d11) (h12 : c ≠ d12) (h13 : c ≠ d13) (h14 : c ≠ d14) (h15 : c ≠ d15) : va_up (va_up (va_up (va_up (va_up (va_up (va_up (va_up (va_up (va_up (va_up (va_up (va_up (va_up (va_up (va_up (va_up (va_up v c a) d0 x0) d1 x1) d2 x2) d3 x3) d4 x4) d5 x5) d6 x6) d7 x7) d8 x8) d9 x9) d10 x10) d11 x11) d12 x12) d13 x13) d14 x14) d15 x15) c b = (va_up (va_up (va_up (va_up (va_up (va_up (va_up (va_up (va_up (va_up (va_up (va_up (va_up (va_up (va_up (va_up (va_up v c b) d0 x0) d1 x1) d2 x2) d3 x3) d4 x4) d5 x5) d6 x6) d7 x7) d8 x8) d9 x9) d10 x10) d11 x11) d12 x12) d13 x13) d14 x14) d15 x15) := by
  funext k
  by_cases hk : k = c
  · subst hk; simp [va_up, h0, h1, h2, h3, h4, h5, h6, h7, h8, h9, h10, h11, h12, h13, h14, h15]
  · simp [va_up, hk]
theorem up_at17 {v : Nat → va_E} {c : Nat} {a b : va_E} {d0 d1 d2 d3 d4 d5 d6 d7 d8 d9 d10 d11 d12 d13 d14 d15 d16 : Nat} {x0 x1 x2 x3 x4 x5 x6 x7 x8 x9 x10 x11 x12 x13 x14 x15 x16 : va_E} (h0 : c ≠ d0) (h1 : c ≠ d1) (h2 : c ≠ d2) (h3 : c ≠ d3) (h4 : c ≠ d4) (h5 : c ≠ d5) (h6 : c ≠ d6) (h7 : c ≠ d7) (h8 : c ≠ d8) (h9 : c ≠ d9) (h10 : c ≠ d10) (h11 : c ≠ d11) (h12 : c ≠ d12) (h13 : c ≠ d13) (h14 : c ≠ d14) (h15 : c ≠ d15) (h16 : c ≠ d16) : va_up (va_up (va_up (va_up (va_up (va_up (va_up (va_up (va_up (va_up (va_up (va_up (va_up (va_up (va_up (va_up (va_up (va_up (va_up v c a) d0 x0) d1 x1) d2 x2) d3 x3) d4 x4) d5 x5) d6 x6) d7 x7) d8 x8) d9 x9) d10 x10) d11 x11) d12 x12) d13 x13) d14 x14) d15 x15) d16 x16) c b = (va_up (va_up (va_up (va_up (va_up (va_up (va_up (va_up (va_up (va_up (va_up (va_up (va_up (va_up (va_up (va_up (va_up (va_up v c b) d0 x0) d1 x1) d2 x2) d3 x3) d4 x4) d5 x5) d6 x6) d7 x7) d8 x8) d9 x9) d10 x10) d11 x11) d12 x12) d13 x13) d14 x14) d15 x15) d16 x16) := by
  funext k
  by_cases hk : k = c
  · subst hk; simp [va_up, h0, h1, h2, h3, h4, h5, h6, h7, h8, h9, h10, h11, h12, h13, h14, h15, h16]
  · simp [va_up, hk]
theorem up_at18 {v : Nat → va_E} {c : Nat} {a b : va_E} {d0 d1 d2 d3 d4 d5 d6 d7 d8 d9 d10 d11 d12 d13 d14 d15 d16 d17 : Nat} {x0 x1 x2 x3 x4 x5 x6 x7 x8 x9 x10 x11 x12 x13 x14 x15 x16 x17 : va_E} (h0 : c ≠ d0) (h1 : c ≠ d1) (h2 : c ≠ d2) (h3 : c ≠ d3) (h4 : c ≠ d4) (h5 : c ≠ d5) (h6 : c ≠ d6) (h7 : c ≠ d7) (h8 : c ≠ d8) (h9 : c ≠ d9) (h10 : c ≠ d10) (h11 : c ≠ d11) (h12 : c ≠ d12) (h13 : c ≠ d13) (h14 : c ≠ d14) (h15 : c ≠ d15) (h16 : c ≠ d16) (h17 : c ≠ d17) : va_up (va_up (va_up (va_up (va_up (va_up (va_up (va_up (va_up (va_up (va_up (va_up (va_up (va_up (va_up (va_up (va_up (va_up (va_up (va_up v c a) d0 x0) d1 x1) d2 x2) d3 x3) d4 x4) d5 x5) d6 x6) d7 x7) d8 x8) d9 x9) d10 x10) d11 x11) d12 x12) d13 x13) d14 x14) d15 x15) d16 x16) d17 x17) c b = (va_up (va_up (va_up (va_up (va_up (va_up (va_up (va_up (va_up (va_up (va_up (va_up (va_up (va_up (va_up (va_up (va_up (va_up (va_up v c b) d0 x0) d1 x1) d2 x2) d3 x3) d4 x4) d5 x5) d6 x6) d7 x7) d8 x8) d9 x9) d10 x10) d11 x11) d12 x12) d13 x13) d14 x14) d15 x15) d16 x16) d17 x17) := by
  funext k
  by_cases hk : k = c
  · subst hk; simp [va_up, h0, h1, h2, h3, h4, h5, h6, h7, h8, h9, h10, h11, h12, h13, h14, h15, h16, h17]
  · simp [va_up, hk]
theorem up_at19 {v : Nat → va_E} {c : Nat} {a b : va_E} {d0 d1 d2 d3 d4 d5 d6 d7 d8 d9 d10 d11 d12 d13 d14 d15 d16 d17 d18 : Nat} {x0 x1 x2 x3 x4 x5 x6 x7 x8 x9 x10 x11 x12 x13 x14 x15 x16 x17 x18 : va_E} (h0 : c ≠ d0) (h1 : c ≠ d1) (h2 : c ≠ d2) (h3 : c ≠ d3) (h4 : c ≠ d4) (h5 : c ≠ d5) (h6 : c ≠ d6) (h7 : c ≠ d7) (h8 : c ≠ d8) (h9 : c ≠ d9) (h10 : c ≠ d10) (h11 : c ≠ d11) (h12 : c ≠ d12) (h13 : c ≠ d13) (h14 : c ≠ d14) (h15 : c ≠ d15) (h16 : c ≠ d16) (h17 : c ≠ d17) (h18 : c ≠ d18) : va_up (va_up (va_up (va_up (va_up (va_up (va_up (va_up (va_up (va_up (va_up (va_up (va_up (va_up (va_up (va_up (va_up (va_up (va_up (va_up (va_up v c a) d0 x0) d1 x1) d2 x2) d3 x3) d4 x4) d5 x5) d6 x6) d7 x7) d8 x8) d9 x9) d10 x10) d11 x11) d12 x12) d13 x13) d14 x14) d15 x15) d16 x16) d17 x17) d18 x18) c b = (va_up (va_up (va_up (va_up (va_up (va_up (va_up (va_up (va_up (va_up (va_up (va_up (va_up (va_up (va_up (va_up (va_up (va_up (va_up (va_up v c b) d0 x0) d1 x1) d2 x2) d3 x3) d4 x4) d5 x5) d6 x6) d7 x7) d8 x8) d9 x9) d10 x10) d11 x11) d12 x12) d13 x13) d14 x14) d15 x15) d16 x16) d17 x17) d18 x18) := by
  funext k
  by_cases hk : k = c
  · subst hk; simp [va_up, h0, h1, h2, h3, h4, h5, h6, h7, h8, h9, h10, h11, h12, h13, h14, h15, h16, h17, h18]
  · simp [va_up, hk]
theorem up_at20 {v : Nat → va_E} {c : Nat} {a b : va_E} {d0 d1 d2 d3 d4 d5 d6 d7 d8 d9 d10 d11 d12 d13 d14 d15 d16 d17 d18 d19 : Nat} {x0 x1 x2 x3 x4 x5 x6 x7 x8 x9 x10 x11 x12 x13 x14 x15 x16 x17 x18 x19 : va_E} (h0 : c ≠ d0) (h1 : c ≠ d1) (h2 : c ≠ d2) (h3 : c ≠ d3) (h4 : c ≠ d4) (h5 : c ≠ d5) (h6 : c ≠ d6) (h7 : c ≠ d7) (h8 : c ≠ d8) (h9 : c ≠ d9) (h10 : c ≠ d10) (h11 : c ≠ d11) (h12 : c ≠ d12) (h13 : c ≠ d13) (h14 : c ≠ d14) (h15 : c ≠ d15) (h16 : c ≠ d16) (h17 : c ≠ d17) (h18 : c ≠ d18) (h19 : c ≠ d19) : va_up (va_up (va_up (va_up (va_up (va_up (va_up (va_up (va_up (va_up (va_up (va_up (va_up (va_up (va_up (va_up (va_up (va_up (va_up (va_up (va_up (va_up v c a) d0 x0) d1 x1) d2 x2) d3 x3) d4 x4) d5 x5) d6 x6) d7 x7) d8 x8) d9 x9) d10 x10) d11 x11) d12 x12) d13 x13) d14 x14) d15 x15) d16 x16) d17 x17) d18 x18) d19 x19) c b = (va_up (va_up (va_up (va_up (va_up (va_up (va_up (va_up (va_up (va_up (va_up (va_up (va_up (va_up (va_up (va_up (va_up (va_up (va_up (va_up (va_up v c b) d0 x0) d1 x1) d2 x2) d3 x3) d4 x4) d5 x5) d6 x6) d7 x7) d8 x8) d9 x9) d10 x10) d11 x11) d12 x12) d13 x13) d14 x14) d15 x15) d16 x16) d17 x17) d18 x18) d19 x19) := by
  funext k
  by_cases hk : k = c
  · subst hk; simp [va_up, h0, h1, h2, h3, h4, h5, h6, h7, h8, h9, h10, h11, h12, h13, h14, h15, h16, h17, h18, h19]
  · simp [va_up, hk]
theorem up_at21 {v : Nat → va_E} {c : Nat} {a b : va_E} {d0 d1 d2 d3 d4 d5 d6 d7 d8 d9 d10 d11 d12 d13 d14 d15 d16 d17 d18 d19 d20 : Nat} {x0 x1 x2 x3 x4 x5 x6 x7 x8 x9 x10 x11 x12 x13 x14 x15 x16 x17 x18 x19 x20 : va_E} (h0 : c ≠ d0) (h1 : c ≠ d1) (h2 : c ≠ d2) (h3 : c ≠ d3) (h4 : c ≠ d4) (h5 : c ≠ d5) (h6 : c ≠ d6) (h7 : c ≠ d7) (h8 : c ≠ d8) (h9 : c ≠ d9) (h10 : c ≠ d10) (h11 : c ≠ d11) (h12 : c ≠ d12) (h13 : c ≠ d13) (h14 : c ≠ d14) (h15 : c ≠ d15) (h16 : c ≠ d16) (h17 : c ≠ d17) (h18 : c ≠ d18) (h19 : c ≠ d19) (h20 : c ≠ d20) : va_up (va_up (va_up (va_up (va_up (va_up (va_up (va_up (va_up (va_up (va_up (va_up (va_up (va_up (va_up (va_up (va_up (va_up (va_up (va_up (va_up (va_up (va_up v c a) d0 x0) d1 x1) d2 x2) d3 x3) d4 x4) d5 x5) d6 x6) d7 x7) d8 x8) d9 x9) d10 x10) d11 x11) d12 x12) d13 x13) d14 x14) d15 x15) d16 x16) d17 x17) d18 x18) d19 x19) d20 x20) c b = (va_up (va_up (va_up (va_up (va_up (va_up (va_up (va_up (va_up (va_up (va_up (va_up (va_up (va_up (va_up (va_up (va_up (va_up (va_up (va_up (va_up (va_up v c b) d0 x0) d1 x1) d2 x2) d3 x3) d4 x4) d5 x5) d6 x6) d7 x7) d8 x8) d9 x9) d10 x10) d11 x11) d12 x12) d13 x13) d14 x14) d15 x15) d16 x16) d17 x17) d18 x18) d19 x19) d20 x20) := by
  funext k
  by_cases hk : k = c
  · subst hk; simp [va_up, h0, h1, h2, h3, h4, h5, h6, h7, h8, h9, h10, h11, h12, h13, h14, h15, h16, h17, h18, h19, h20]
  · simp [va_up, hk]
theorem up_at22 {v : Nat → va_E} {c : Nat} {a b : va_E} {d0 d1 d2 d3 d4 d5 d6 d7 d8 d9 d10 d11 d12 d13 d14 d15 d16 d17 d18 d19 d20 d21 : Nat} {x0 x1 x2 x3 x4 x5 x6 x7 x8 x9 x10 x11 x12 x13 x14 x15 x16 x17 x18 x19 x20 x21 : va_E} (h0 : c ≠ d0) (h1 : c ≠ d1) (h2 : c ≠ d2) (h3 : c ≠ d3) (h4 : c ≠ d4) (h5 : c ≠ d5) (h6 : c ≠ d6) (h7 : c ≠ d7) (h8 : c ≠ d8) (h9 : c ≠ d9) (h10 : c ≠ d10) (h11 : c ≠ d11) (h12 : c ≠ d12) (h13 : c ≠ d13) (h14 : c ≠ d14) (h15 : c ≠ d15) (h16 : c ≠ d16) (h17 : c ≠ d17) (h18 : c ≠ d18) (h19 : c ≠ d19) (h20 : c ≠ d20) (h21 : c ≠ d21) : va_up (va_up (va_up (va_up (va_up (va_up (va_up (va_up (va_up (va_up (va_up (va_up (va_up (va_up (va_up (va_up (va_up (va_up (va_up (va_up (va_up (va_up (va_up (va_up v c a) d0 x0) d1 x1) d2 x2) d3 x3) d4 x4) d5 x5) d6 x6) d7 x7) d8 x8) d9 x9) d10 x10) d11 x11) d12 x12) d13 x13) d14 x14) d15 x15) d16 x16) d17 x17) d18 x18) d19 x19) d20 x20) d21 x21) c b = (va_up (va_up (va_up (va_up (va_up (va_up (va_up (va_up (va_up (va_up (va_up (va_up (va_up (va_up (va_up (va_up (va_up (va_up (va_up (va_up (va_up (va_up (va_up v c b) d0 x0) d1 x1) d2 x2) d3 x3) d4 x4) d5 x5) d6 x6) d7 x7) d8 x8) d9 x9) d10 x10) d11 x11) d12 x12) d13 x13) d14 x14) d15 x15) d16 x16) d17 x17) d18 x18) d19 x19) d20 x20) d21 x21) := by
  funext k
  by_cases hk : k = c
  · subst hk; simp [va_up, h0, h1, h2, h3, h4, h5, h6, h7, h8, h9, h10, h11, h12, h13, h14, h15, h16, h17, h18, h19, h20, h21]
  · simp [va_up, hk]
theorem up_at23 {v : Nat → va_E} {c : Nat} {a b : va_E} {d0 d1 d2 d3 d4 d5 d6 d7 d8 d9 d10 d11 d12 d13 d14 d15 d16 d17 d18 d19 d20 d21 d22 : Nat} {x0 x1 x2 x3 x4 x5 x6 x7 x8 x9 x10 x11 x12 x13 x14 x15 x16 x17 x18 x19 x20 x21 x22 : va_E} (h0 : c ≠ d0) (h1 : c ≠ d1) (h2 : c ≠ d2) (h3 : c ≠ d3) (h4 : c ≠ d4) (h5 : c ≠ d5) (h6 : c ≠ d6) (h7 : c ≠ d7) (h8 : c ≠ d8) (h9 : c ≠ d9) (h10 : c ≠ d10) (h11 : c ≠ d11) (h12 : c ≠ d12) (h13 : c ≠ d13) (h14 : c ≠ d14) (h15 : c ≠ d15) (h16 : c ≠ d16) (h17 : c ≠ d17) (h18 : c ≠ d18) (h19 : c ≠ d19) (h20 : c ≠ d20) (h21 : c ≠ d21) (h22 : c ≠ d22) : va_up (va_up (va_up (va_up (va_up (va_up (va_up (va_up (va_up (va_up (va_up (va_up (va_up (va_up (va_up (va_up (va_up (va_up (va_up (va_up (va_up (va_up (va_up (va_up (va_up v c a) d0 x0) d1 x1) d2 x2) d3 x3) d4 x4) d5 x5) d6 x6) d7 x7) d8 x8) d9 x9) d10 x10) d11 x11) d12 x12) d13 x13) d14 x14) d15 x15) d16 x16) d17 x17) d18 x18) d19 x19) d20 x20) d21 x21) d22 x22) c b = (va_up (va_up (va_up (va_up (va_up (va_up (va_up (va_up (va_up (va_up (va_up (va_up (va_up (va_up (va_up (va_up (va_up (va_up (va_up (va_up (va_up (va_up (va_up (va_up v c b) d0 x0) d1 x1) d2 x2) d3 x3) d4 x4) d5 x5) d6 x6) d7 x7) d8 x8) d9 x9) d10 x10) d11 x11) d12 x12) d13 x13) d14 x14) d15 x15) d16 x16) d17 x17) d18 x18) d19 x19) d20 x20) d21 x21) d22 x22) := by
  funext k
  by_cases hk : k = c
  · subst hk; simp [va_up, h0, h1, h2, h3, h4, h5, h6, h7, h8, h9, h10, h11, h12, h13, h14, h15, h16, h17, h18, h19, h20, h21, h22]
  · simp [va_up, hk]
theorem up_at24 {v : Nat → va_E} {c : Nat} {a b : va_E} {d0 d1 d2 d3 d4 d5 d6 d7 d8 d9 d10 d11 d12 d13 d14 d15 d16 d17 d18 d19 d20 d21 d22 d23 : Nat} {x0 x1 x2 x3 x4 x5 x6 x7 x8 x9 x10 x11 x12 x13 x14 x15 x16 x17 x18 x19 x20 x21 x22 x23 : va_E} (h0 : c ≠ d0) (h1 : c ≠ d1) (h2 : c ≠ d2) (h3 : c ≠ d3) (h4 : c ≠ d4) (h5 : c ≠ d5) (h6 : c ≠ d6) (h7 : c ≠ d7) (h8 : c ≠ d8) (h9 : c ≠ d9) (h10 : c ≠ d10) (h11 : c ≠ d11) (h12 : c ≠ d12) (h13 : c ≠ d13) (h14 : c ≠ d14) (h15 : c ≠ d15) (h16 : c ≠ d16) (h17 : c ≠ d17) (h18 : c ≠ d18) (h19 : c ≠ d19) (h20 : c ≠ d20) (h21 : c ≠ d21) (h22 : c ≠ d22) (h23 : c ≠ d23) : va_up (va_up (va_up (va_up (va_up (va_up (va_up (va_up (va_up (va_up (va_up (va_up (va_up (va_up (va_up (va_up (va_up (va_up (va_up (va_up (va_up (va_up (va_up (va_up (va_up (va_up v c a) d0 x0) d1 x1) d2 x2) d3 x3) d4 x4) d5 x5) d6 x6) d7 x7) d8 x8) d9 x9) d10 x10) d11 x11) d12 x12) d13 x13) d14 x14) d15 x15) d16 x16) d17 x17) d18 x18) d19 x19) d20 x20) d21 x21) d22 x22) d23 x23) c b = (va_up (va_up (va_up (va_up (va_up (va_up (va_up (va_up (va_up (va_up (va_up (va_up (va_up (va_up (va_up (va_up (va_up (va_up (va_up (va_up (va_up (va_up (va_up (va_up (va_up v c b) d0 x0) d1 x1) d2 x2) d3 x3) d4 x4) d5 x5) d6 x6) d7 x7) d8 x8) d9 x9) d10 x10) d11 x11) d12 x12) d13 x13) d14 x14) d15 x15) d16 x16) d17 x17) d18 x18) d19 x19) d20 x20) d21 x21) d22 x22) d23 x23) := by
  funext k
  by_cases hk : k = c
  · subst hk; simp [va_up, h0, h1, h2, h3, h4, h5, h6, h7, h8, h9, h10, h11, h12, h13, h14, h15, h16, h17, h18, h19, h20, h21, h22, h23]
  · simp [va_up, hk]
theorem up_at25 {v : Nat → va_E} {c : Nat} {a b : va_E} {d0 d1 d2 d3 d4 d5 d6 d7 d8 d9 d10 d11 d12 d13 d14 d15 d16 d17 d18 d19 d20 d21 d22 d23 d24 : Nat} {x0 x1 x2 x3 x4 x5 x6 x7 x8 x9 x10 x11 x12 x13 x14 x15 x16 x17 x18 x19 x20 x21 x22 x23 x24 : va_E} (h0 : c ≠ d0) (h1 : c ≠ d1) (h2 : c ≠ d2) (h3 : c ≠ d3) (h4 : c ≠ d4) (h5 : c ≠ d5) (h6 : c ≠ d6) (h7 : c ≠ d7) (h8 : c ≠ d8) (h9 : c ≠ d9) (h10 : c ≠ d10) (h11 : c ≠ d11) (h12 : c ≠ d12) (h13 : c ≠ d13) (h14 : c ≠ d14) (h15 : c ≠ d15) (h16 : c ≠ d16) (h17 : c ≠ d17) (h18 : c ≠ d18) (h19 : c ≠ d19) (h20 : c ≠ d20) (h21 : c ≠ d21) (h22 : c ≠ d22) (h23 : c ≠ d23) (h24 : c ≠ d24) : va_up (va_up (va_up (va_up (va_up (va_up (va_up (va_up (va_up (va_up (va_up (va_up (va_up (va_up (va_up (va_up (va_up (va_up (va_up (va_up (va_up (va_up (va_up (va_up (va_up (va_up (va_up v c a) d0 x0) d1 x1) d2 x2) d3 x3) d4 x4) d5 x5) d6 x6) d7 x7) d8 x8) d9 x9) d10 x10) d11 x11) d12 x12) d13 x13) d14 x14) d15 x15) d16 x16) d17 x17) d18 x18) d19 x19) d20 x20) d21 x21) d22 x22) d23 x23) d24 x24) c b = (va_up (va_up (va_up (va_up (va_up (va_up (va_up (va_up (va_up (va_up (va_up (va_up (va_up (va_up (va_up (va_up (va_up (va_up (va_up (va_up (va_up (va_up (va_up (va_up (va_up (va_up v c b) d0 x0) d1 x1) d2 x2) d3 x3) d4 x4) d5 x5) d6 x6) d7 x7) d8 x8) d9 x9) d10 x10) d11 x11) d12 x12) d13 x13) d14 x14) d15 x15) d16 x16) d17 x17) d18 x18) d19 x19) d20 x20) d21 x21) d22 x22) d23 x23) d24 x24) := by
  funext k
  by_cases hk : k = c
  · subst hk; simp [va_up, h0, h1, h2, h3, h4, h5, h6, h7, h8, h9, h10, h11, h12, h13, h14, h15, h16, h17, h18, h19, h20, h21, h22, h23, h24]
  · simp [va_up, hk]
theorem up_at26 {v : Nat → va_E} {c : Nat} {a b : va_E} {d0 d1 d2 d3 d4 d5 d6 d7 d8 d9 d10 d11 d12 d13 d14 d15 d16 d17 d18 d19 d20 d21 d22 d23 d24 d25 : Nat} {x0 x1 x2 x3 x4 x5 x6 x7 x8 x9 x10 x11 x12 x13 x14 x15 x16 x17 x18 x19 x20 x21 x22 x23 x24 x25 : va_E} (h0 : c ≠ d0) (h1 : c ≠ d1) (h2 : c ≠ d2) (h3 : c ≠ d3) (h4 : c ≠ d4) (h5 : c ≠ d5) (h6 : c ≠ d6) (h7 : c ≠ d7) (h8 : c ≠ d8) (h9 : c ≠ d9) (h10 : c ≠ d10) (h11 : c ≠ d11) (h12 : c ≠ d12) (h13 : c ≠ d13) (h14 : c ≠ d14) (h15 : c ≠ d15) (h16 : c ≠ d16) (h17 : c ≠ d17) (h18 : c ≠ d18) (h19 : c ≠ d19) (h20 : c ≠ d20) (h21 : c ≠ d21) (h22 : c ≠ d22) (h23 : c ≠ d23) (h24 : c ≠ d24) (h25 : c ≠ d25) : va_up (va_up (va_up (va_up (va_up (va_up (va_up (va_up (va_up (va_up (va_up (va_up (va_up (va_up (va_up (va_up (va_up (va_up (va_up (va_up (va_up (va_up (va_up (va_up (va_up (va_up (va_up (va_up v c a) d0 x0) d1 x1) d2 x2) d3 x3) d4 x4) d5 x5) d6 x6) d7 x7) d8 x8) d9 x9) d10 x10) d11 x11) d12 x12) d13 x13) d14 x14) d15 x15) d16 x16) d17 x17) d18 x18) d19 x19) d20 x20) d21 x21) d22 x22) d23 x23) d24 x24) d25 x25) c b = (va_up (va_up (va_up (va_up (va_up (va_up (va_up (va_up (va_up (va_up (va_up (va_up (va_up (va_up (va_up (va_up (va_up (va_up (va_up (va_up (va_up (va_up (va_up (va_up (va_up (va_up (va_up v c b) d0 x0) d1 x1) d2 x2) d3 x3) d4 x4) d5 x5) d6 x6) d7 x7) d8 x8) d9 x9) d10 x10) d11 x11) d12 x12) d13 x13) d14 x14) d15 x15) d16 x16) d17 x17) d18 x18) d19 x19) d20 x20) d21 x21) d22 x22) d23 x23) d24 x24) d25 x25) := by
  funext k
  by_cases hk : k = c
  · subst hk; simp [va_up, h0, h1, h2, h3, h4, h5, h6, h7, h8, h9, h10, h11, h12, h13, h14, h15, h16, h17, h18, h19, h20, h21, h22, h23, h24, h25]
  · simp [va_up, hk]
theorem nb_ok {x : Int} (h : 0 ≤ x ∧ x ≤ 1) : narrow .boolean (.int (zI x)) = .int (zI x) := by
  have h2 : x = 0 ∨ x = 1 := by omega
  rcases h2 with rfl | rfl <;> rfl
theorem cz_lt {a b : Int} (h : cmpZ a b < 0) : a < b := cmpZ_lt.mp h
theorem cz_lt_n {a b : Int} (h : ¬ cmpZ a b < 0) : ¬ a < b := fun q => h (cmpZ_lt.mpr q)
theorem cz_le {a b : Int} (h : cmpZ a b ≤ 0) : a ≤ b := cmpZ_le.mp h
theorem cz_le_n {a b : Int} (h : ¬ cmpZ a b ≤ 0) : ¬ a ≤ b := fun q => h (cmpZ_le.mpr q)
theorem cz_gt {a b : Int} (h : 0 < cmpZ a b) : b < a := by
  have := cmpZ_le (a := a) (b := b); omega
theorem cz_gt_n {a b : Int} (h : ¬ 0 < cmpZ a b) : ¬ b < a := by
  have := cmpZ_le (a := a) (b := b); omega
theorem cz_ge {a b : Int} (h : 0 ≤ cmpZ a b) : b ≤ a := by
  have := cmpZ_lt (a := a) (b := b); omega
theorem cz_ge_n {a b : Int} (h : ¬ 0 ≤ cmpZ a b) : ¬ b ≤ a := by
  have := cmpZ_lt (a := a) (b := b); omega
theorem cz_eq {a b : Int} (h : cmpZ a b = 0) : a = b := cmpZ_eq.mp h
theorem cz_eq_n {a b : Int} (h : ¬ cmpZ a b = 0) : ¬ a = b := fun q => h (cmpZ_eq.mpr q)
section XNames
variable {Γ : XT} {E : XE} {B : Nat} {cc : ByteArray} {own : String} {Ts : List Cond} {rm : Room} {N : Nat} {v : Nat → va_E} {L : List (Nat × Value)} {kc ks pc : Nat} {st : List Value}
theorem x_nm {a : Int} (k : ∀ z : Int, z = a → XW Γ N v L kc ks pc (.int (zI z) :: st)) : XW Γ N v L kc ks pc (.int (zI a) :: st) := k a rfl
theorem x_L {L' : List (Nat × Value)} (h : L' = L) (k : XW Γ N v L' kc ks pc st) : XW Γ N v L kc ks pc st := h ▸ k
theorem x_nmN {a : Int} {m : Nat} (h : a = (m : Int)) (k : ∀ z : Nat, z = m → XW Γ N v L kc ks pc (.int (zI (z : Int)) :: st)) : XW Γ N v L kc ks pc (.int (zI a) :: st) := by
  subst h
  exact k m rfl
theorem x_nml {a : Int} (k : ∀ z : Int, z = a → XW Γ N v L kc ks pc (.long (zL z) :: st)) : XW Γ N v L kc ks pc (.long (zL a) :: st) := k a rfl
theorem x_tswIn {dflt lo hi : Int} {offs : Array Int} {len : Nat} {a : Int} {off : Int} {tgt : Nat} (K : Cx Γ E B cc own Ts rm) (ha : -2147483648 ≤ a ∧ a ≤ 2147483647) (h1 : ¬ a < lo) (h2 : ¬ hi < a) (hd : decode cc pc = .ok (.tableswitch dflt lo hi offs, len)) (ho : offs[(a - lo).toNat]? = some off) (ht : (pc : Int) + off = (tgt : Int)) (k : XW Γ N v L kc ks tgt st) : XW Γ N v L kc ks pc (.int (zI a) :: st) := by
  obtain ⟨p, l, e, R, s, m, args, below, meth, c, E', B', Q, nL⟩ := Γ
  obtain ⟨rfl, rfl, hx, hb, hown, hts, hK, hml, hA, rfl⟩ := K
  exact fun H locs ls hP hS hl => lv_tableIn hx hb hd (by rw [zI_toInt ha]; exact h1) (by rw [zI_toInt ha]; exact h2) (by rw [zI_toInt ha]; exact ho) ht (k H locs ls hP hS hl)
theorem x_tswOut {dflt lo hi : Int} {offs : Array Int} {len : Nat} {a : Int} {tgt : Nat} (K : Cx Γ E B cc own Ts rm) (ha : -2147483648 ≤ a ∧ a ≤ 2147483647) (h1 : a < lo ∨ hi < a) (hd : decode cc pc = .ok (.tableswitch dflt lo hi offs, len)) (ht : (pc : Int) + dflt = (tgt : Int)) (k : XW Γ N v L kc ks tgt st) : XW Γ N v L kc ks pc (.int (zI a) :: st) := by
  obtain ⟨p, l, e, R, s, m, args, below, meth, c, E', B', Q, nL⟩ := Γ
  obtain ⟨rfl, rfl, hx, hb, hown, hts, hK, hml, hA, rfl⟩ := K
  exact fun H locs ls hP hS hl => lv_tableOut hx hb hd (by rw [zI_toInt ha]; exact h1) ht (k H locs ls hP hS hl)
end XNames
theorem fz_ok {x : Int} (h : 0 ≤ x ∧ x ≤ 1) : fits .boolean (.int (zI x)) = true := by
  have h2 : x = 0 ∨ x = 1 := by omega
  rcases h2 with rfl | rfl <;> rfl
/-- f from sp on, n places, laid over g from dp on -/
def cpI (f g : Nat → Int) (sp dp n : Nat) : Nat → Int := fun k => if dp ≤ k ∧ k < dp + n then f (sp + (k - dp)) else g k
theorem cpI_0 (f g : Nat → Int) (sp dp : Nat) : cpI f g sp dp 0 = g := by
  funext k; unfold cpI; rw [if_neg (by omega)]
theorem cpI_s (f g : Nat → Int) (sp dp n : Nat) : va_up (cpI f g sp dp n) (dp + n) (f (sp + n)) = cpI f g sp dp (n + 1) := by
  funext k
  by_cases h : k = dp + n
  · subst h
    rw [va_up_self]
    unfold cpI
    rw [if_pos (by omega)]
    congr 1; omega
  · rw [va_up_ne _ _ h]
    unfold cpI
    by_cases h2 : dp ≤ k ∧ k < dp + n
    · rw [if_pos h2, if_pos (by omega)]
    · rw [if_neg h2, if_neg (by omega)]
theorem cpI_in {f g : Nat → Int} {sp dp n k : Nat} (h : dp ≤ k ∧ k < dp + n) : cpI f g sp dp n k = f (sp + (k - dp)) := by
  unfold cpI; rw [if_pos h]
theorem cpI_out {f g : Nat → Int} {sp dp n k : Nat} (h : ¬ (dp ≤ k ∧ k < dp + n)) : cpI f g sp dp n k = g k := by
  unfold cpI; rw [if_neg h]
/-! making; instanceof; the library -/
section XMake
variable {Γ : XT} {E : XE} {B : Nat} {cc : ByteArray} {own : String} {Ts : List Cond} {rm : Room} {N : Nat} {v : Nat → va_E} {L : List (Nat × Value)} {kc ks pc : Nat} {st : List Value}
theorem x_new {C : String} {T : u_T} {n ci idx : Nat} {fs : List Value} (K : Cx Γ E B cc own Ts rm) (hc : vwCl[ci]? = some (C, T, n)) (hin : ∀ w ∈ u_ws C T n, w ∈ Ts) (ty0 : Nat → FieldType) (hty : ∀ k, k < n → parseFieldDescriptor (T k).2.2.1 = some (ty0 k)) (hcl : Cond.classLink own idx C ∈ Ts) (hinst : Cond.instantiable C n ∈ Ts) (hini : Cond.initialized C ∈ Ts) (hfs : ∀ j, j < n → defaultValue (ty0 j) = vp_V fs j) (hkc : kc + 1 ≤ rm.cells) (hks : ks + n ≤ rm.slots) (hd : decode cc pc = .ok (.new idx, 3)) (k : XW Γ (N + 1) (va_up v N (.inr (ci, fs))) L (kc + 1) (ks + n) (pc + 3) (.ref (B + N) :: st)) : XW Γ N v L kc ks pc st := by
  obtain ⟨p, l, e, R, s, m, args, below, meth, c0, E', B', Q, nL⟩ := Γ
  obtain ⟨rfl, rfl, hx, hb, hown, hts, hK, hml, hA, rfl⟩ := K
  intro H locs ls hP hS hl
  have hKn := hK.1 ci _ hc
  have hsz := hP.1
  refine W.newcK hx hb hown (hts _ hcl) (hts _ hinst) (hts _ hini) rfl hd hkc hks hKn.2.1 hsz fun H1 kC hkC e1 z1 o1 => ?_
  exact k H1 locs ls (gP_push hP (z1.trans (by rw [hsz])) ⟨_, hc, (u_born ty0 hts hin hKn hkC e1 hty).to hfs⟩ (fun q hq => o1 q (by omega))) ⟨Nat.le_trans hS.1 (by omega), fun x h1 h2 => (o1 x (by have := hS.1; omega)).trans (hS.2.1 x h1 h2), hS.2.2⟩ hl
theorem x_newa_iarr {a : Int} (k0 : Nat) (K : Cx Γ E B cc own Ts rm) (harr : Cond.arrayClass .int ∈ Ts) (ha : a = (k0 : Int)) (h0 : k0 < 1000000) (hkc : kc + 1 ≤ rm.cells) (hks : ks + k0 ≤ rm.slots) (hd : decode cc pc = .ok (.newarray .int, 2)) (k : XW Γ (N + 1) (va_up v N (iarr E k0 (fun _ => 0))) L (kc + 1) (ks + k0) (pc + 2) (.ref (B + N) :: st)) : XW Γ N v L kc ks pc (.int (zI a) :: st) := by
  obtain ⟨p, l, e, R, s, m, args, below, meth, c0, E', B', Q, nL⟩ := Γ
  obtain ⟨rfl, rfl, hx, hb, hown, hts, hK, hml, hA, rfl⟩ := K
  intro H locs ls hP hS hl
  have hsz := hP.1
  have hin := zI_in (n := k0 + 1) ha (by omega) (by omega)
  refine va_newaK (atype := .int) hx hb (hts _ harr) rfl hd rfl (fun q => hin (Or.inl q)) (zI_cl ha (by omega)) (by show k0 * 4 ≤ _; omega) hkc hks hsz fun H1 cA e1 z1 o1 hAr hNm => ?_
  have hcA : cA = E'.2.1 0 := Option.some.inj (hNm.symm.trans (hK.2 0 _ rfl).2)
  subst hcA
  exact k H1 locs ls (gP_push hP (z1.trans (by rw [hsz])) e1 (fun q hq => o1 q (by omega))) ⟨Nat.le_trans hS.1 (by omega), fun x h1 h2 => (o1 x (by have := hS.1; omega)).trans (hS.2.1 x h1 h2), hS.2.2⟩ hl
theorem x_newa_barr {a : Int} (k0 : Nat) (K : Cx Γ E B cc own Ts rm) (harr : Cond.arrayClass .boolean ∈ Ts) (ha : a = (k0 : Int)) (h0 : k0 < 1000000) (hkc : kc + 1 ≤ rm.cells) (hks : ks + k0 ≤ rm.slots) (hd : decode cc pc = .ok (.newarray .boolean, 2)) (k : XW Γ (N + 1) (va_up v N (barr E k0 (fun _ => 0))) L (kc + 1) (ks + k0) (pc + 2) (.ref (B + N) :: st)) : XW Γ N v L kc ks pc (.int (zI a) :: st) := by
  obtain ⟨p, l, e, R, s, m, args, below, meth, c0, E', B', Q, nL⟩ := Γ
  obtain ⟨rfl, rfl, hx, hb, hown, hts, hK, hml, hA, rfl⟩ := K
  intro H locs ls hP hS hl
  have hsz := hP.1
  have hin := zI_in (n := k0 + 1) ha (by omega) (by omega)
  refine va_newaK (atype := .boolean) hx hb (hts _ harr) rfl hd rfl (fun q => hin (Or.inl q)) (zI_cl ha (by omega)) (by show k0 * 1 ≤ _; omega) hkc hks hsz fun H1 cA e1 z1 o1 hAr hNm => ?_
  have hcA : cA = E'.2.1 1 := Option.some.inj (hNm.symm.trans (hK.2 1 _ rfl).2)
  subst hcA
  exact k H1 locs ls (gP_push hP (z1.trans (by rw [hsz])) e1 (fun q hq => o1 q (by omega))) ⟨Nat.le_trans hS.1 (by omega), fun x h1 h2 => (o1 x (by have := hS.1; omega)).trans (hS.2.1 x h1 h2), hS.2.2⟩ hl
theorem x_newq {a : Int} {C : String} {t idx : Nat} (k0 : Nat) (K : Cx Γ E B cc own Ts rm) (ht : (xT E.2.1)[t]? = some (E.2.1 t, .object C)) (hlk : Cond.classLink own idx C ∈ Ts) (hov : C ∈ xAr) (ha : a = (k0 : Int)) (h0 : k0 < 1000000) (hkc : kc + 1 ≤ rm.cells) (hks : ks + k0 ≤ rm.slots) (hd : decode cc pc = .ok (.anewarray idx, 3)) (k : XW Γ (N + 1) (va_up v N (rarr E t k0 B (fun _ => none))) L (kc + 1) (ks + k0) (pc + 3) (.ref (B + N) :: st)) : XW Γ N v L kc ks pc (.int (zI a) :: st) := by
  obtain ⟨p, l, e, R, s, m, args, below, meth, c0, E', B', Q, nL⟩ := Γ
  obtain ⟨rfl, rfl, hx, hb, hown, hts, hK, hml, hA, rfl⟩ := K
  intro H locs ls hP hS hl
  have hsz := hP.1
  have hin := zI_in (n := k0 + 1) ha (by omega) (by omega)
  have hcl := zI_cl ha (show k0 < 2147483648 by omega)
  refine W.anew hx hb hown (hts _ hlk) (va_AO.use (hA.2.2.2.2.2.2.2.1 C hov)) rfl hd rfl (fun q => hin (Or.inl q)) (by rw [hcl]; omega) hkc (by rw [hcl]; exact hks) fun cA kA comp f1 f2 f3 f4 => ?_
  obtain ⟨kA', comp', g1, g2, g3, g4⟩ := (hK.2 t _ ht).2
  have hcA : cA = E'.2.1 t := Option.some.inj (f1.symm.trans g4)
  subst hcA
  rw [hcl, hsz]
  refine k _ locs ls (gP_push hP (by rw [Array.size_push]) ?_ (fun q hq => by rw [Array.getElem?_push, if_neg (Nat.ne_of_lt hq)])) ⟨Nat.le_trans hS.1 (by rw [Array.size_push]; omega), fun x h1 h2 => ?_, hS.2.2⟩ hl
  · show (H.push _)[B' + N]? = some (vp_cell _ _)
    rw [← hsz, Array.getElem?_push_size, vp_cell_q, arrV_new]
    rfl
  · rw [Array.getElem?_push, if_neg (Nat.ne_of_lt (Nat.lt_of_lt_of_le h1 hS.1))]
    exact hS.2.1 x h1 h2
theorem x_instS {C nm : String} {T : u_T} {n ci c idx : Nat} {fs : List Value} (K : Cx Γ E B cc own Ts rm) (hv : Cel N v c (.inr (ci, fs))) (hc : vwCl[ci]? = some (C, T, n)) (hlk : Cond.classLink own idx nm ∈ Ts) (hnm : C = nm) (hd : decode cc pc = .ok (.instanceof idx, 3)) (k : XW Γ N v L kc ks (pc + 3) (.int (zI 1) :: st)) : XW Γ N v L kc ks pc (.ref (B + c) :: st) := by
  subst hnm
  obtain ⟨p, l, e, R, s, m, args, below, meth, c0, E', B', Q, nL⟩ := Γ
  obtain ⟨rfl, rfl, hx, hb, hown, hts, hK, hml, hA, rfl⟩ := K
  intro H locs ls hP hS hl
  exact va_instS hx hb hown (hts _ hlk) (hK.1 ci _ hc).2 (x_recv hK hP hv hc) hd (k H locs ls hP hS hl)
theorem x_instY {C nm : String} {T : u_T} {n ci c idx : Nat} {fs : List Value} (K : Cx Γ E B cc own Ts rm) (hv : Cel N v c (.inr (ci, fs))) (hc : vwCl[ci]? = some (C, T, n)) (hlk : Cond.classLink own idx nm ∈ Ts) (hnm : (C, nm) ∈ xYes) (hd : decode cc pc = .ok (.instanceof idx, 3)) (k : XW Γ N v L kc ks (pc + 3) (.int (zI 1) :: st)) : XW Γ N v L kc ks pc (.ref (B + c) :: st) := by
  obtain ⟨p, l, e, R, s, m, args, below, meth, c0, E', B', Q, nL⟩ := Γ
  obtain ⟨rfl, rfl, hx, hb, hown, hts, hK, hml, hA, rfl⟩ := K
  intro H locs ls hP hS hl
  exact va_instY hx hb hown (hts _ hlk) (hA.2.2.1 _ hnm) (x_recv hK hP hv hc) hd (k H locs ls hP hS hl)
theorem x_instN {C nm : String} {T : u_T} {n ci c idx : Nat} {fs : List Value} (K : Cx Γ E B cc own Ts rm) (hv : Cel N v c (.inr (ci, fs))) (hc : vwCl[ci]? = some (C, T, n)) (hlk : Cond.classLink own idx nm ∈ Ts) (hnm : (C, nm) ∈ xNo) (hd : decode cc pc = .ok (.instanceof idx, 3)) (k : XW Γ N v L kc ks (pc + 3) (.int (zI 0) :: st)) : XW Γ N v L kc ks pc (.ref (B + c) :: st) := by
  obtain ⟨p, l, e, R, s, m, args, below, meth, c0, E', B', Q, nL⟩ := Γ
  obtain ⟨rfl, rfl, hx, hb, hown, hts, hK, hml, hA, rfl⟩ := K
  intro H locs ls hP hS hl
  exact va_instNo hx hb hown (hts _ hlk) (hA.2.1 _ hnm) (x_recv hK hP hv hc) hd (k H locs ls hP hS hl)
theorem x_mabs {a : Int} {idx : Nat} (K : Cx Γ E B cc own Ts rm) (hlk : Cond.methodLink own idx Lib.Math.abs.name ∈ Ts) (hst : Cond.static Lib.Math.abs.name ∈ Ts) (hin : Cond.initialized "java/lang/Math" ∈ Ts) (hcd : Cond.code Lib.Math.abs.name Lib.Math.abs.code 1 (some .int) ∈ Ts) (hfr : 1 ≤ rm.frames) (hlo : (st.map fun v => v.category).sum + 13 ≤ rm.locals) (hkc : kc ≤ rm.cells) (hks : ks ≤ rm.slots) (ha : -2147483647 ≤ a ∧ a ≤ 2147483647) (hd : decode cc pc = .ok (.invokestatic idx, 3)) (k : XW Γ N v L kc ks (pc + 3) (.int (zI (a.natAbs : Int)) :: st)) : XW Γ N v L kc ks pc (.int (zI a) :: st) := by
  obtain ⟨p, l, e, R, s, m, args, below, meth, c0, E', B', Q, nL⟩ := Γ
  obtain ⟨rfl, rfl, hx, hb, hown, hts, hK, hml, hA, rfl⟩ := K
  intro H locs ls hP hS hl
  refine va_mabs hx hb (hml.trans hl.1.symm) hown (hts _ hlk) (hts _ hst) (hts _ hin) (hts _ hcd) hfr hlo hkc hks hd ?_
  have e1 : (if 0 ≤ zI a then zI a else 0 - zI a) = zI (a.natAbs : Int) := by
    have h2 : (0 ≤ zI a) ↔ 0 ≤ a := by
      have := zI_le (a := 0) (b := a) (by omega) (by omega)
      rw [← zI_0] at this
      exact this
    by_cases h : 0 ≤ a
    · rw [if_pos (h2.mpr h)]; congr 1; omega
    · rw [if_neg (fun q => h (h2.mp q)), zI_0, zI_sub]; congr 1; omega
  rw [e1]
  exact k H locs ls hP hS hl
theorem x_mmin {a b : Int} {idx : Nat} (K : Cx Γ E B cc own Ts rm) (hlk : Cond.methodLink own idx Lib.Math.min.name ∈ Ts) (hst : Cond.static Lib.Math.min.name ∈ Ts) (hin : Cond.initialized "java/lang/Math" ∈ Ts) (hcd : Cond.code Lib.Math.min.name Lib.Math.min.code 2 (some .int) ∈ Ts) (hfr : 1 ≤ rm.frames) (hlo : (st.map fun v => v.category).sum + 13 ≤ rm.locals) (hkc : kc ≤ rm.cells) (hks : ks ≤ rm.slots) (ha : -2147483648 ≤ a ∧ a ≤ 2147483647) (hb9 : -2147483648 ≤ b ∧ b ≤ 2147483647) (hd : decode cc pc = .ok (.invokestatic idx, 3)) (k : XW Γ N v L kc ks (pc + 3) (.int (zI (min a b)) :: st)) : XW Γ N v L kc ks pc (.int (zI b) :: .int (zI a) :: st) := by
  obtain ⟨p, l, e, R, s, m, args, below, meth, c0, E', B', Q, nL⟩ := Γ
  obtain ⟨rfl, rfl, hx, hb, hown, hts, hK, hml, hA, rfl⟩ := K
  intro H locs ls hP hS hl
  refine va_mmin hx hb (hml.trans hl.1.symm) hown (hts _ hlk) (hts _ hst) (hts _ hin) (hts _ hcd) hfr hlo hkc hks hd ?_
  have e1 : (if zI b < zI a then zI b else zI a) = zI (min a b) := by
    by_cases h : b < a
    · rw [if_pos ((zI_lt hb9 ha).mpr h)]; congr 1; omega
    · rw [if_neg (fun q => h ((zI_lt hb9 ha).mp q))]; congr 1; omega
  rw [e1]
  exact k H locs ls hP hS hl
theorem x_mmax {a b : Int} {idx : Nat} (K : Cx Γ E B cc own Ts rm) (hlk : Cond.methodLink own idx Lib.Math.max.name ∈ Ts) (hst : Cond.static Lib.Math.max.name ∈ Ts) (hin : Cond.initialized "java/lang/Math" ∈ Ts) (hcd : Cond.code Lib.Math.max.name Lib.Math.max.code 2 (some .int) ∈ Ts) (hfr : 1 ≤ rm.frames) (hlo : (st.map fun v => v.category).sum + 13 ≤ rm.locals) (hkc : kc ≤ rm.cells) (hks : ks ≤ rm.slots) (ha : -2147483648 ≤ a ∧ a ≤ 2147483647) (hb9 : -2147483648 ≤ b ∧ b ≤ 2147483647) (hd : decode cc pc = .ok (.invokestatic idx, 3)) (k : XW Γ N v L kc ks (pc + 3) (.int (zI (max a b)) :: st)) : XW Γ N v L kc ks pc (.int (zI b) :: .int (zI a) :: st) := by
  obtain ⟨p, l, e, R, s, m, args, below, meth, c0, E', B', Q, nL⟩ := Γ
  obtain ⟨rfl, rfl, hx, hb, hown, hts, hK, hml, hA, rfl⟩ := K
  intro H locs ls hP hS hl
  refine va_mmax hx hb (hml.trans hl.1.symm) hown (hts _ hlk) (hts _ hst) (hts _ hin) (hts _ hcd) hfr hlo hkc hks hd ?_
  have e1 : (if zI a < zI b then zI b else zI a) = zI (max a b) := by
    by_cases h : a < b
    · rw [if_pos ((zI_lt ha hb9).mpr h)]; congr 1; omega
    · rw [if_neg (fun q => h ((zI_lt ha hb9).mp q))]; congr 1; omega
  rw [e1]
  exact k H locs ls hP hS hl
theorem x_copyI {d c n0 n1 : Nat} {f g : Nat → Int} {sp dp n : Int} {idx : Nat} (i j k0 : Nat) (K : Cx Γ E B cc own Ts rm) (hlk : Cond.methodLink own idx arraycopyName ∈ Ts) (hnat : Cond.native arraycopyName ∈ Ts) (hst : Cond.static arraycopyName ∈ Ts) (hini : Cond.initialized "java/lang/System" ∈ Ts) (hv0 : Cel N v d (iarr E n0 f)) (hv1 : Cel N v c (iarr E n1 g)) (hi : sp = (i : Int)) (hj : dp = (j : Int)) (hk : n = (k0 : Int)) (h4 : i + k0 ≤ n0) (h5 : j + k0 ≤ n1) (hn : n0 < 2147483648 ∧ n1 < 2147483648)  (hfr : 1 ≤ rm.frames) (hlo : (st.map fun v => v.category).sum + (nativeFrameWords "java/lang/System" "arraycopy" 5 + 11) ≤ rm.locals) (hd : decode cc pc = .ok (.invokestatic idx, 3)) (k : XW Γ N (va_up v c (iarr E n1 (cpI f g i j k0))) L kc ks (pc + 3) st) : XW Γ N v L kc ks pc (.int (zI n) :: .int (zI dp) :: .ref (B + c) :: .int (zI sp) :: .ref (B + d) :: st) := by
  obtain ⟨p, l, e, R, s, m, args, below, meth, c9, E', B', Q, nL⟩ := Γ
  obtain ⟨rfl, rfl, hx, hb, hown, hts, hK, hml, hA, rfl⟩ := K
  intro H locs ls hP hS hl
  have hc0 := hP.2 d hv0.1
  rw [hv0.2] at hc0
  have hc1 := hP.2 c hv1.1
  rw [hv1.2] at hc1
  have hc0 : H[B' + d]? = some (vp_cell (E'.2.1 0) (n0, .inl (fun k => zI (f k)))) := hc0
  have hc1 : H[B' + c]? = some (vp_cell (E'.2.1 0) (n1, .inl (fun k => zI (g k)))) := hc1
  have ei := zI_cl hi (show i < 2147483648 by omega)
  have ej := zI_cl hj (show j < 2147483648 by omega)
  have ek := zI_cl hk (show k0 < 2147483648 by omega)
  have ti : (zI sp).toInt = (i : Int) := by rw [zI_toInt (by omega)]; exact hi
  have tj : (zI dp).toInt = (j : Int) := by rw [zI_toInt (by omega)]; exact hj
  have tk : (zI n).toInt = (k0 : Int) := by rw [zI_toInt (by omega)]; exact hk
  have nneg : ∀ (z : Int) (q : Nat), z = (q : Int) → q < 2147483648 → ¬ zI z < 0 := fun z q hz hq h => by
    have := (zI_lt (a := z) (b := 0) (by omega) (by omega)).mp (zI_0 ▸ h)
    omega
  intro T hT X
  obtain ⟨-, k9, hk9, cm9, hkk9⟩ := (hK.2 0 _ rfl).1 n0 (fun j => .int (zI (f j)))
  obtain ⟨-, k8, hk8, cm8, hkk8⟩ := (hK.2 0 _ rfl).1 n1 (fun j => .int (zI (g j)))
  obtain ⟨vm', X', step⟩ := X.arraycopy hx hown (hts _ hlk) (hts _ hnat) (hts _ hst) (hts _ hini) (src := B' + d) (dst := B' + c) (cs := vp_cell (E'.2.1 0) (n0, .inl (fun k => zI (f k)))) (cd := vp_cell (E'.2.1 0) (n1, .inl (fun k => zI (g k)))) (srcPos := zI sp) (destPos := zI dp) (n := zI n) (by rw [hT]; exact hc0) (by rw [hT]; exact hc1)
    (fun _ h => by cases h) (fun _ h => by cases h) (fun h => by cases h) (fun h => by cases h) hk9 hk8 hkk9 hkk8 rfl (nneg _ _ hi (by omega)) (nneg _ _ hj (by omega)) (nneg _ _ hk (by omega))
    (by rw [ti, tk]; show ¬ _ > ((arrV (E'.2.1 0) n0 (fun j => .int (zI (f j)))).slots.size : Int); rw [arrV_size]; omega)
    (by rw [tj, tk]; show ¬ _ > ((arrV (E'.2.1 0) n1 (fun j => .int (zI (g j)))).slots.size : Int); rw [arrV_size]; omega)
    (fun vm₁ _ q hq => by
      have hq2 : q < k0 := by rw [← ek]; exact hq
      have e9 : (vp_cell (E'.2.1 0) (n0, .inl (fun k => zI (f k)))).slots.getD ((zI sp).toNatClampNeg + q) .null = .int (zI (f (i + q))) := by
        show (arrV (E'.2.1 0) n0 (fun j => .int (zI (f j)))).slots.getD _ _ = _
        rw [ei, Array.getD_eq_getD_getElem?, arrV_read _ _ (by omega)]
        rfl
      refine ⟨?_, ?_⟩
      · rw [e9]
        exact rfl
      · rw [e9]
        exact trivial)
    (g := F0 m pc ls (.int (zI n) :: .int (zI dp) :: .ref (B' + c) :: .int (zI sp) :: .ref (B' + d) :: st)) rfl (by rw [hml]; exact hl.1) (rest := st) rfl (by rw [hb]; exact hd) hfr (by show 2 * 0 + _ + _ ≤ _; omega)
  have e1 : copied (vp_cell (E'.2.1 0) (n0, .inl (fun k => zI (f k)))) (vp_cell (E'.2.1 0) (n1, .inl (fun k => zI (g k)))) (zI sp) (zI dp) (zI n) = vp_cell (E'.2.1 0) (n1, .inl (fun k => zI (cpI f g i j k0 k))) := by
    refine (va_copied (n0 := n0) (n1 := n1) (sp := (zI sp).toNatClampNeg) (dp := (zI dp).toNatClampNeg) (n := (zI n).toNatClampNeg) (fun z => .int z) (E'.2.1 0) (E'.2.1 0) (fun k => zI (f k)) (fun k => zI (g k)) (show (zI sp).toNatClampNeg + (zI n).toNatClampNeg ≤ n0 by rw [ei, ek]; exact h4)).trans ?_
    rw [ei, ej, ek]
    rw [vp_cell_i]
    congr 1
    funext q
    unfold va_cpy cpI
    split <;> rfl
  rw [e1] at X' step
  have hl9 : B' + c < H.size := (Array.getElem?_eq_some_iff.mp hc1).1
  have hheap : ((T.setVm vm').setCell (B' + c) (vp_cell (E'.2.1 0) (n1, .inl (fun k => zI (cpI f g i j k0 k))))).heap = H.setIfInBounds (B' + c) (vp_cell (E'.2.1 0) (n1, .inl (fun k => zI (cpI f g i j k0 k)))) := by rw [← hT]; rfl
  have oq : ∀ q : Nat, q ≠ B' + c → (H.setIfInBounds (B' + c) (vp_cell (E'.2.1 0) (n1, .inl (fun k => zI (cpI f g i j k0 k)))))[q]? = H[q]? := fun q hq => by simp [Array.getElem?_setIfInBounds, Ne.symm hq]
  obtain ⟨t9, a1, b1⟩ := k _ _ ls (gP_set hP (by simp) (show (H.setIfInBounds (B' + c) _)[B' + c]? = some _ by simp [Array.getElem?_setIfInBounds, hl9]) oq) ⟨by simp; exact hS.1, fun q g1 g2 => by
      rw [oq q (fun e => g2 (by rw [e]; exact Nat.le_add_right _ _))]
      exact hS.2.1 q g1 g2, fun q hq => by
      rcases List.mem_append.mp hq with h | h
      · exact hS.2.2 q h
      · obtain ⟨z, -, hz⟩ := List.mem_map.mp h
        rw [← hz]
        exact Nat.le_add_right _ _⟩ hl _ hheap X'
  exact ⟨t9, step t9 a1, b1⟩
theorem x_copyZ {d c n0 n1 : Nat} {f g : Nat → Int} {sp dp n : Int} {idx : Nat} (i j k0 : Nat) (K : Cx Γ E B cc own Ts rm) (hlk : Cond.methodLink own idx arraycopyName ∈ Ts) (hnat : Cond.native arraycopyName ∈ Ts) (hst : Cond.static arraycopyName ∈ Ts) (hini : Cond.initialized "java/lang/System" ∈ Ts) (hv0 : Cel N v d (barr E n0 f)) (hv1 : Cel N v c (barr E n1 g)) (hi : sp = (i : Int)) (hj : dp = (j : Int)) (hk : n = (k0 : Int)) (h4 : i + k0 ≤ n0) (h5 : j + k0 ≤ n1) (hn : n0 < 2147483648 ∧ n1 < 2147483648) (hf9 : ∀ q, q < k0 → 0 ≤ f (i + q) ∧ f (i + q) ≤ 1) (hfr : 1 ≤ rm.frames) (hlo : (st.map fun v => v.category).sum + (nativeFrameWords "java/lang/System" "arraycopy" 5 + 11) ≤ rm.locals) (hd : decode cc pc = .ok (.invokestatic idx, 3)) (k : XW Γ N (va_up v c (barr E n1 (cpI f g i j k0))) L kc ks (pc + 3) st) : XW Γ N v L kc ks pc (.int (zI n) :: .int (zI dp) :: .ref (B + c) :: .int (zI sp) :: .ref (B + d) :: st) := by
  obtain ⟨p, l, e, R, s, m, args, below, meth, c9, E', B', Q, nL⟩ := Γ
  obtain ⟨rfl, rfl, hx, hb, hown, hts, hK, hml, hA, rfl⟩ := K
  intro H locs ls hP hS hl
  have hc0 := hP.2 d hv0.1
  rw [hv0.2] at hc0
  have hc1 := hP.2 c hv1.1
  rw [hv1.2] at hc1
  have hc0 : H[B' + d]? = some (vp_cell (E'.2.1 1) (n0, .inl (fun k => zI (f k)))) := hc0
  have hc1 : H[B' + c]? = some (vp_cell (E'.2.1 1) (n1, .inl (fun k => zI (g k)))) := hc1
  have ei := zI_cl hi (show i < 2147483648 by omega)
  have ej := zI_cl hj (show j < 2147483648 by omega)
  have ek := zI_cl hk (show k0 < 2147483648 by omega)
  have ti : (zI sp).toInt = (i : Int) := by rw [zI_toInt (by omega)]; exact hi
  have tj : (zI dp).toInt = (j : Int) := by rw [zI_toInt (by omega)]; exact hj
  have tk : (zI n).toInt = (k0 : Int) := by rw [zI_toInt (by omega)]; exact hk
  have nneg : ∀ (z : Int) (q : Nat), z = (q : Int) → q < 2147483648 → ¬ zI z < 0 := fun z q hz hq h => by
    have := (zI_lt (a := z) (b := 0) (by omega) (by omega)).mp (zI_0 ▸ h)
    omega
  intro T hT X
  obtain ⟨-, k9, hk9, cm9, hkk9⟩ := (hK.2 1 _ rfl).1 n0 (fun j => .int (zI (f j)))
  obtain ⟨-, k8, hk8, cm8, hkk8⟩ := (hK.2 1 _ rfl).1 n1 (fun j => .int (zI (g j)))
  obtain ⟨vm', X', step⟩ := X.arraycopy hx hown (hts _ hlk) (hts _ hnat) (hts _ hst) (hts _ hini) (src := B' + d) (dst := B' + c) (cs := vp_cell (E'.2.1 1) (n0, .inl (fun k => zI (f k)))) (cd := vp_cell (E'.2.1 1) (n1, .inl (fun k => zI (g k)))) (srcPos := zI sp) (destPos := zI dp) (n := zI n) (by rw [hT]; exact hc0) (by rw [hT]; exact hc1)
    (fun _ h => by cases h) (fun _ h => by cases h) (fun h => by cases h) (fun h => by cases h) hk9 hk8 hkk9 hkk8 rfl (nneg _ _ hi (by omega)) (nneg _ _ hj (by omega)) (nneg _ _ hk (by omega))
    (by rw [ti, tk]; show ¬ _ > ((arrV (E'.2.1 1) n0 (fun j => .int (zI (f j)))).slots.size : Int); rw [arrV_size]; omega)
    (by rw [tj, tk]; show ¬ _ > ((arrV (E'.2.1 1) n1 (fun j => .int (zI (g j)))).slots.size : Int); rw [arrV_size]; omega)
    (fun vm₁ _ q hq => by
      have hq2 : q < k0 := by rw [← ek]; exact hq
      have e9 : (vp_cell (E'.2.1 1) (n0, .inl (fun k => zI (f k)))).slots.getD ((zI sp).toNatClampNeg + q) .null = .int (zI (f (i + q))) := by
        show (arrV (E'.2.1 1) n0 (fun j => .int (zI (f j)))).slots.getD _ _ = _
        rw [ei, Array.getD_eq_getD_getElem?, arrV_read _ _ (by omega)]
        rfl
      refine ⟨?_, ?_⟩
      · rw [e9]
        exact (fz_ok (hf9 q hq2))
      · rw [e9]
        exact trivial)
    (g := F0 m pc ls (.int (zI n) :: .int (zI dp) :: .ref (B' + c) :: .int (zI sp) :: .ref (B' + d) :: st)) rfl (by rw [hml]; exact hl.1) (rest := st) rfl (by rw [hb]; exact hd) hfr (by show 2 * 0 + _ + _ ≤ _; omega)
  have e1 : copied (vp_cell (E'.2.1 1) (n0, .inl (fun k => zI (f k)))) (vp_cell (E'.2.1 1) (n1, .inl (fun k => zI (g k)))) (zI sp) (zI dp) (zI n) = vp_cell (E'.2.1 1) (n1, .inl (fun k => zI (cpI f g i j k0 k))) := by
    refine (va_copied (n0 := n0) (n1 := n1) (sp := (zI sp).toNatClampNeg) (dp := (zI dp).toNatClampNeg) (n := (zI n).toNatClampNeg) (fun z => .int z) (E'.2.1 1) (E'.2.1 1) (fun k => zI (f k)) (fun k => zI (g k)) (show (zI sp).toNatClampNeg + (zI n).toNatClampNeg ≤ n0 by rw [ei, ek]; exact h4)).trans ?_
    rw [ei, ej, ek]
    rw [vp_cell_i]
    congr 1
    funext q
    unfold va_cpy cpI
    split <;> rfl
  rw [e1] at X' step
  have hl9 : B' + c < H.size := (Array.getElem?_eq_some_iff.mp hc1).1
  have hheap : ((T.setVm vm').setCell (B' + c) (vp_cell (E'.2.1 1) (n1, .inl (fun k => zI (cpI f g i j k0 k))))).heap = H.setIfInBounds (B' + c) (vp_cell (E'.2.1 1) (n1, .inl (fun k => zI (cpI f g i j k0 k)))) := by rw [← hT]; rfl
  have oq : ∀ q : Nat, q ≠ B' + c → (H.setIfInBounds (B' + c) (vp_cell (E'.2.1 1) (n1, .inl (fun k => zI (cpI f g i j k0 k)))))[q]? = H[q]? := fun q hq => by simp [Array.getElem?_setIfInBounds, Ne.symm hq]
  obtain ⟨t9, a1, b1⟩ := k _ _ ls (gP_set hP (by simp) (show (H.setIfInBounds (B' + c) _)[B' + c]? = some _ by simp [Array.getElem?_setIfInBounds, hl9]) oq) ⟨by simp; exact hS.1, fun q g1 g2 => by
      rw [oq q (fun e => g2 (by rw [e]; exact Nat.le_add_right _ _))]
      exact hS.2.1 q g1 g2, fun q hq => by
      rcases List.mem_append.mp hq with h | h
      · exact hS.2.2 q h
      · obtain ⟨z, -, hz⟩ := List.mem_map.mp h
        rw [← hz]
        exact Nat.le_add_right _ _⟩ hl _ hheap X'
  exact ⟨t9, step t9 a1, b1⟩
end XMake

/-! an array of arrays -/
def mnaV (E : XE) (B N n0 k0 : Nat) (v : Nat → va_E) : Nat → va_E := fun q => if q = N then rarr E 6 n0 B (fun i => if i < n0 then some (N + 1 + i) else none) else if N < q ∧ q ≤ N + n0 then iarr E k0 (fun _ => 0) else v q
section
variable {Γ : XT} {E : XE} {B : Nat} {cc : ByteArray} {own : String} {Ts : List Cond} {rm : Room} {N : Nat} {v : Nat → va_E} {L : List (Nat × Value)} {kc ks pc : Nat} {st : List Value}
theorem x_mna {a b : Int} {idx : Nat} (n0 k0 : Nat) (K : Cx Γ E B cc own Ts rm) (hlk : Cond.classLink own idx "[[I" ∈ Ts) (harr : Cond.arrayClass .int ∈ Ts) (ha : a = (n0 : Int)) (hb9 : b = (k0 : Int)) (h0 : n0 < 1000000) (h1 : k0 < 1000000) (hkc : kc + (1 + n0) ≤ rm.cells) (hks : ks + (n0 + n0 * k0) ≤ rm.slots) (hd : decode cc pc = .ok (.multianewarray idx 2, 4))
    (k : XW Γ (N + 1 + n0) (mnaV E B N n0 k0 v) L (kc + 1 + n0) (ks + n0 + n0 * k0) (pc + 4) (.ref (B + N) :: st)) : XW Γ N v L kc ks pc (.int (zI b) :: .int (zI a) :: st) := by
  obtain ⟨p, l, e, R, s, m, args, below, meth, c0, E', B', Q, nL⟩ := Γ
  obtain ⟨rfl, rfl, hx, hb, hown, hts, hK, hml, hA, rfl⟩ := K
  intro H locs ls hP hS hl
  have hsz := hP.1
  have ea := zI_cl ha (show n0 < 2147483648 by omega)
  have eb := zI_cl hb9 (show k0 < 2147483648 by omega)
  have na := zI_in (n := n0 + 1) ha (by omega) (by omega)
  have nb := zI_in (n := k0 + 1) hb9 (by omega) (by omega)
  have hlk2 : (Cond.classLink own idx ("[" ++ (FieldType.array .int).toString)).before args s = true := hts _ hlk
  intro T hT Xs
  obtain ⟨vm₁, cA, comp, -, fA, fC, hO, -, X', step⟩ := @Jvm.Stand.multianewarray2F _ _ _ _ _ _ _ _ _ _ _ _ _ _ Xs hx own idx .int hown hlk2 (over_moved (Vm.Alike.refl _) hA.2.2.2.2.2.2.2.2.1) (hts _ harr) (F0 m pc ls (.int (zI b) :: .int (zI a) :: st)) rfl (by rw [hb]; exact hd) (zI a) (zI b) st rfl (fun q => na (Or.inl q)) (fun q => nb (Or.inl q)) (by rw [ea]; omega) (by rw [eb]; show k0 * 4 ≤ _; omega) (by rw [eb]; omega) rfl rfl (by rw [ea]; exact hkc) (by rw [ea, eb]; exact hks)
  rw [ea, eb] at X' step
  have hcA : cA = E'.2.1 6 := Option.some.inj (fA.symm.trans (hK.2 6 _ rfl).2)
  have hcomp : comp = E'.2.1 0 := Option.some.inj (fC.symm.trans (hK.2 0 _ rfl).2)
  subst hcA
  subst hcomp
  have hTh : (T.setVm vm₁).heap = H := hT
  obtain ⟨f1, f2, -, -⟩ := Jvm.Free.Multi.fill_facts (T.setVm vm₁) (E'.2.1 6) (E'.2.1 0) n0 k0 (defaultValue .int) n0
  rw [hTh] at f1 f2
  have hold : ∀ x : Nat, x < H.size → (Jvm.Free.Multi.fill (T.setVm vm₁) (E'.2.1 6) (E'.2.1 0) n0 k0 (defaultValue .int) n0).heap[x]? = H[x]? := fun x hx => by
    have := Jvm.Free.Multi.fill_old (T.setVm vm₁) (E'.2.1 6) (E'.2.1 0) n0 k0 (defaultValue .int) (a := x) (by rw [hTh]; exact hx) n0
    rw [hTh] at this
    exact this
  have hz : Jvm.Free.Multi.innerC (E'.2.1 0) k0 (defaultValue .int) = vp_cell (E'.2.1 0) (k0, .inl (fun _ => zI 0)) := by
    rw [vp_cell_i]
    show ({ cls := E'.2.1 0, slots := Array.replicate k0 (defaultValue .int), vm := .none } : Cell) = _
    rw [arrV_new]
    rfl
  have hrow : ∀ j : Nat, j < n0 → (Jvm.Free.Multi.fill (T.setVm vm₁) (E'.2.1 6) (E'.2.1 0) n0 k0 (defaultValue .int) n0).heap[H.size + 1 + j]? = some (vp_cell (E'.2.1 0) (k0, .inl (fun _ => zI 0))) := fun j hj => by
    have := Jvm.Free.Multi.fill_inner (T.setVm vm₁) (E'.2.1 6) (E'.2.1 0) n0 k0 (defaultValue .int) n0 j hj
    rw [hTh, hz] at this
    exact this
  have hout : ∀ i : Nat, Jvm.Free.Multi.outerC (E'.2.1 6) n0 H.size i = arrV (E'.2.1 6) n0 (fun j => va_rf (if j < i then some (H.size + 1 + j) else none)) := by
    intro i
    induction i with
    | zero =>
      show ({ cls := E'.2.1 6, slots := Array.replicate n0 .null, vm := .none } : Cell) = _
      rw [arrV_new]
      refine congrArg (arrV (E'.2.1 6) n0) (funext fun j => ?_)
      simp [va_rf]
    | succ i ih =>
      show (Jvm.Free.Multi.outerC (E'.2.1 6) n0 H.size i).setSlot i (.ref (H.size + 1 + i)) = _
      rw [ih, arrV_store]
      refine congrArg (arrV (E'.2.1 6) n0) (funext fun j => ?_)
      by_cases e : j = i
      · subst e
        simp [updV, va_rf]
      · by_cases h : j < i
        · simp [updV, e, h, Nat.lt_succ_of_lt h]
        · simp [updV, e, h, show ¬ j < i + 1 by omega]
  rw [hout] at f2
  have hP2 : gP E' B' (N + 1 + n0) (mnaV E' B' N n0 k0 v) (Jvm.Free.Multi.fill (T.setVm vm₁) (E'.2.1 6) (E'.2.1 0) n0 k0 (defaultValue .int) n0).heap := by
    refine ⟨by rw [f1, hsz]; omega, fun q hq => ?_⟩
    unfold mnaV
    by_cases h1 : q = N
    · rw [if_pos h1]
      subst h1
      show _ = some (vp_cell _ _)
      rw [← hsz, f2, vp_cell_q]
      refine congrArg some (congrArg (arrV (E'.2.1 6) n0) (funext fun j => congrArg va_rf ?_))
      by_cases h : j < n0
      · simp only [h, if_true, Option.map_some]
        congr 1
        omega
      · simp only [h, if_false, Option.map_none]
    · rw [if_neg h1]
      by_cases h2 : N < q ∧ q ≤ N + n0
      · rw [if_pos h2]
        have := hrow (q - N - 1) (by omega)
        rw [hsz, show B' + N + 1 + (q - N - 1) = B' + q by omega] at this
        exact this
      · rw [if_neg h2]
        exact va_at_kept (hP.2 q (by omega)) (hold _ (by omega))
  obtain ⟨t9, a1, b1⟩ := k _ locs ls hP2 ⟨Nat.le_trans hS.1 (by rw [f1]; omega), fun x h1 h2 => (hold x (by have := hS.1; omega)).trans (hS.2.1 x h1 h2), hS.2.2⟩ hl _ rfl X'
  refine ⟨t9, step t9 ?_, b1⟩
  have hTs : T.heap.size = B' + N := by rw [hT]; exact hsz
  rw [hTs]
  exact a1
/-- the places of an array of eight arrays, one by one -/
theorem mna8 {k0 : Nat} : mnaV E B N 8 k0 v = va_up (va_up (va_up (va_up (va_up (va_up (va_up (va_up (va_up v N (rarr E 6 8 B (fun i => if i < 8 then some (N + 1 + i) else none))) (N + 1) (iarr E k0 (fun _ => 0))) (N + 2) (iarr E k0 (fun _ => 0))) (N + 3) (iarr E k0 (fun _ => 0))) (N + 4) (iarr E k0 (fun _ => 0))) (N + 5) (iarr E k0 (fun _ => 0))) (N + 6) (iarr E k0 (fun _ => 0))) (N + 7) (iarr E k0 (fun _ => 0))) (N + 8) (iarr E k0 (fun _ => 0)) := by
  funext q
  unfold mnaV va_up
  by_cases h0 : q = N
  · subst h0
    simp
  · rw [if_neg h0]
    by_cases h2 : N < q ∧ q ≤ N + 8
    · rw [if_pos h2]
      have : q = N + 1 ∨ q = N + 2 ∨ q = N + 3 ∨ q = N + 4 ∨ q = N + 5 ∨ q = N + 6 ∨ q = N + 7 ∨ q = N + 8 := by omega
      rcases this with h | h | h | h | h | h | h | h <;> simp [h]
    · rw [if_neg h2, if_neg (by omega), if_neg (by omega), if_neg (by omega), if_neg (by omega), if_neg (by omega), if_neg (by omega), if_neg (by omega), if_neg (by omega), if_neg h0]
end

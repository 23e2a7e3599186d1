/-! pure words -/
def bI (c : Prop) [Decidable c] : Int := if c then 1 else 0
theorem bI_rng (c : Prop) [Decidable c] : 0 ≤ bI c ∧ bI c ≤ 1 := by unfold bI; split <;> omega
theorem bI_t {c : Prop} [Decidable c] (h : bI c = 0) : ¬ c := fun q => by simp [bI, q] at h
theorem bI_f {c : Prop} [Decidable c] (h : ¬ bI c = 0) : c := by
  rcases Decidable.em c with q | q
  · exact q
  · exact absurd (by simp [bI, q]) h
theorem bI_1 {c : Prop} [Decidable c] (h : c) : bI c = 1 := by simp [bI, h]
theorem bI_0 {c : Prop} [Decidable c] (h : ¬ c) : bI c = 0 := by simp [bI, h]
theorem bI_iff {c d : Prop} [Decidable c] [Decidable d] (h : c ↔ d) : bI c = bI d := by
  unfold bI; split <;> split <;> first | rfl | (exfalso; simp_all)
theorem ri {a b : Int} (h : a = b) : some (Value.int (zI a)) = some (Value.int (zI b)) := by rw [h]
abbrev oLine (B c : Nat) (n : Int) : va_E := .inr (4, [.ref (B + (c + 1)), .ref (B + (c + 2)), .int (zI n), .ref (B + (c + 3)), .ref (B + (c + 4))])
abbrev oM (B : Nat) (F : Nat → Int) (V : Int) : va_E := .inr (11, [.ref (B + 162), .ref (B + 163), .ref (B + 164), .int (zI (F 3)), .ref (B + 165), .int (zI (F 5)), .int (zI (F 6)), .int (zI (F 7)), .ref (B + 166), .int (zI (F 9)), .ref (B + 167), .ref (B + 168), .ref (B + 169), .int (zI (F 13)), .ref (B + 170), .int (zI (F 15)), .int (zI (F 16)), .int (zI (F 17)), .long (zL V), .int (zI (F 19)), .ref (B + 171), .int (zI (F 21)), .int (zI (F 22)), .ref (B + 172), .ref (B + 173), .int (zI (F 25))])
/-- the sort of a token by its first byte -/
def srt (c : Int) : Int := if 97 ≤ c ∧ c ≤ 122 then 1 else if 48 ≤ c ∧ c ≤ 57 then 2 else if c = 59 then 3 else 4
/-! the corners of a line, in their order, each with 1 where a child made it; whose a cell is; who may go; what is then -/
abbrev Cor : Type := List (Int × Int)
def CorOk (l : Cor) : Prop := (∀ q ∈ l, 0 ≤ q.1 ∧ q.1 ≤ 47 ∧ 0 ≤ q.2 ∧ q.2 ≤ 1) ∧ l.Pairwise (fun a b => a.1 % 8 ≠ b.1 % 8)
abbrev Wq : Type := Int × Int × Int × Int
def wstep (x : Int) (s : Wq) (c : Int) : Wq :=
  let s1 : Wq := if c % 8 ≤ x ∧ s.1 < c % 8 then (c % 8, c / 8, s.2.2.1, s.2.2.2) else s
  if x ≤ c % 8 ∧ c % 8 < s1.2.2.1 then (s1.1, s1.2.1, c % 8, c / 8) else s1
def wfold (w e x : Int) (l : Cor) : Wq := l.foldl (fun s q => wstep x s q.1) (-1, w, 8, e)
theorem wfold_nil (w e x : Int) : wfold w e x [] = (-1, w, 8, e) := rfl
theorem wfold_snoc (w e x : Int) (l : Cor) (q : Int × Int) : wfold w e x (l ++ [q]) = wstep x (wfold w e x l) q.1 := by
  unfold wfold; rw [List.foldl_append]; rfl
theorem take_snoc {α : Type} {l : List α} {k : Nat} (h : k < l.length) : l.take (k + 1) = l.take k ++ [l[k]] := by
  rw [List.take_succ, List.getElem?_eq_getElem h]; rfl
theorem wfold_take {w e x : Int} {l : Cor} {k : Nat} (h : k < l.length) : wfold w e x (l.take (k + 1)) = wstep x (wfold w e x (l.take k)) (l[k]).1 := by
  rw [take_snoc h, wfold_snoc]
def WqOk (x : Int) (s : Wq) : Prop := (-1 ≤ s.1 ∧ s.1 ≤ x) ∧ (0 ≤ s.2.1 ∧ s.2.1 ≤ 5) ∧ (x ≤ s.2.2.1 ∧ s.2.2.1 ≤ 8) ∧ (0 ≤ s.2.2.2 ∧ s.2.2.2 ≤ 5)
theorem wstep_ok {x : Int} {s : Wq} {c : Int} (hs : WqOk x s) (hc : 0 ≤ c ∧ c ≤ 47) : WqOk x (wstep x s c) := by
  obtain ⟨a, b, d, f⟩ := s
  unfold WqOk at hs
  simp only at hs
  unfold wstep
  by_cases h1 : c % 8 ≤ x ∧ a < c % 8 <;> by_cases h2 : x ≤ c % 8 ∧ c % 8 < d <;> simp only [h1, h2, if_true, if_false, WqOk, and_self, and_true, true_and] <;> omega
theorem wfold_ok {w e x : Int} {l : Cor} (hw : 0 ≤ w ∧ w ≤ 5) (he : 0 ≤ e ∧ e ≤ 5) (hx : 0 ≤ x ∧ x ≤ 7) (hl : ∀ q ∈ l, 0 ≤ q.1 ∧ q.1 ≤ 47) : WqOk x (wfold w e x l) := by
  unfold wfold
  have key : ∀ (l : Cor) (s : Wq), WqOk x s → (∀ q ∈ l, 0 ≤ q.1 ∧ q.1 ≤ 47) → WqOk x (l.foldl (fun s q => wstep x s q.1) s) := by
    intro l
    induction l with
    | nil => intro s hs _; exact hs
    | cons q l ih =>
      intro s hs hq
      exact ih _ (wstep_ok hs (hq q List.mem_cons_self)) (fun q' h' => hq q' (List.mem_cons_of_mem _ h'))
  refine key l _ ?_ hl
  unfold WqOk
  simp only
  omega
/-- the line's height at x, times the width of its piece; and the cell's own -/
def hgtA (x : Int) (s : Wq) : Int := if s.1 = s.2.2.1 then s.2.1 else s.2.1 * (s.2.2.1 - s.1) + (s.2.2.2 - s.2.1) * (x - s.1)
def ownA (y : Int) (s : Wq) : Int := if s.1 = s.2.2.1 then y else y * (s.2.2.1 - s.1)
def whoseA (w e : Int) (l : Cor) (cell : Nat) : Int :=
  if ownA ((cell : Int) / 8) (wfold w e ((cell : Int) % 8) l) < hgtA ((cell : Int) % 8) (wfold w e ((cell : Int) % 8) l) then 0
  else if hgtA ((cell : Int) % 8) (wfold w e ((cell : Int) % 8) l) < ownA ((cell : Int) / 8) (wfold w e ((cell : Int) % 8) l) then 1 else -1
theorem whoseA_rng (w e : Int) (l : Cor) (cell : Nat) : -1 ≤ whoseA w e l cell ∧ whoseA w e l cell ≤ 1 := by
  unfold whoseA; split
  · omega
  · split <;> omega
theorem mul_rng {a b m n : Int} (ha : -m ≤ a ∧ a ≤ m) (hb : -n ≤ b ∧ b ≤ n) : -(m * n) ≤ a * b ∧ a * b ≤ m * n := by
  have hm : 0 ≤ m := by omega
  have h : (a * b).natAbs ≤ m.natAbs * n.natAbs := by
    rw [Int.natAbs_mul]
    exact Nat.mul_le_mul (by omega) (by omega)
  have h2 : ((m.natAbs * n.natAbs : Nat) : Int) = m * n := by
    rw [Int.natCast_mul, Int.natAbs_of_nonneg hm, Int.natAbs_of_nonneg (by omega)]
  omega
def PR (a p : Nat → Int) (l : Cor) : Prop := (∀ k, k < 121 → a k = p k) ∧ a 121 = (l.length : Int) ∧ ∀ (k : Nat) (h : k < l.length), a (122 + k) = (l[k]).1 ∧ a (130 + k) = (l[k]).2
theorem PR.cor {a p : Nat → Int} {l : Cor} (h : PR a p l) {k : Nat} (hk : k < l.length) : a (122 + k) = (l[k]).1 := (h.2.2 k hk).1
theorem PR.made {a p : Nat → Int} {l : Cor} (h : PR a p l) {k : Nat} (hk : k < l.length) : a (130 + k) = (l[k]).2 := (h.2.2 k hk).2
theorem CorOk.at {l : Cor} (h : CorOk l) {k : Nat} (hk : k < l.length) : 0 ≤ (l[k]).1 ∧ (l[k]).1 ≤ 47 ∧ 0 ≤ (l[k]).2 ∧ (l[k]).2 ≤ 1 := h.1 _ (List.getElem_mem hk)
/-- the fixed part of a ground that a text told, or none at all -/
def POk (p : Nat → Int) : Prop := (0 ≤ p 0 ∧ p 0 ≤ 5) ∧ (0 ≤ p 1 ∧ p 1 ≤ 5) ∧ (0 ≤ p 2 ∧ p 2 ≤ 6) ∧ (0 ≤ p 3 ∧ p 3 ≤ 8) ∧ (0 ≤ p 4 ∧ p 4 ≤ 5) ∧ (∀ i, i < 5 → (0 ≤ p (5 + i) ∧ p (5 + i) ≤ 5) ∧ (0 ≤ p (10 + i) ∧ p (10 + i) ≤ 1) ∧ (0 ≤ p (15 + i) ∧ p (15 + i) ≤ 47) ∧ (0 ≤ p (20 + i) ∧ p (20 + i) ≤ 13)) ∧ ∀ k, k < 48 → (0 ≤ p (25 + k) ∧ p (25 + k) ≤ 1) ∧ (0 ≤ p (73 + k) ∧ p (73 + k) ≤ 800)
def rmvA (x : Int) (l : Cor) : Cor := l.filter (fun q => decide (q.1 % 8 ≠ x))
def comesA (c m : Int) (l : Cor) : Cor := rmvA (c % 8) l ++ [(c, m)]
def outG : Cor → Nat → Nat
  | [], _ => 0
  | q :: t, i => if q.2 = 1 then i else outG t (i + 1)
def outA (l : Cor) : Nat := outG l 0
theorem outG_lt : ∀ (l : Cor) (i : Nat), outG l i = 0 ∨ outG l i < i + l.length
  | [], _ => Or.inl rfl
  | q :: t, i => by
    unfold outG
    split
    · right; simp
    · rcases outG_lt t (i + 1) with h | h
      · exact Or.inl h
      · right; simp only [List.length_cons]; omega
theorem outA_lt {l : Cor} (h : 0 < l.length) : outA l < l.length := by
  unfold outA
  rcases outG_lt l 0 with q | q <;> omega
theorem outG_at {l : Cor} {j : Nat} (hj : j < l.length) : outG (l.drop j) j = if (l[j]).2 = 1 then j else outG (l.drop (j + 1)) (j + 1) := by
  rw [List.drop_eq_getElem_cons hj]
  rfl
theorem outG_end (l : Cor) : outG (l.drop l.length) l.length = 0 := by
  rw [List.drop_length]; rfl
def trimA (keeps : Int) : Nat → Cor → Cor
  | 0, l => l
  | f + 1, l => if keeps < (l.length : Int) then trimA keeps f (l.eraseIdx (outA l)) else l
def mirA (c : Nat) : Nat := c / 8 * 8 + 7 - c % 8
theorem mirA_eq (c : Nat) : (((c : Int) / 8 * 8) + 7) - ((c : Int) % 8) = (mirA c : Int) := by unfold mirA; omega
theorem mirA_le {c : Nat} (h : c ≤ 47) : mirA c ≤ 47 := by unfold mirA; omega
theorem trimA_done {keeps : Int} {l : Cor} (h : (l.length : Int) ≤ keeps) : ∀ m : Nat, trimA keeps m l = l
  | 0 => rfl
  | m + 1 => by unfold trimA; rw [if_neg (by omega)]
theorem trimA_step {keeps : Int} {l : Cor} {m : Nat} (h : keeps < (l.length : Int)) (hm : 1 ≤ m) : trimA keeps m l = trimA keeps (m - 1) (l.eraseIdx (outA l)) := by
  obtain ⟨j, rfl⟩ : ∃ j, m = j + 1 := ⟨m - 1, by omega⟩
  rw [show trimA keeps (j + 1) l = if keeps < (l.length : Int) then trimA keeps j (l.eraseIdx (outA l)) else l from rfl, if_pos h]
  rfl
def crossA (kind keeps : Int) (cell : Nat) (l : Cor) : Cor :=
  if kind = 5 then l else trimA keeps 8 (if kind = 3 then comesA (mirA cell : Int) 0 (comesA (cell : Int) (if kind = 4 then 1 else 0) l) else comesA (cell : Int) (if kind = 4 then 1 else 0) l)
def nearA (p : Nat → Int) (who cell : Nat) : Prop := ((p (15 + who) % 8 - (cell : Int) % 8).natAbs : Int) + ((p (15 + who) / 8 - (cell : Int) / 8).natAbs : Int) ≤ (if p (5 + who) = 2 then 2 * p (20 + who) else p (20 + who))
def mayA (p : Nat → Int) (l : Cor) (who cell : Nat) : Prop := (nearA p who cell ∧ p (25 + cell) = 0) ∧ whoseA (p 0) (p 1) l cell ≠ p (10 + who)
noncomputable def mayI (p : Nat → Int) (l : Cor) (who cell : Nat) : Int := @ite Int (mayA p l who cell) (Classical.propDecidable _) 1 0
theorem mayI_1 {p : Nat → Int} {l : Cor} {who cell : Nat} (h : mayA p l who cell) : mayI p l who cell = 1 := by unfold mayI; exact if_pos h
theorem mayI_0 {p : Nat → Int} {l : Cor} {who cell : Nat} (h : ¬ mayA p l who cell) : mayI p l who cell = 0 := by unfold mayI; exact if_neg h
theorem mayI_rng (p : Nat → Int) (l : Cor) (who cell : Nat) : 0 ≤ mayI p l who cell ∧ mayI p l who cell ≤ 1 := by
  by_cases h : mayA p l who cell
  · rw [mayI_1 h]; omega
  · rw [mayI_0 h]; omega
theorem mayI_t {p : Nat → Int} {l : Cor} {who cell : Nat} (h : ¬ mayI p l who cell = 0) : mayA p l who cell := by
  by_cases q : mayA p l who cell
  · exact q
  · exact absurd (mayI_0 q) h
theorem mayI_f {p : Nat → Int} {l : Cor} {who cell : Nat} (h : mayI p l who cell = 0) : ¬ mayA p l who cell := fun q => by
  rw [mayI_1 q] at h; omega
def sumA (p : Nat → Int) (l : Cor) (land what : Int) : Nat → Int
  | 0 => 0
  | k + 1 => sumA p l land what k + (if whoseA (p 0) (p 1) l k = land then (if what = 0 then 1 else p (73 + k)) else 0)
theorem sumA_rng {p : Nat → Int} {l : Cor} {land what : Int} (hp : POk p) : ∀ {k : Nat}, k ≤ 48 → 0 ≤ sumA p l land what k ∧ sumA p l land what k ≤ 800 * k
  | 0, _ => ⟨Int.le_refl _, by simp [sumA]⟩
  | k + 1, h => by
    have ih := sumA_rng (l := l) (land := land) (what := what) hp (k := k) (by omega)
    have hk := (hp.2.2.2.2.2.2 k (by omega)).2
    unfold sumA
    split
    · split <;> omega
    · omega
def leadA (p : Nat → Int) (l : Cor) (land : Int) : Int := sumA p l land 1 48 - sumA p l (1 - land) 1 48
theorem leadA_rng {p : Nat → Int} {l : Cor} {land : Int} (hp : POk p) : -38400 ≤ leadA p l land ∧ leadA p l land ≤ 38400 := by
  have h1 := sumA_rng (l := l) (land := land) (what := 1) hp (k := 48) (by omega)
  have h2 := sumA_rng (l := l) (land := 1 - land) (what := 1) hp (k := 48) (by omega)
  unfold leadA; omega
theorem wstep_mk {x c a b d g a' b' d' g' : Int} (h1 : (c % 8 ≤ x ∧ a < c % 8 ∧ a' = c % 8 ∧ b' = c / 8) ∨ (¬ (c % 8 ≤ x ∧ a < c % 8) ∧ a' = a ∧ b' = b)) (h2 : (x ≤ c % 8 ∧ c % 8 < d ∧ d' = c % 8 ∧ g' = c / 8) ∨ (¬ (x ≤ c % 8 ∧ c % 8 < d) ∧ d' = d ∧ g' = g)) : (a', b', d', g') = wstep x (a, b, d, g) c := by
  unfold wstep
  rcases h1 with ⟨p1, p2, rfl, rfl⟩ | ⟨p1, rfl, rfl⟩ <;> rcases h2 with ⟨q1, q2, rfl, rfl⟩ | ⟨q1, rfl, rfl⟩ <;> simp [*]
theorem whoseA_eq {w e : Int} {l : Cor} {cell : Nat} {a b d g o h r : Int} (hs : (a, b, d, g) = wfold w e ((cell : Int) % 8) l) (ho : (a = d ∧ o = (cell : Int) / 8) ∨ (a ≠ d ∧ o = (cell : Int) / 8 * (d - a))) (hh : (a = d ∧ h = b) ∨ (a ≠ d ∧ h = b * (d - a) + (g - b) * ((cell : Int) % 8 - a))) (hr : (o < h ∧ r = 0) ∨ (h < o ∧ r = 1) ∨ (o = h ∧ r = -1)) : r = whoseA w e l cell := by
  unfold whoseA ownA hgtA
  rw [← hs]
  have e1 : (if a = d then (cell : Int) / 8 else (cell : Int) / 8 * (d - a)) = o := by
    rcases ho with ⟨q, rfl⟩ | ⟨q, rfl⟩
    · rw [if_pos q]
    · rw [if_neg q]
  have e2 : (if a = d then b else b * (d - a) + (g - b) * ((cell : Int) % 8 - a)) = h := by
    rcases hh with ⟨q, rfl⟩ | ⟨q, rfl⟩
    · rw [if_pos q]
    · rw [if_neg q]
  simp only [e1, e2]
  rcases hr with ⟨q, rfl⟩ | ⟨q, rfl⟩ | ⟨q, rfl⟩
  · rw [if_pos q]
  · rw [if_neg (by omega), if_pos q]
  · rw [if_neg (by omega), if_neg (by omega)]
/-- the corners' places moved down by one, from k on, as far as e -/
def shA (f : Nat → Int) (k e : Nat) : Nat → Int := fun q => if q = 121 then f 121 - 1 else if (122 + k ≤ q ∧ q < 122 + e) ∨ (130 + k ≤ q ∧ q < 130 + e) then f (q + 1) else f q
theorem shA_0 (f : Nat → Int) (k : Nat) : va_up f 121 (f 121 - 1) = shA f k k := by
  funext q
  unfold va_up shA
  by_cases h : q = 121
  · simp [h]
  · rw [if_neg h, if_neg h, if_neg (by omega)]
theorem shA_s {f : Nat → Int} {k e : Nat} (hk : k ≤ e) (he : e ≤ 6) : va_up (va_up (shA f k e) (122 + e) (shA f k e (122 + e + 1))) (130 + e) (va_up (shA f k e) (122 + e) (shA f k e (122 + e + 1)) (130 + e + 1)) = shA f k (e + 1) := by
  funext q
  unfold va_up shA
  by_cases h1 : q = 130 + e
  · subst h1
    rw [if_pos rfl, if_neg (by omega), if_neg (by omega), if_neg (by omega), if_neg (by omega), if_pos (by omega)]
  · rw [if_neg h1]
    by_cases h2 : q = 122 + e
    · subst h2
      rw [if_pos rfl, if_neg (by omega), if_neg (by omega), if_neg (by omega), if_pos (by omega)]
    · rw [if_neg h2]
      by_cases h3 : q = 121
      · simp [h3]
      · rw [if_neg h3, if_neg h3]
        by_cases h4 : (122 + k ≤ q ∧ q < 122 + e) ∨ (130 + k ≤ q ∧ q < 130 + e)
        · rw [if_pos h4, if_pos (by omega)]
        · rw [if_neg h4, if_neg (by omega)]
theorem PR_sh {f p : Nat → Int} {l : Cor} {k : Nat} (h : PR f p l) (hk : k < l.length) (hl : l.length ≤ 8) : PR (shA f k (l.length - 1)) p (l.eraseIdx k) := by
  have hlen : (l.eraseIdx k).length = l.length - 1 := List.length_eraseIdx_of_lt hk
  refine ⟨fun q hq => ?_, ?_, fun j hj => ?_⟩
  · unfold shA
    rw [if_neg (by omega), if_neg (by omega)]
    exact h.1 q hq
  · unfold shA
    rw [if_pos rfl, hlen, h.2.1]
    omega
  · have hj2 : j < l.length - 1 := by rw [← hlen]; exact hj
    rw [List.getElem_eraseIdx]
    by_cases hjk : j < k
    · have h9 := h.2.2 j (by omega)
      simp only [hjk, dite_true]
      unfold shA
      rw [if_neg (by omega), if_neg (by omega), if_neg (by omega), if_neg (by omega)]
      exact h9
    · have h9 := h.2.2 (j + 1) (by omega)
      simp only [hjk, dite_false]
      unfold shA
      rw [if_neg (by omega), if_pos (by omega), if_neg (by omega), if_pos (by omega)]
      exact h9
theorem CorOk.erase {l : Cor} (h : CorOk l) (k : Nat) : CorOk (l.eraseIdx k) := ⟨fun q hq => h.1 q (List.mem_of_mem_eraseIdx hq), h.2.sublist (List.eraseIdx_sublist l k)⟩
theorem PR_add {f p : Nat → Int} {l : Cor} {c m : Int} (h : PR f p l) (hl : l.length ≤ 7) : PR (va_up (va_up (va_up f (122 + l.length) c) (130 + l.length) m) 121 ((l.length : Int) + 1)) p (l ++ [(c, m)]) := by
  refine ⟨fun q hq => ?_, ?_, fun j hj => ?_⟩
  · unfold va_up
    rw [if_neg (by omega), if_neg (by omega), if_neg (by omega)]
    exact h.1 q hq
  · rw [va_up_self]; simp
  · have hj2 : j < l.length + 1 := by simpa using hj
    by_cases hjl : j < l.length
    · have h9 := h.2.2 j hjl
      rw [List.getElem_append_left hjl]
      unfold va_up
      rw [if_neg (by omega), if_neg (by omega), if_neg (by omega), if_neg (by omega), if_neg (by omega), if_neg (by omega)]
      exact h9
    · have hje : j = l.length := by omega
      subst hje
      simp only [List.getElem_append_right (Nat.le_refl _), Nat.sub_self, List.getElem_cons_zero]
      unfold va_up
      rw [if_neg (by omega), if_neg (by omega), if_pos rfl, if_neg (by omega), if_pos rfl]
      exact ⟨rfl, rfl⟩
/-- the list behind a removal as far as k from above -/
def rmB (x : Int) (l : Cor) (k : Nat) : Cor := l.take k ++ rmvA x (l.drop k)
theorem rmB_len (x : Int) (l : Cor) : rmB x l l.length = l := by unfold rmB rmvA; simp
theorem rmB_0 (x : Int) (l : Cor) : rmB x l 0 = rmvA x l := by unfold rmB; simp
theorem rmB_at {x : Int} {l : Cor} {k : Nat} (hk : k < l.length) : ∃ h : k < (rmB x l (k + 1)).length, (rmB x l (k + 1))[k] = l[k] := by
  have h1 : (l.take (k + 1)).length = k + 1 := by rw [List.length_take]; omega
  have h2 : k < (rmB x l (k + 1)).length := by unfold rmB; rw [List.length_append]; omega
  have h3 : (rmB x l (k + 1))[k]? = some l[k] := by
    unfold rmB
    rw [List.getElem?_append_left (by omega), List.getElem?_take_of_lt (by omega), List.getElem?_eq_getElem hk]
  exact ⟨h2, by rw [List.getElem?_eq_getElem h2] at h3; exact Option.some.inj h3⟩
theorem rmB_keep {x : Int} {l : Cor} {k : Nat} (hk : k < l.length) (h : (l[k]).1 % 8 ≠ x) : rmB x l (k + 1) = rmB x l k := by
  unfold rmB rmvA
  rw [take_snoc hk, List.drop_eq_getElem_cons hk, List.filter_cons, if_pos (by simpa using h), List.append_assoc]
  rfl
theorem rmB_out {x : Int} {l : Cor} {k : Nat} (hk : k < l.length) (h : (l[k]).1 % 8 = x) : (rmB x l (k + 1)).eraseIdx k = rmB x l k := by
  unfold rmB rmvA
  have h1 : (l.take k).length = k := by rw [List.length_take]; omega
  rw [take_snoc hk, List.drop_eq_getElem_cons hk, List.filter_cons]
  simp only [h, ne_eq, not_true_eq_false, decide_false, Bool.false_eq_true, if_false, List.append_assoc, List.singleton_append]
  rw [List.eraseIdx_append_of_length_le (by omega), h1, Nat.sub_self]
  rfl
theorem rmB_sub (x : Int) (l : Cor) (k : Nat) : (rmB x l k).Sublist l := by
  unfold rmB rmvA
  have h := (List.Sublist.refl (l.take k)).append (List.filter_sublist (p := fun q : Int × Int => decide (q.1 % 8 ≠ x)) (l := l.drop k))
  rw [List.take_append_drop] at h
  exact h
theorem CorOk.sub {l m : Cor} (h : CorOk l) (hs : m.Sublist l) : CorOk m := ⟨fun q hq => h.1 q (hs.subset hq), h.2.sublist hs⟩
theorem comesA_ok {l : Cor} {c m : Int} (h : CorOk l) (hc : 0 ≤ c ∧ c ≤ 47) (hm : 0 ≤ m ∧ m ≤ 1) : CorOk (comesA c m l) := by
  have hs : (rmvA (c % 8) l).Sublist l := List.filter_sublist
  refine ⟨fun q hq => ?_, ?_⟩
  · rcases List.mem_append.mp hq with h1 | h1
    · exact h.1 q (hs.subset h1)
    · rw [List.mem_singleton.mp h1]; exact ⟨hc.1, hc.2, hm.1, hm.2⟩
  · refine List.pairwise_append.mpr ⟨h.2.sublist hs, List.pairwise_singleton _ _, fun a ha b hb => ?_⟩
    rw [List.mem_singleton.mp hb]
    have := (List.mem_filter.mp ha).2
    simpa using this
theorem comesA_len (c m : Int) (l : Cor) : (comesA c m l).length ≤ l.length + 1 := by
  unfold comesA rmvA
  have := List.length_filter_le (fun q : Int × Int => decide (q.1 % 8 ≠ c % 8)) l
  simp only [List.length_append, List.length_cons, List.length_nil]
  omega
/-! the class's line -/
def LR (g h : Nat → Int) (l : Cor) : Prop := (∀ (k : Nat) (hk : k < l.length), g k = (l[k]).1 ∧ h k = (l[k]).2) ∧ ∀ k, k < 8 → 0 ≤ h k ∧ h k ≤ 1
def cinG (x : Int) : Cor → Nat → Int
  | [], _ => -1
  | q :: t, i => if q.1 % 8 = x then (i : Int) else cinG x t (i + 1)
def cinA (x : Int) (l : Cor) : Int := cinG x l 0
theorem cinG_at {x : Int} {l : Cor} {j : Nat} (hj : j < l.length) : cinG x (l.drop j) j = if (l[j]).1 % 8 = x then (j : Int) else cinG x (l.drop (j + 1)) (j + 1) := by
  rw [List.drop_eq_getElem_cons hj]
  rfl
theorem cinG_end (x : Int) (l : Cor) : cinG x (l.drop l.length) l.length = -1 := by
  rw [List.drop_length]; rfl
theorem cinG_spec (x : Int) : ∀ (l : Cor) (i : Nat), (cinG x l i = -1 ∧ ∀ q ∈ l, q.1 % 8 ≠ x) ∨ (∃ (k : Nat) (hk : k < l.length), cinG x l i = ((i + k : Nat) : Int) ∧ (l[k]).1 % 8 = x)
  | [], _ => Or.inl ⟨rfl, fun _ h => absurd h List.not_mem_nil⟩
  | q :: t, i => by
    by_cases h : q.1 % 8 = x
    · right
      exact ⟨0, by simp, by unfold cinG; rw [if_pos h]; rfl, h⟩
    · rcases cinG_spec x t (i + 1) with ⟨h1, h2⟩ | ⟨k, hk, h1, h2⟩
      · left
        refine ⟨by unfold cinG; rw [if_neg h]; exact h1, fun q' hq => ?_⟩
        rcases List.mem_cons.mp hq with rfl | h3
        · exact h
        · exact h2 q' h3
      · right
        refine ⟨k + 1, by simp; omega, ?_, by simpa using h2⟩
        unfold cinG; rw [if_neg h, h1]
        congr 1; omega
theorem cinA_spec (x : Int) (l : Cor) : (cinA x l = -1 ∧ ∀ q ∈ l, q.1 % 8 ≠ x) ∨ (∃ (k : Nat) (hk : k < l.length), cinA x l = (k : Int) ∧ (l[k]).1 % 8 = x) := by
  rcases cinG_spec x l 0 with h | ⟨k, hk, h1, h2⟩
  · exact Or.inl h
  · exact Or.inr ⟨k, hk, by unfold cinA; rw [h1]; congr 1; omega, h2⟩
theorem cinA_rng (x : Int) (l : Cor) : -1 ≤ cinA x l ∧ cinA x l < l.length := by
  rcases cinA_spec x l with ⟨h, -⟩ | ⟨k, hk, h, -⟩ <;> rw [h] <;> omega
theorem rmvA_none {x : Int} {l : Cor} (h : ∀ q ∈ l, q.1 % 8 ≠ x) : rmvA x l = l := by
  unfold rmvA
  exact List.filter_eq_self.mpr (fun q hq => by simpa using h q hq)
theorem rmvA_at {x : Int} : ∀ {l : Cor} {k : Nat} (hk : k < l.length), l.Pairwise (fun a b => a.1 % 8 ≠ b.1 % 8) → (l[k]).1 % 8 = x → rmvA x l = l.eraseIdx k
  | [], k, hk, _, _ => absurd hk (Nat.not_lt_zero k)
  | q :: t, 0, hk, hp, h => by
    have h1 : q.1 % 8 = x := h
    have h2 := (List.pairwise_cons.mp hp).1
    show List.filter _ (q :: t) = t
    rw [List.filter_cons, if_neg (by simpa using h1)]
    exact List.filter_eq_self.mpr (fun q' hq => by
      have := h2 q' hq
      rw [h1] at this
      simpa using Ne.symm this)
  | q :: t, k + 1, hk, hp, h => by
    have hk2 : k < t.length := by simpa using hk
    have h2 := List.pairwise_cons.mp hp
    have h3 : (t[k]).1 % 8 = x := by simpa using h
    have h4 : q.1 % 8 ≠ x := by
      have := h2.1 _ (List.getElem_mem hk2)
      rw [h3] at this
      exact this
    have ih := rmvA_at hk2 h2.2 h3
    show List.filter _ (q :: t) = q :: t.eraseIdx k
    rw [List.filter_cons, if_pos (by simpa using h4)]
    exact congrArg _ ih
def isCorA (l : Cor) (cell : Int) : Int := bI (l.any (fun q => decide (q.1 = cell)) = true)
theorem isCorA_no {l : Cor} {cell : Int} (h : ∀ q ∈ l, q.1 ≠ cell) : isCorA l cell = 0 := by
  refine bI_0 (fun q => ?_)
  obtain ⟨y, hy, h2⟩ := List.any_eq_true.mp q
  exact h y hy (by simpa using h2)
theorem isCorA_yes {l : Cor} {cell : Int} {k : Nat} (hk : k < l.length) (h : (l[k]).1 = cell) : isCorA l cell = 1 :=
  bI_1 (List.any_eq_true.mpr ⟨_, List.getElem_mem hk, by simpa using h⟩)
theorem cor_one {l : Cor} (h : CorOk l) {i j : Nat} (hi : i < l.length) (hj : j < l.length) (he : (l[i]).1 % 8 = (l[j]).1 % 8) : i = j := by
  rcases Nat.lt_trichotomy i j with h1 | h1 | h1
  · exact absurd he (List.pairwise_iff_getElem.mp h.2 i j hi hj h1)
  · exact h1
  · exact absurd he.symm (List.pairwise_iff_getElem.mp h.2 j i hj hi h1)
def shB (g : Nat → Int) (k e : Nat) : Nat → Int := fun q => if k ≤ q ∧ q < e then g (q + 1) else g q
theorem shB_0 (g : Nat → Int) (k : Nat) : shB g k k = g := by
  funext q; unfold shB; rw [if_neg (by omega)]
theorem shB_s {g : Nat → Int} {k e : Nat} (h : k ≤ e) : va_up (shB g k e) e (shB g k e (e + 1)) = shB g k (e + 1) := by
  funext q
  by_cases hq : q = e
  · subst hq
    rw [va_up_self]
    unfold shB
    rw [if_neg (by omega), if_pos (by omega)]
  · rw [va_up_ne _ _ hq]
    unfold shB
    by_cases h2 : k ≤ q ∧ q < e
    · rw [if_pos h2, if_pos (by omega)]
    · rw [if_neg h2, if_neg (by omega)]
theorem LR_sh {g h : Nat → Int} {l : Cor} {k : Nat} (hr : LR g h l) (hk : k < l.length) (hl : l.length ≤ 8) : LR (shB g k (l.length - 1)) (shB h k (l.length - 1)) (l.eraseIdx k) := by
  have hlen : (l.eraseIdx k).length = l.length - 1 := List.length_eraseIdx_of_lt hk
  refine ⟨fun j hj => ?_, fun j hj => ?_⟩
  · have hj2 : j < l.length - 1 := by rw [← hlen]; exact hj
    rw [List.getElem_eraseIdx]
    by_cases hjk : j < k
    · have h9 := hr.1 j (by omega)
      simp only [hjk, dite_true]
      unfold shB
      rw [if_neg (by omega), if_neg (by omega)]
      exact h9
    · have h9 := hr.1 (j + 1) (by omega)
      simp only [hjk, dite_false]
      unfold shB
      rw [if_pos (by omega), if_pos (by omega)]
      exact h9
  · unfold shB
    split
    · exact hr.2 (j + 1) (by omega)
    · exact hr.2 j hj
theorem LR_add {g h : Nat → Int} {l : Cor} {c m : Int} (hr : LR g h l) (hm : 0 ≤ m ∧ m ≤ 1) : LR (va_up g l.length c) (va_up h l.length m) (l ++ [(c, m)]) := by
  refine ⟨fun j hj => ?_, fun j hj => ?_⟩
  · have hj2 : j < l.length + 1 := by simpa using hj
    by_cases hjl : j < l.length
    · have h9 := hr.1 j hjl
      rw [List.getElem_append_left hjl, va_up_ne _ _ (by omega), va_up_ne _ _ (by omega)]
      exact h9
    · have hje : j = l.length := by omega
      subst hje
      simp only [List.getElem_append_right (Nat.le_refl _), Nat.sub_self, List.getElem_cons_zero, va_up_self]
      exact ⟨trivial, trivial⟩
  · by_cases hje : j = l.length
    · subst hje; rw [va_up_self]; exact hm
    · rw [va_up_ne _ _ hje]; exact hr.2 j hj
theorem cpI_all {f g : Nat → Int} {n : Nat} : ∀ k, k < n → f k = cpI f g 0 0 n k := fun k hk => by
  rw [cpI_in (by omega)]
  congr 1; omega
/-- of each column: how many cells the south has, and from which on the north has all -/
def SR (w e : Int) (l : Cor) (s t : Nat → Int) : Prop := ∀ x, x < 8 → (0 ≤ s x ∧ s x ≤ 6) ∧ (0 ≤ t x ∧ t x ≤ 6) ∧ ∀ y, y < 6 → (whoseA w e l (8 * y + x) = 0 ↔ (y : Int) < s x) ∧ (whoseA w e l (8 * y + x) = 1 ↔ t x ≤ (y : Int))
theorem SR.cell {w e : Int} {l : Cor} {s t : Nat → Int} {cell : Nat} (h : SR w e l s t) (hc : cell ≤ 47) : (0 ≤ s (cell % 8) ∧ s (cell % 8) ≤ 6) ∧ (0 ≤ t (cell % 8) ∧ t (cell % 8) ≤ 6) ∧ (whoseA w e l cell = 0 ↔ (cell : Int) / 8 < s (cell % 8)) ∧ (whoseA w e l cell = 1 ↔ t (cell % 8) ≤ (cell : Int) / 8) := by
  have h0 := h (cell % 8) (by omega)
  have h1 := h0.2.2 (cell / 8) (by omega)
  rw [show 8 * (cell / 8) + cell % 8 = cell by omega] at h1
  refine ⟨h0.1, h0.2.1, ?_, ?_⟩
  · rw [h1.1]; omega
  · rw [h1.2]; omega
/-- 40 places of it from 40 r on, the first k of them 0 -/
def clrA (it : Nat → Int) (r k : Nat) : Nat → Int := fun q => if 40 * r ≤ q ∧ q < 40 * r + k then 0 else it q
theorem clrA_0 (it : Nat → Int) (r : Nat) : clrA it r 0 = it := by
  funext q; unfold clrA; rw [if_neg (by omega)]
theorem clrA_s (it : Nat → Int) (r k : Nat) : va_up (clrA it r k) (40 * r + k) 0 = clrA it r (k + 1) := by
  funext q
  by_cases h : q = 40 * r + k
  · subst h; rw [va_up_self]; unfold clrA; rw [if_pos (by omega)]
  · rw [va_up_ne _ _ h]
    unfold clrA
    by_cases h2 : 40 * r ≤ q ∧ q < 40 * r + k
    · rw [if_pos h2, if_pos (by omega)]
    · rw [if_neg h2, if_neg (by omega)]
/-- v as an item of a lane -/
def narA (lane w : Int) : Int := if lane = 0 then (zI w).toInt8.toInt32.toInt else if lane = 1 then (zI w).toInt16.toInt32.toInt else w
abbrev ofA (o k : Int) : Prop := k = 0 ∨ o = k ∨ (k = 1 ∧ (o = 2 ∨ o = 3)) ∨ (k = 4 ∧ o = 5)

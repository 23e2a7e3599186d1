/-! the class's tape: runs of one sort, words, numbers -/
theorem reG_in {t : Nat → Int} {n : Nat} {k : Int} : ∀ {f a i : Nat}, a ≤ i → i < reG t n k f a → srt (t i) = k
  | 0, a, i, h1, h2 => by
    have : reG t n k 0 a = a := rfl
    omega
  | f + 1, a, i, h1, h2 => by
    unfold reG at h2
    split at h2
    · next q =>
      by_cases h : i = a
      · rw [h]; exact q.2
      · exact reG_in (f := f) (a := a + 1) (by omega) h2
    · omega
theorem reT_in {t : Nat → Int} {n a i : Nat} {k : Int} (h1 : a ≤ i) (h2 : i < reT t n k a) : srt (t i) = k := reG_in h1 h2
theorem srt_1 {c : Int} (h : srt c = 1) : 97 ≤ c ∧ c ≤ 122 := by
  unfold srt at h
  split at h
  · assumption
  · split at h
    · omega
    · split at h <;> omega
theorem srt_2 {c : Int} (h : srt c = 2) : 48 ≤ c ∧ c ≤ 57 := by
  unfold srt at h
  split at h
  · omega
  · split at h
    · assumption
    · split at h <;> omega
theorem valT_1s {t : Nat → Int} {b j : Nat} (h : j ≤ 7) : valT t 1 b (j + 1) = 32 * valT t 1 b j + t (b + j) - 96 := by
  show (if 7 < j then _ else _) = _
  rw [if_neg (by omega), if_pos rfl]
theorem valT_9 {t : Nat → Int} {k : Int} {b j : Nat} (h : 9 ≤ j) : valT t k b j = -1 := by
  obtain ⟨i, rfl⟩ : ∃ i, j = i + 1 := ⟨j - 1, by omega⟩
  show (if 7 < i then _ else _) = _
  rw [if_pos (by omega)]
theorem valT_p {t : Nat → Int} {b : Nat} : ∀ {j : Nat}, j ≤ 8 → (∀ i, i < j → 97 ≤ t (b + i) ∧ t (b + i) ≤ 122) → 0 ≤ valT t 1 b j ∧ (1 ≤ j → 1 ≤ valT t 1 b j)
  | 0, _, _ => ⟨Int.le_refl _, fun h => absurd h (by omega)⟩
  | j + 1, h, hl => by
    have ih := valT_p (t := t) (b := b) (j := j) (by omega) (fun i hi => hl i (by omega))
    have h1 := hl j (by omega)
    rw [valT_1s (by omega)]
    omega
/-- one letter back -/
theorem valT_b {t : Nat → Int} {b j : Nat} {c : Int} (hl : ∀ i, i < j → 97 ≤ t (b + i) ∧ t (b + i) ≤ 122) (h : valT t 1 b j = c) (hc : 0 < c) : ∃ i, j = i + 1 ∧ valT t 1 b i = c / 32 ∧ t (b + i) = c % 32 + 96 := by
  have h9 : j < 9 := by
    by_cases q : 9 ≤ j
    · rw [valT_9 q] at h; omega
    · omega
  cases j with
  | zero =>
    have : valT t 1 b 0 = 0 := rfl
    omega
  | succ i =>
    have h1 := hl i (by omega)
    rw [valT_1s (by omega)] at h
    exact ⟨i, rfl, by omega, by omega⟩
theorem valT_z {t : Nat → Int} {b j : Nat} (hl : ∀ i, i < j → 97 ≤ t (b + i) ∧ t (b + i) ≤ 122) (h : valT t 1 b j = 0) : j = 0 := by
  by_cases q : 9 ≤ j
  · rw [valT_9 q] at h; omega
  · have := valT_p (t := t) (b := b) (j := j) (by omega) hl
    omega
/-- the bytes from b to e are the word's -/
def wdT (t : Nat → Int) (b e i : Nat) : Prop := e = b + xLen.getD i 0 ∧ ∀ k, k < xLen.getD i 0 → t (b + k) = xCh i k
theorem wd_0 {t : Nat → Int} {b e : Nat} (hbe : b ≤ e) (hl : ∀ i, i < e - b → 97 ≤ t (b + i) ∧ t (b + i) ≤ 122) : wdT t b e 0 ↔ valT t 1 b (e - b) = 17288851 := by
  have hn : xLen.getD 0 0 = 5 := rfl
  have c0 : xCh 0 0 = 112 := by decide +kernel
  have c1 : xCh 0 1 = 111 := by decide +kernel
  have c2 : xCh 0 2 = 115 := by decide +kernel
  have c3 : xCh 0 3 = 116 := by decide +kernel
  have c4 : xCh 0 4 = 115 := by decide +kernel
  constructor
  · rintro ⟨he, hb⟩
    rw [hn] at he hb
    have b0 := hb 0 (by omega)
    have b1 := hb 1 (by omega)
    have b2 := hb 2 (by omega)
    have b3 := hb 3 (by omega)
    have b4 := hb 4 (by omega)
    rw [show e - b = 5 by omega]
    have s0 := valT_1s (t := t) (b := b) (j := 0) (by omega)
    have s1 := valT_1s (t := t) (b := b) (j := 1) (by omega)
    have s2 := valT_1s (t := t) (b := b) (j := 2) (by omega)
    have s3 := valT_1s (t := t) (b := b) (j := 3) (by omega)
    have s4 := valT_1s (t := t) (b := b) (j := 4) (by omega)
    have z : valT t 1 b 0 = 0 := rfl
    rw [b0, c0] at s0
    rw [b1, c1] at s1
    rw [b2, c2] at s2
    rw [b3, c3] at s3
    rw [b4, c4] at s4
    simp only [Nat.zero_add, Nat.reduceAdd] at s0 s1 s2 s3 s4
    omega
  · intro h
    obtain ⟨i4, j4, h4, d4⟩ := valT_b hl h (by decide)
    have l4 : ∀ i, i < i4 → 97 ≤ t (b + i) ∧ t (b + i) ≤ 122 := fun i hi => hl i (by omega)
    have h4 : valT t 1 b i4 = 540276 := h4
    obtain ⟨i3, j3, h3, d3⟩ := valT_b l4 h4 (by decide)
    have l3 : ∀ i, i < i3 → 97 ≤ t (b + i) ∧ t (b + i) ≤ 122 := fun i hi => l4 i (by omega)
    have h3 : valT t 1 b i3 = 16883 := h3
    obtain ⟨i2, j2, h2, d2⟩ := valT_b l3 h3 (by decide)
    have l2 : ∀ i, i < i2 → 97 ≤ t (b + i) ∧ t (b + i) ≤ 122 := fun i hi => l3 i (by omega)
    have h2 : valT t 1 b i2 = 527 := h2
    obtain ⟨i1, j1, h1, d1⟩ := valT_b l2 h2 (by decide)
    have l1 : ∀ i, i < i1 → 97 ≤ t (b + i) ∧ t (b + i) ≤ 122 := fun i hi => l2 i (by omega)
    have h1 : valT t 1 b i1 = 16 := h1
    obtain ⟨i0, j0, h0, d0⟩ := valT_b l1 h1 (by decide)
    have l0 : ∀ i, i < i0 → 97 ≤ t (b + i) ∧ t (b + i) ≤ 122 := fun i hi => l1 i (by omega)
    have h0 : valT t 1 b i0 = 0 := h0
    have z := valT_z l0 h0
    have e0 : e - b = 5 := by omega
    have q0 : t (b + 0) = xCh 0 0 := by rw [c0, show 0 = i0 by omega]; exact d0
    have q1 : t (b + 1) = xCh 0 1 := by rw [c1, show 1 = i1 by omega]; exact d1
    have q2 : t (b + 2) = xCh 0 2 := by rw [c2, show 2 = i2 by omega]; exact d2
    have q3 : t (b + 3) = xCh 0 3 := by rw [c3, show 3 = i3 by omega]; exact d3
    have q4 : t (b + 4) = xCh 0 4 := by rw [c4, show 4 = i4 by omega]; exact d4
    refine ⟨by rw [hn]; omega, fun k hk => ?_⟩
    rw [hn] at hk
    have : k = 0 ∨ k = 1 ∨ k = 2 ∨ k = 3 ∨ k = 4 := by omega
    rcases this with rfl | rfl | rfl | rfl | rfl
    · exact q0
    · exact q1
    · exact q2
    · exact q3
    · exact q4
theorem wd_1 {t : Nat → Int} {b e : Nat} (hbe : b ≤ e) (hl : ∀ i, i < e - b → 97 ≤ t (b + i) ∧ t (b + i) ≤ 122) : wdT t b e 1 ↔ valT t 1 b (e - b) = 23937287397 := by
  have hn : xLen.getD 1 0 = 7 := rfl
  have c0 : xCh 1 0 = 118 := by decide +kernel
  have c1 : xCh 1 1 = 105 := by decide +kernel
  have c2 : xCh 1 2 = 108 := by decide +kernel
  have c3 : xCh 1 3 = 108 := by decide +kernel
  have c4 : xCh 1 4 = 97 := by decide +kernel
  have c5 : xCh 1 5 = 103 := by decide +kernel
  have c6 : xCh 1 6 = 101 := by decide +kernel
  constructor
  · rintro ⟨he, hb⟩
    rw [hn] at he hb
    have b0 := hb 0 (by omega)
    have b1 := hb 1 (by omega)
    have b2 := hb 2 (by omega)
    have b3 := hb 3 (by omega)
    have b4 := hb 4 (by omega)
    have b5 := hb 5 (by omega)
    have b6 := hb 6 (by omega)
    rw [show e - b = 7 by omega]
    have s0 := valT_1s (t := t) (b := b) (j := 0) (by omega)
    have s1 := valT_1s (t := t) (b := b) (j := 1) (by omega)
    have s2 := valT_1s (t := t) (b := b) (j := 2) (by omega)
    have s3 := valT_1s (t := t) (b := b) (j := 3) (by omega)
    have s4 := valT_1s (t := t) (b := b) (j := 4) (by omega)
    have s5 := valT_1s (t := t) (b := b) (j := 5) (by omega)
    have s6 := valT_1s (t := t) (b := b) (j := 6) (by omega)
    have z : valT t 1 b 0 = 0 := rfl
    rw [b0, c0] at s0
    rw [b1, c1] at s1
    rw [b2, c2] at s2
    rw [b3, c3] at s3
    rw [b4, c4] at s4
    rw [b5, c5] at s5
    rw [b6, c6] at s6
    simp only [Nat.zero_add, Nat.reduceAdd] at s0 s1 s2 s3 s4 s5 s6
    omega
  · intro h
    obtain ⟨i6, j6, h6, d6⟩ := valT_b hl h (by decide)
    have l6 : ∀ i, i < i6 → 97 ≤ t (b + i) ∧ t (b + i) ≤ 122 := fun i hi => hl i (by omega)
    have h6 : valT t 1 b i6 = 748040231 := h6
    obtain ⟨i5, j5, h5, d5⟩ := valT_b l6 h6 (by decide)
    have l5 : ∀ i, i < i5 → 97 ≤ t (b + i) ∧ t (b + i) ≤ 122 := fun i hi => l6 i (by omega)
    have h5 : valT t 1 b i5 = 23376257 := h5
    obtain ⟨i4, j4, h4, d4⟩ := valT_b l5 h5 (by decide)
    have l4 : ∀ i, i < i4 → 97 ≤ t (b + i) ∧ t (b + i) ≤ 122 := fun i hi => l5 i (by omega)
    have h4 : valT t 1 b i4 = 730508 := h4
    obtain ⟨i3, j3, h3, d3⟩ := valT_b l4 h4 (by decide)
    have l3 : ∀ i, i < i3 → 97 ≤ t (b + i) ∧ t (b + i) ≤ 122 := fun i hi => l4 i (by omega)
    have h3 : valT t 1 b i3 = 22828 := h3
    obtain ⟨i2, j2, h2, d2⟩ := valT_b l3 h3 (by decide)
    have l2 : ∀ i, i < i2 → 97 ≤ t (b + i) ∧ t (b + i) ≤ 122 := fun i hi => l3 i (by omega)
    have h2 : valT t 1 b i2 = 713 := h2
    obtain ⟨i1, j1, h1, d1⟩ := valT_b l2 h2 (by decide)
    have l1 : ∀ i, i < i1 → 97 ≤ t (b + i) ∧ t (b + i) ≤ 122 := fun i hi => l2 i (by omega)
    have h1 : valT t 1 b i1 = 22 := h1
    obtain ⟨i0, j0, h0, d0⟩ := valT_b l1 h1 (by decide)
    have l0 : ∀ i, i < i0 → 97 ≤ t (b + i) ∧ t (b + i) ≤ 122 := fun i hi => l1 i (by omega)
    have h0 : valT t 1 b i0 = 0 := h0
    have z := valT_z l0 h0
    have e0 : e - b = 7 := by omega
    have q0 : t (b + 0) = xCh 1 0 := by rw [c0, show 0 = i0 by omega]; exact d0
    have q1 : t (b + 1) = xCh 1 1 := by rw [c1, show 1 = i1 by omega]; exact d1
    have q2 : t (b + 2) = xCh 1 2 := by rw [c2, show 2 = i2 by omega]; exact d2
    have q3 : t (b + 3) = xCh 1 3 := by rw [c3, show 3 = i3 by omega]; exact d3
    have q4 : t (b + 4) = xCh 1 4 := by rw [c4, show 4 = i4 by omega]; exact d4
    have q5 : t (b + 5) = xCh 1 5 := by rw [c5, show 5 = i5 by omega]; exact d5
    have q6 : t (b + 6) = xCh 1 6 := by rw [c6, show 6 = i6 by omega]; exact d6
    refine ⟨by rw [hn]; omega, fun k hk => ?_⟩
    rw [hn] at hk
    have : k = 0 ∨ k = 1 ∨ k = 2 ∨ k = 3 ∨ k = 4 ∨ k = 5 ∨ k = 6 := by omega
    rcases this with rfl | rfl | rfl | rfl | rfl | rfl | rfl
    · exact q0
    · exact q1
    · exact q2
    · exact q3
    · exact q4
    · exact q5
    · exact q6
theorem wd_2 {t : Nat → Int} {b e : Nat} (hbe : b ≤ e) (hl : ∀ i, i < e - b → 97 ≤ t (b + i) ∧ t (b + i) ≤ 122) : wdT t b e 2 ↔ valT t 1 b (e - b) = 8029764 := by
  have hn : xLen.getD 2 0 = 5 := rfl
  have c0 : xCh 2 0 = 103 := by decide +kernel
  have c1 : xCh 2 1 = 117 := by decide +kernel
  have c2 : xCh 2 2 = 97 := by decide +kernel
  have c3 : xCh 2 3 = 114 := by decide +kernel
  have c4 : xCh 2 4 = 100 := by decide +kernel
  constructor
  · rintro ⟨he, hb⟩
    rw [hn] at he hb
    have b0 := hb 0 (by omega)
    have b1 := hb 1 (by omega)
    have b2 := hb 2 (by omega)
    have b3 := hb 3 (by omega)
    have b4 := hb 4 (by omega)
    rw [show e - b = 5 by omega]
    have s0 := valT_1s (t := t) (b := b) (j := 0) (by omega)
    have s1 := valT_1s (t := t) (b := b) (j := 1) (by omega)
    have s2 := valT_1s (t := t) (b := b) (j := 2) (by omega)
    have s3 := valT_1s (t := t) (b := b) (j := 3) (by omega)
    have s4 := valT_1s (t := t) (b := b) (j := 4) (by omega)
    have z : valT t 1 b 0 = 0 := rfl
    rw [b0, c0] at s0
    rw [b1, c1] at s1
    rw [b2, c2] at s2
    rw [b3, c3] at s3
    rw [b4, c4] at s4
    simp only [Nat.zero_add, Nat.reduceAdd] at s0 s1 s2 s3 s4
    omega
  · intro h
    obtain ⟨i4, j4, h4, d4⟩ := valT_b hl h (by decide)
    have l4 : ∀ i, i < i4 → 97 ≤ t (b + i) ∧ t (b + i) ≤ 122 := fun i hi => hl i (by omega)
    have h4 : valT t 1 b i4 = 250930 := h4
    obtain ⟨i3, j3, h3, d3⟩ := valT_b l4 h4 (by decide)
    have l3 : ∀ i, i < i3 → 97 ≤ t (b + i) ∧ t (b + i) ≤ 122 := fun i hi => l4 i (by omega)
    have h3 : valT t 1 b i3 = 7841 := h3
    obtain ⟨i2, j2, h2, d2⟩ := valT_b l3 h3 (by decide)
    have l2 : ∀ i, i < i2 → 97 ≤ t (b + i) ∧ t (b + i) ≤ 122 := fun i hi => l3 i (by omega)
    have h2 : valT t 1 b i2 = 245 := h2
    obtain ⟨i1, j1, h1, d1⟩ := valT_b l2 h2 (by decide)
    have l1 : ∀ i, i < i1 → 97 ≤ t (b + i) ∧ t (b + i) ≤ 122 := fun i hi => l2 i (by omega)
    have h1 : valT t 1 b i1 = 7 := h1
    obtain ⟨i0, j0, h0, d0⟩ := valT_b l1 h1 (by decide)
    have l0 : ∀ i, i < i0 → 97 ≤ t (b + i) ∧ t (b + i) ≤ 122 := fun i hi => l1 i (by omega)
    have h0 : valT t 1 b i0 = 0 := h0
    have z := valT_z l0 h0
    have e0 : e - b = 5 := by omega
    have q0 : t (b + 0) = xCh 2 0 := by rw [c0, show 0 = i0 by omega]; exact d0
    have q1 : t (b + 1) = xCh 2 1 := by rw [c1, show 1 = i1 by omega]; exact d1
    have q2 : t (b + 2) = xCh 2 2 := by rw [c2, show 2 = i2 by omega]; exact d2
    have q3 : t (b + 3) = xCh 2 3 := by rw [c3, show 3 = i3 by omega]; exact d3
    have q4 : t (b + 4) = xCh 2 4 := by rw [c4, show 4 = i4 by omega]; exact d4
    refine ⟨by rw [hn]; omega, fun k hk => ?_⟩
    rw [hn] at hk
    have : k = 0 ∨ k = 1 ∨ k = 2 ∨ k = 3 ∨ k = 4 := by omega
    rcases this with rfl | rfl | rfl | rfl | rfl
    · exact q0
    · exact q1
    · exact q2
    · exact q3
    · exact q4
theorem wd_3 {t : Nat → Int} {b e : Nat} (hbe : b ≤ e) (hl : ∀ i, i < e - b → 97 ≤ t (b + i) ∧ t (b + i) ≤ 122) : wdT t b e 3 ↔ valT t 1 b (e - b) = 542723566 := by
  have hn : xLen.getD 3 0 = 6 := rfl
  have c0 : xCh 3 0 = 112 := by decide +kernel
  have c1 : xCh 3 1 = 101 := by decide +kernel
  have c2 : xCh 3 2 = 114 := by decide +kernel
  have c3 : xCh 3 3 = 115 := by decide +kernel
  have c4 : xCh 3 4 = 111 := by decide +kernel
  have c5 : xCh 3 5 = 110 := by decide +kernel
  constructor
  · rintro ⟨he, hb⟩
    rw [hn] at he hb
    have b0 := hb 0 (by omega)
    have b1 := hb 1 (by omega)
    have b2 := hb 2 (by omega)
    have b3 := hb 3 (by omega)
    have b4 := hb 4 (by omega)
    have b5 := hb 5 (by omega)
    rw [show e - b = 6 by omega]
    have s0 := valT_1s (t := t) (b := b) (j := 0) (by omega)
    have s1 := valT_1s (t := t) (b := b) (j := 1) (by omega)
    have s2 := valT_1s (t := t) (b := b) (j := 2) (by omega)
    have s3 := valT_1s (t := t) (b := b) (j := 3) (by omega)
    have s4 := valT_1s (t := t) (b := b) (j := 4) (by omega)
    have s5 := valT_1s (t := t) (b := b) (j := 5) (by omega)
    have z : valT t 1 b 0 = 0 := rfl
    rw [b0, c0] at s0
    rw [b1, c1] at s1
    rw [b2, c2] at s2
    rw [b3, c3] at s3
    rw [b4, c4] at s4
    rw [b5, c5] at s5
    simp only [Nat.zero_add, Nat.reduceAdd] at s0 s1 s2 s3 s4 s5
    omega
  · intro h
    obtain ⟨i5, j5, h5, d5⟩ := valT_b hl h (by decide)
    have l5 : ∀ i, i < i5 → 97 ≤ t (b + i) ∧ t (b + i) ≤ 122 := fun i hi => hl i (by omega)
    have h5 : valT t 1 b i5 = 16960111 := h5
    obtain ⟨i4, j4, h4, d4⟩ := valT_b l5 h5 (by decide)
    have l4 : ∀ i, i < i4 → 97 ≤ t (b + i) ∧ t (b + i) ≤ 122 := fun i hi => l5 i (by omega)
    have h4 : valT t 1 b i4 = 530003 := h4
    obtain ⟨i3, j3, h3, d3⟩ := valT_b l4 h4 (by decide)
    have l3 : ∀ i, i < i3 → 97 ≤ t (b + i) ∧ t (b + i) ≤ 122 := fun i hi => l4 i (by omega)
    have h3 : valT t 1 b i3 = 16562 := h3
    obtain ⟨i2, j2, h2, d2⟩ := valT_b l3 h3 (by decide)
    have l2 : ∀ i, i < i2 → 97 ≤ t (b + i) ∧ t (b + i) ≤ 122 := fun i hi => l3 i (by omega)
    have h2 : valT t 1 b i2 = 517 := h2
    obtain ⟨i1, j1, h1, d1⟩ := valT_b l2 h2 (by decide)
    have l1 : ∀ i, i < i1 → 97 ≤ t (b + i) ∧ t (b + i) ≤ 122 := fun i hi => l2 i (by omega)
    have h1 : valT t 1 b i1 = 16 := h1
    obtain ⟨i0, j0, h0, d0⟩ := valT_b l1 h1 (by decide)
    have l0 : ∀ i, i < i0 → 97 ≤ t (b + i) ∧ t (b + i) ≤ 122 := fun i hi => l1 i (by omega)
    have h0 : valT t 1 b i0 = 0 := h0
    have z := valT_z l0 h0
    have e0 : e - b = 6 := by omega
    have q0 : t (b + 0) = xCh 3 0 := by rw [c0, show 0 = i0 by omega]; exact d0
    have q1 : t (b + 1) = xCh 3 1 := by rw [c1, show 1 = i1 by omega]; exact d1
    have q2 : t (b + 2) = xCh 3 2 := by rw [c2, show 2 = i2 by omega]; exact d2
    have q3 : t (b + 3) = xCh 3 3 := by rw [c3, show 3 = i3 by omega]; exact d3
    have q4 : t (b + 4) = xCh 3 4 := by rw [c4, show 4 = i4 by omega]; exact d4
    have q5 : t (b + 5) = xCh 3 5 := by rw [c5, show 5 = i5 by omega]; exact d5
    refine ⟨by rw [hn]; omega, fun k hk => ?_⟩
    rw [hn] at hk
    have : k = 0 ∨ k = 1 ∨ k = 2 ∨ k = 3 ∨ k = 4 ∨ k = 5 := by omega
    rcases this with rfl | rfl | rfl | rfl | rfl | rfl
    · exact q0
    · exact q1
    · exact q2
    · exact q3
    · exact q4
    · exact q5
theorem wd_4 {t : Nat → Int} {b e : Nat} (hbe : b ≤ e) (hl : ∀ i, i < e - b → 97 ≤ t (b + i) ∧ t (b + i) ≤ 122) : wdT t b e 4 ↔ valT t 1 b (e - b) = 54740 := by
  have hn : xLen.getD 4 0 = 4 := rfl
  have c0 : xCh 4 0 = 97 := by decide +kernel
  have c1 : xCh 4 1 = 117 := by decide +kernel
  have c2 : xCh 4 2 = 110 := by decide +kernel
  have c3 : xCh 4 3 = 116 := by decide +kernel
  constructor
  · rintro ⟨he, hb⟩
    rw [hn] at he hb
    have b0 := hb 0 (by omega)
    have b1 := hb 1 (by omega)
    have b2 := hb 2 (by omega)
    have b3 := hb 3 (by omega)
    rw [show e - b = 4 by omega]
    have s0 := valT_1s (t := t) (b := b) (j := 0) (by omega)
    have s1 := valT_1s (t := t) (b := b) (j := 1) (by omega)
    have s2 := valT_1s (t := t) (b := b) (j := 2) (by omega)
    have s3 := valT_1s (t := t) (b := b) (j := 3) (by omega)
    have z : valT t 1 b 0 = 0 := rfl
    rw [b0, c0] at s0
    rw [b1, c1] at s1
    rw [b2, c2] at s2
    rw [b3, c3] at s3
    simp only [Nat.zero_add, Nat.reduceAdd] at s0 s1 s2 s3
    omega
  · intro h
    obtain ⟨i3, j3, h3, d3⟩ := valT_b hl h (by decide)
    have l3 : ∀ i, i < i3 → 97 ≤ t (b + i) ∧ t (b + i) ≤ 122 := fun i hi => hl i (by omega)
    have h3 : valT t 1 b i3 = 1710 := h3
    obtain ⟨i2, j2, h2, d2⟩ := valT_b l3 h3 (by decide)
    have l2 : ∀ i, i < i2 → 97 ≤ t (b + i) ∧ t (b + i) ≤ 122 := fun i hi => l3 i (by omega)
    have h2 : valT t 1 b i2 = 53 := h2
    obtain ⟨i1, j1, h1, d1⟩ := valT_b l2 h2 (by decide)
    have l1 : ∀ i, i < i1 → 97 ≤ t (b + i) ∧ t (b + i) ≤ 122 := fun i hi => l2 i (by omega)
    have h1 : valT t 1 b i1 = 1 := h1
    obtain ⟨i0, j0, h0, d0⟩ := valT_b l1 h1 (by decide)
    have l0 : ∀ i, i < i0 → 97 ≤ t (b + i) ∧ t (b + i) ≤ 122 := fun i hi => l1 i (by omega)
    have h0 : valT t 1 b i0 = 0 := h0
    have z := valT_z l0 h0
    have e0 : e - b = 4 := by omega
    have q0 : t (b + 0) = xCh 4 0 := by rw [c0, show 0 = i0 by omega]; exact d0
    have q1 : t (b + 1) = xCh 4 1 := by rw [c1, show 1 = i1 by omega]; exact d1
    have q2 : t (b + 2) = xCh 4 2 := by rw [c2, show 2 = i2 by omega]; exact d2
    have q3 : t (b + 3) = xCh 4 3 := by rw [c3, show 3 = i3 by omega]; exact d3
    refine ⟨by rw [hn]; omega, fun k hk => ?_⟩
    rw [hn] at hk
    have : k = 0 ∨ k = 1 ∨ k = 2 ∨ k = 3 := by omega
    rcases this with rfl | rfl | rfl | rfl
    · exact q0
    · exact q1
    · exact q2
    · exact q3
theorem wd_5 {t : Nat → Int} {b e : Nat} (hbe : b ≤ e) (hl : ∀ i, i < e - b → 97 ≤ t (b + i) ∧ t (b + i) ≤ 122) : wdT t b e 5 ↔ valT t 1 b (e - b) = 5724665 := by
  have hn : xLen.getD 5 0 = 5 := rfl
  have c0 : xCh 5 0 = 101 := by decide +kernel
  have c1 : xCh 5 1 = 110 := by decide +kernel
  have c2 : xCh 5 2 = 118 := by decide +kernel
  have c3 : xCh 5 3 = 111 := by decide +kernel
  have c4 : xCh 5 4 = 121 := by decide +kernel
  constructor
  · rintro ⟨he, hb⟩
    rw [hn] at he hb
    have b0 := hb 0 (by omega)
    have b1 := hb 1 (by omega)
    have b2 := hb 2 (by omega)
    have b3 := hb 3 (by omega)
    have b4 := hb 4 (by omega)
    rw [show e - b = 5 by omega]
    have s0 := valT_1s (t := t) (b := b) (j := 0) (by omega)
    have s1 := valT_1s (t := t) (b := b) (j := 1) (by omega)
    have s2 := valT_1s (t := t) (b := b) (j := 2) (by omega)
    have s3 := valT_1s (t := t) (b := b) (j := 3) (by omega)
    have s4 := valT_1s (t := t) (b := b) (j := 4) (by omega)
    have z : valT t 1 b 0 = 0 := rfl
    rw [b0, c0] at s0
    rw [b1, c1] at s1
    rw [b2, c2] at s2
    rw [b3, c3] at s3
    rw [b4, c4] at s4
    simp only [Nat.zero_add, Nat.reduceAdd] at s0 s1 s2 s3 s4
    omega
  · intro h
    obtain ⟨i4, j4, h4, d4⟩ := valT_b hl h (by decide)
    have l4 : ∀ i, i < i4 → 97 ≤ t (b + i) ∧ t (b + i) ≤ 122 := fun i hi => hl i (by omega)
    have h4 : valT t 1 b i4 = 178895 := h4
    obtain ⟨i3, j3, h3, d3⟩ := valT_b l4 h4 (by decide)
    have l3 : ∀ i, i < i3 → 97 ≤ t (b + i) ∧ t (b + i) ≤ 122 := fun i hi => l4 i (by omega)
    have h3 : valT t 1 b i3 = 5590 := h3
    obtain ⟨i2, j2, h2, d2⟩ := valT_b l3 h3 (by decide)
    have l2 : ∀ i, i < i2 → 97 ≤ t (b + i) ∧ t (b + i) ≤ 122 := fun i hi => l3 i (by omega)
    have h2 : valT t 1 b i2 = 174 := h2
    obtain ⟨i1, j1, h1, d1⟩ := valT_b l2 h2 (by decide)
    have l1 : ∀ i, i < i1 → 97 ≤ t (b + i) ∧ t (b + i) ≤ 122 := fun i hi => l2 i (by omega)
    have h1 : valT t 1 b i1 = 5 := h1
    obtain ⟨i0, j0, h0, d0⟩ := valT_b l1 h1 (by decide)
    have l0 : ∀ i, i < i0 → 97 ≤ t (b + i) ∧ t (b + i) ≤ 122 := fun i hi => l1 i (by omega)
    have h0 : valT t 1 b i0 = 0 := h0
    have z := valT_z l0 h0
    have e0 : e - b = 5 := by omega
    have q0 : t (b + 0) = xCh 5 0 := by rw [c0, show 0 = i0 by omega]; exact d0
    have q1 : t (b + 1) = xCh 5 1 := by rw [c1, show 1 = i1 by omega]; exact d1
    have q2 : t (b + 2) = xCh 5 2 := by rw [c2, show 2 = i2 by omega]; exact d2
    have q3 : t (b + 3) = xCh 5 3 := by rw [c3, show 3 = i3 by omega]; exact d3
    have q4 : t (b + 4) = xCh 5 4 := by rw [c4, show 4 = i4 by omega]; exact d4
    refine ⟨by rw [hn]; omega, fun k hk => ?_⟩
    rw [hn] at hk
    have : k = 0 ∨ k = 1 ∨ k = 2 ∨ k = 3 ∨ k = 4 := by omega
    rcases this with rfl | rfl | rfl | rfl | rfl
    · exact q0
    · exact q1
    · exact q2
    · exact q3
    · exact q4
theorem wd_6 {t : Nat → Int} {b e : Nat} (hbe : b ≤ e) (hl : ∀ i, i < e - b → 97 ≤ t (b + i) ∧ t (b + i) ≤ 122) : wdT t b e 6 ↔ valT t 1 b (e - b) = 679214 := by
  have hn : xLen.getD 6 0 = 4 := rfl
  have c0 : xCh 6 0 = 116 := by decide +kernel
  have c1 : xCh 6 1 = 119 := by decide +kernel
  have c2 : xCh 6 2 = 105 := by decide +kernel
  have c3 : xCh 6 3 = 110 := by decide +kernel
  constructor
  · rintro ⟨he, hb⟩
    rw [hn] at he hb
    have b0 := hb 0 (by omega)
    have b1 := hb 1 (by omega)
    have b2 := hb 2 (by omega)
    have b3 := hb 3 (by omega)
    rw [show e - b = 4 by omega]
    have s0 := valT_1s (t := t) (b := b) (j := 0) (by omega)
    have s1 := valT_1s (t := t) (b := b) (j := 1) (by omega)
    have s2 := valT_1s (t := t) (b := b) (j := 2) (by omega)
    have s3 := valT_1s (t := t) (b := b) (j := 3) (by omega)
    have z : valT t 1 b 0 = 0 := rfl
    rw [b0, c0] at s0
    rw [b1, c1] at s1
    rw [b2, c2] at s2
    rw [b3, c3] at s3
    simp only [Nat.zero_add, Nat.reduceAdd] at s0 s1 s2 s3
    omega
  · intro h
    obtain ⟨i3, j3, h3, d3⟩ := valT_b hl h (by decide)
    have l3 : ∀ i, i < i3 → 97 ≤ t (b + i) ∧ t (b + i) ≤ 122 := fun i hi => hl i (by omega)
    have h3 : valT t 1 b i3 = 21225 := h3
    obtain ⟨i2, j2, h2, d2⟩ := valT_b l3 h3 (by decide)
    have l2 : ∀ i, i < i2 → 97 ≤ t (b + i) ∧ t (b + i) ≤ 122 := fun i hi => l3 i (by omega)
    have h2 : valT t 1 b i2 = 663 := h2
    obtain ⟨i1, j1, h1, d1⟩ := valT_b l2 h2 (by decide)
    have l1 : ∀ i, i < i1 → 97 ≤ t (b + i) ∧ t (b + i) ≤ 122 := fun i hi => l2 i (by omega)
    have h1 : valT t 1 b i1 = 20 := h1
    obtain ⟨i0, j0, h0, d0⟩ := valT_b l1 h1 (by decide)
    have l0 : ∀ i, i < i0 → 97 ≤ t (b + i) ∧ t (b + i) ≤ 122 := fun i hi => l1 i (by omega)
    have h0 : valT t 1 b i0 = 0 := h0
    have z := valT_z l0 h0
    have e0 : e - b = 4 := by omega
    have q0 : t (b + 0) = xCh 6 0 := by rw [c0, show 0 = i0 by omega]; exact d0
    have q1 : t (b + 1) = xCh 6 1 := by rw [c1, show 1 = i1 by omega]; exact d1
    have q2 : t (b + 2) = xCh 6 2 := by rw [c2, show 2 = i2 by omega]; exact d2
    have q3 : t (b + 3) = xCh 6 3 := by rw [c3, show 3 = i3 by omega]; exact d3
    refine ⟨by rw [hn]; omega, fun k hk => ?_⟩
    rw [hn] at hk
    have : k = 0 ∨ k = 1 ∨ k = 2 ∨ k = 3 := by omega
    rcases this with rfl | rfl | rfl | rfl
    · exact q0
    · exact q1
    · exact q2
    · exact q3
theorem wd_7 {t : Nat → Int} {b e : Nat} (hbe : b ≤ e) (hl : ∀ i, i < e - b → 97 ≤ t (b + i) ∧ t (b + i) ≤ 122) : wdT t b e 7 ↔ valT t 1 b (e - b) = 3417476 := by
  have hn : xLen.getD 7 0 = 5 := rfl
  have c0 : xCh 7 0 = 99 := by decide +kernel
  have c1 : xCh 7 1 = 104 := by decide +kernel
  have c2 : xCh 7 2 = 105 := by decide +kernel
  have c3 : xCh 7 3 = 108 := by decide +kernel
  have c4 : xCh 7 4 = 100 := by decide +kernel
  constructor
  · rintro ⟨he, hb⟩
    rw [hn] at he hb
    have b0 := hb 0 (by omega)
    have b1 := hb 1 (by omega)
    have b2 := hb 2 (by omega)
    have b3 := hb 3 (by omega)
    have b4 := hb 4 (by omega)
    rw [show e - b = 5 by omega]
    have s0 := valT_1s (t := t) (b := b) (j := 0) (by omega)
    have s1 := valT_1s (t := t) (b := b) (j := 1) (by omega)
    have s2 := valT_1s (t := t) (b := b) (j := 2) (by omega)
    have s3 := valT_1s (t := t) (b := b) (j := 3) (by omega)
    have s4 := valT_1s (t := t) (b := b) (j := 4) (by omega)
    have z : valT t 1 b 0 = 0 := rfl
    rw [b0, c0] at s0
    rw [b1, c1] at s1
    rw [b2, c2] at s2
    rw [b3, c3] at s3
    rw [b4, c4] at s4
    simp only [Nat.zero_add, Nat.reduceAdd] at s0 s1 s2 s3 s4
    omega
  · intro h
    obtain ⟨i4, j4, h4, d4⟩ := valT_b hl h (by decide)
    have l4 : ∀ i, i < i4 → 97 ≤ t (b + i) ∧ t (b + i) ≤ 122 := fun i hi => hl i (by omega)
    have h4 : valT t 1 b i4 = 106796 := h4
    obtain ⟨i3, j3, h3, d3⟩ := valT_b l4 h4 (by decide)
    have l3 : ∀ i, i < i3 → 97 ≤ t (b + i) ∧ t (b + i) ≤ 122 := fun i hi => l4 i (by omega)
    have h3 : valT t 1 b i3 = 3337 := h3
    obtain ⟨i2, j2, h2, d2⟩ := valT_b l3 h3 (by decide)
    have l2 : ∀ i, i < i2 → 97 ≤ t (b + i) ∧ t (b + i) ≤ 122 := fun i hi => l3 i (by omega)
    have h2 : valT t 1 b i2 = 104 := h2
    obtain ⟨i1, j1, h1, d1⟩ := valT_b l2 h2 (by decide)
    have l1 : ∀ i, i < i1 → 97 ≤ t (b + i) ∧ t (b + i) ≤ 122 := fun i hi => l2 i (by omega)
    have h1 : valT t 1 b i1 = 3 := h1
    obtain ⟨i0, j0, h0, d0⟩ := valT_b l1 h1 (by decide)
    have l0 : ∀ i, i < i0 → 97 ≤ t (b + i) ∧ t (b + i) ≤ 122 := fun i hi => l1 i (by omega)
    have h0 : valT t 1 b i0 = 0 := h0
    have z := valT_z l0 h0
    have e0 : e - b = 5 := by omega
    have q0 : t (b + 0) = xCh 7 0 := by rw [c0, show 0 = i0 by omega]; exact d0
    have q1 : t (b + 1) = xCh 7 1 := by rw [c1, show 1 = i1 by omega]; exact d1
    have q2 : t (b + 2) = xCh 7 2 := by rw [c2, show 2 = i2 by omega]; exact d2
    have q3 : t (b + 3) = xCh 7 3 := by rw [c3, show 3 = i3 by omega]; exact d3
    have q4 : t (b + 4) = xCh 7 4 := by rw [c4, show 4 = i4 by omega]; exact d4
    refine ⟨by rw [hn]; omega, fun k hk => ?_⟩
    rw [hn] at hk
    have : k = 0 ∨ k = 1 ∨ k = 2 ∨ k = 3 ∨ k = 4 := by omega
    rcases this with rfl | rfl | rfl | rfl | rfl
    · exact q0
    · exact q1
    · exact q2
    · exact q3
    · exact q4
theorem wd_8 {t : Nat → Int} {b e : Nat} (hbe : b ≤ e) (hl : ∀ i, i < e - b → 97 ≤ t (b + i) ∧ t (b + i) ≤ 122) : wdT t b e 8 ↔ valT t 1 b (e - b) = 441803 := by
  have hn : xLen.getD 8 0 = 4 := rfl
  have c0 : xCh 8 0 = 109 := by decide +kernel
  have c1 : xCh 8 1 = 111 := by decide +kernel
  have c2 : xCh 8 2 = 110 := by decide +kernel
  have c3 : xCh 8 3 = 107 := by decide +kernel
  constructor
  · rintro ⟨he, hb⟩
    rw [hn] at he hb
    have b0 := hb 0 (by omega)
    have b1 := hb 1 (by omega)
    have b2 := hb 2 (by omega)
    have b3 := hb 3 (by omega)
    rw [show e - b = 4 by omega]
    have s0 := valT_1s (t := t) (b := b) (j := 0) (by omega)
    have s1 := valT_1s (t := t) (b := b) (j := 1) (by omega)
    have s2 := valT_1s (t := t) (b := b) (j := 2) (by omega)
    have s3 := valT_1s (t := t) (b := b) (j := 3) (by omega)
    have z : valT t 1 b 0 = 0 := rfl
    rw [b0, c0] at s0
    rw [b1, c1] at s1
    rw [b2, c2] at s2
    rw [b3, c3] at s3
    simp only [Nat.zero_add, Nat.reduceAdd] at s0 s1 s2 s3
    omega
  · intro h
    obtain ⟨i3, j3, h3, d3⟩ := valT_b hl h (by decide)
    have l3 : ∀ i, i < i3 → 97 ≤ t (b + i) ∧ t (b + i) ≤ 122 := fun i hi => hl i (by omega)
    have h3 : valT t 1 b i3 = 13806 := h3
    obtain ⟨i2, j2, h2, d2⟩ := valT_b l3 h3 (by decide)
    have l2 : ∀ i, i < i2 → 97 ≤ t (b + i) ∧ t (b + i) ≤ 122 := fun i hi => l3 i (by omega)
    have h2 : valT t 1 b i2 = 431 := h2
    obtain ⟨i1, j1, h1, d1⟩ := valT_b l2 h2 (by decide)
    have l1 : ∀ i, i < i1 → 97 ≤ t (b + i) ∧ t (b + i) ≤ 122 := fun i hi => l2 i (by omega)
    have h1 : valT t 1 b i1 = 13 := h1
    obtain ⟨i0, j0, h0, d0⟩ := valT_b l1 h1 (by decide)
    have l0 : ∀ i, i < i0 → 97 ≤ t (b + i) ∧ t (b + i) ≤ 122 := fun i hi => l1 i (by omega)
    have h0 : valT t 1 b i0 = 0 := h0
    have z := valT_z l0 h0
    have e0 : e - b = 4 := by omega
    have q0 : t (b + 0) = xCh 8 0 := by rw [c0, show 0 = i0 by omega]; exact d0
    have q1 : t (b + 1) = xCh 8 1 := by rw [c1, show 1 = i1 by omega]; exact d1
    have q2 : t (b + 2) = xCh 8 2 := by rw [c2, show 2 = i2 by omega]; exact d2
    have q3 : t (b + 3) = xCh 8 3 := by rw [c3, show 3 = i3 by omega]; exact d3
    refine ⟨by rw [hn]; omega, fun k hk => ?_⟩
    rw [hn] at hk
    have : k = 0 ∨ k = 1 ∨ k = 2 ∨ k = 3 := by omega
    rcases this with rfl | rfl | rfl | rfl
    · exact q0
    · exact q1
    · exact q2
    · exact q3
def valN (t : Nat → Int) (b : Nat) : Nat → Int
  | 0 => 0
  | j + 1 => 10 * valN t b j + t (b + j) - 48
theorem valT_N {t : Nat → Int} {b : Nat} : ∀ {j : Nat}, j ≤ 8 → valT t 2 b j = valN t b j
  | 0, _ => rfl
  | j + 1, h => by
    show (if 7 < j then _ else _) = _
    rw [if_neg (by omega), if_neg (by omega), valT_N (by omega)]
    rfl
theorem valN_3 {t : Nat → Int} {b j : Nat} (h : j ≤ 3) (hd : ∀ i, i < j → 48 ≤ t (b + i) ∧ t (b + i) ≤ 57) : 0 ≤ valN t b j ∧ valN t b j ≤ 999 := by
  have z : valN t b 0 = 0 := rfl
  have s0 : valN t b 1 = 10 * valN t b 0 + t (b + 0) - 48 := rfl
  have s1 : valN t b 2 = 10 * valN t b 1 + t (b + 1) - 48 := rfl
  have s2 : valN t b 3 = 10 * valN t b 2 + t (b + 2) - 48 := rfl
  have hj : j = 0 ∨ j = 1 ∨ j = 2 ∨ j = 3 := by omega
  rcases hj with rfl | rfl | rfl | rfl
  · omega
  · have h0 := hd 0 (by omega); omega
  · have h0 := hd 0 (by omega); have h1 := hd 1 (by omega); omega
  · have h0 := hd 0 (by omega); have h1 := hd 1 (by omega); have h2 := hd 2 (by omega); omega
theorem tokV_num {t : Nat → Int} {n a : Nat} (ha : a ≤ n) (h : tokK t n a = 2) : skT t n a < n ∧ srt (t (skT t n a)) = 2 ∧ reT t n 2 (skT t n a) - skT t n a ≤ 3 ∧ tokE t n a = reT t n 2 (skT t n a) ∧ tokV t n a = valN t (skT t n a) (reT t n 2 (skT t n a) - skT t n a) ∧ 0 ≤ tokV t n a ∧ tokV t n a ≤ 999 := by
  unfold tokK at h
  split at h
  · next q =>
    split at h
    · omega
    · next q2 =>
      have h3 : reT t n 2 (skT t n a) - skT t n a ≤ 3 := by
        have hs := h
        by_cases z : 3 < reT t n 2 (skT t n a) - skT t n a
        · exact absurd ⟨hs, z⟩ q2
        · omega
      have hE : tokE t n a = reT t n 2 (skT t n a) := by
        unfold tokE; rw [if_pos q, if_pos (Or.inr h), h]
      have hV : tokV t n a = valN t (skT t n a) (reT t n 2 (skT t n a) - skT t n a) := by
        unfold tokV; rw [if_pos ⟨q, Or.inr h⟩, h, valT_N (by omega)]
      have hr := valN_3 (t := t) (b := skT t n a) h3 (fun i hi => srt_2 (reT_in (n := n) (a := skT t n a) (by omega) (by omega)))
      exact ⟨q, h, h3, hE, hV, by omega, by omega⟩
  · omega
theorem tok_name {t : Nat → Int} {n a : Nat} (ha : a ≤ n) (h : tokK t n a = 1) : skT t n a ≤ tokE t n a ∧ tokE t n a ≤ n ∧ (∀ i, i < tokE t n a - skT t n a → 97 ≤ t (skT t n a + i) ∧ t (skT t n a + i) ≤ 122) ∧ tokV t n a = valT t 1 (skT t n a) (tokE t n a - skT t n a) := by
  have hr := tokE_rng (t := t) ha
  have hs := skT_le (t := t) ha
  unfold tokK at h
  split at h
  · next q =>
    split at h
    · omega
    · have hE : tokE t n a = reT t n 1 (skT t n a) := by
        unfold tokE; rw [if_pos q, if_pos (Or.inl h), h]
      have h2 := reT_le (t := t) (k := 1) hs.2
      rw [hE]
      refine ⟨h2.1, h2.2, fun i hi => srt_1 (reT_in (n := n) (a := skT t n a) (by omega) (by omega)), ?_⟩
      unfold tokV; rw [if_pos ⟨q, Or.inl h⟩, h]
  · omega
/-- the current token, as the class keeps it -/
def TK (t : Nat → Int) (n a : Nat) (so s e vv : Int) : Prop := so = tokK t n a ∧ s = (skT t n a : Int) ∧ e = (tokE t n a : Int) ∧ (so = 2 → vv = tokV t n a)
/-- the token from a on is the word i -/
def isW (t : Nat → Int) (n a i : Nat) : Prop := tokK t n a = 1 ∧ wdT t (skT t n a) (tokE t n a) i
theorem isW_0 {t : Nat → Int} {n a : Nat} (ha : a ≤ n) : isW t n a 0 ↔ tokK t n a = 1 ∧ tokV t n a = 17288851 := by
  constructor
  · rintro ⟨h1, h2⟩
    have h := tok_name ha h1
    exact ⟨h1, by rw [h.2.2.2]; exact (wd_0 h.1 h.2.2.1).mp h2⟩
  · rintro ⟨h1, h2⟩
    have h := tok_name ha h1
    exact ⟨h1, (wd_0 h.1 h.2.2.1).mpr (by rw [← h.2.2.2]; exact h2)⟩
theorem isW_1 {t : Nat → Int} {n a : Nat} (ha : a ≤ n) : isW t n a 1 ↔ tokK t n a = 1 ∧ tokV t n a = 23937287397 := by
  constructor
  · rintro ⟨h1, h2⟩
    have h := tok_name ha h1
    exact ⟨h1, by rw [h.2.2.2]; exact (wd_1 h.1 h.2.2.1).mp h2⟩
  · rintro ⟨h1, h2⟩
    have h := tok_name ha h1
    exact ⟨h1, (wd_1 h.1 h.2.2.1).mpr (by rw [← h.2.2.2]; exact h2)⟩
theorem isW_2 {t : Nat → Int} {n a : Nat} (ha : a ≤ n) : isW t n a 2 ↔ tokK t n a = 1 ∧ tokV t n a = 8029764 := by
  constructor
  · rintro ⟨h1, h2⟩
    have h := tok_name ha h1
    exact ⟨h1, by rw [h.2.2.2]; exact (wd_2 h.1 h.2.2.1).mp h2⟩
  · rintro ⟨h1, h2⟩
    have h := tok_name ha h1
    exact ⟨h1, (wd_2 h.1 h.2.2.1).mpr (by rw [← h.2.2.2]; exact h2)⟩
theorem isW_3 {t : Nat → Int} {n a : Nat} (ha : a ≤ n) : isW t n a 3 ↔ tokK t n a = 1 ∧ tokV t n a = 542723566 := by
  constructor
  · rintro ⟨h1, h2⟩
    have h := tok_name ha h1
    exact ⟨h1, by rw [h.2.2.2]; exact (wd_3 h.1 h.2.2.1).mp h2⟩
  · rintro ⟨h1, h2⟩
    have h := tok_name ha h1
    exact ⟨h1, (wd_3 h.1 h.2.2.1).mpr (by rw [← h.2.2.2]; exact h2)⟩
theorem isW_4 {t : Nat → Int} {n a : Nat} (ha : a ≤ n) : isW t n a 4 ↔ tokK t n a = 1 ∧ tokV t n a = 54740 := by
  constructor
  · rintro ⟨h1, h2⟩
    have h := tok_name ha h1
    exact ⟨h1, by rw [h.2.2.2]; exact (wd_4 h.1 h.2.2.1).mp h2⟩
  · rintro ⟨h1, h2⟩
    have h := tok_name ha h1
    exact ⟨h1, (wd_4 h.1 h.2.2.1).mpr (by rw [← h.2.2.2]; exact h2)⟩
theorem isW_5 {t : Nat → Int} {n a : Nat} (ha : a ≤ n) : isW t n a 5 ↔ tokK t n a = 1 ∧ tokV t n a = 5724665 := by
  constructor
  · rintro ⟨h1, h2⟩
    have h := tok_name ha h1
    exact ⟨h1, by rw [h.2.2.2]; exact (wd_5 h.1 h.2.2.1).mp h2⟩
  · rintro ⟨h1, h2⟩
    have h := tok_name ha h1
    exact ⟨h1, (wd_5 h.1 h.2.2.1).mpr (by rw [← h.2.2.2]; exact h2)⟩
theorem isW_6 {t : Nat → Int} {n a : Nat} (ha : a ≤ n) : isW t n a 6 ↔ tokK t n a = 1 ∧ tokV t n a = 679214 := by
  constructor
  · rintro ⟨h1, h2⟩
    have h := tok_name ha h1
    exact ⟨h1, by rw [h.2.2.2]; exact (wd_6 h.1 h.2.2.1).mp h2⟩
  · rintro ⟨h1, h2⟩
    have h := tok_name ha h1
    exact ⟨h1, (wd_6 h.1 h.2.2.1).mpr (by rw [← h.2.2.2]; exact h2)⟩
theorem isW_7 {t : Nat → Int} {n a : Nat} (ha : a ≤ n) : isW t n a 7 ↔ tokK t n a = 1 ∧ tokV t n a = 3417476 := by
  constructor
  · rintro ⟨h1, h2⟩
    have h := tok_name ha h1
    exact ⟨h1, by rw [h.2.2.2]; exact (wd_7 h.1 h.2.2.1).mp h2⟩
  · rintro ⟨h1, h2⟩
    have h := tok_name ha h1
    exact ⟨h1, (wd_7 h.1 h.2.2.1).mpr (by rw [← h.2.2.2]; exact h2)⟩
theorem isW_8 {t : Nat → Int} {n a : Nat} (ha : a ≤ n) : isW t n a 8 ↔ tokK t n a = 1 ∧ tokV t n a = 441803 := by
  constructor
  · rintro ⟨h1, h2⟩
    have h := tok_name ha h1
    exact ⟨h1, by rw [h.2.2.2]; exact (wd_8 h.1 h.2.2.1).mp h2⟩
  · rintro ⟨h1, h2⟩
    have h := tok_name ha h1
    exact ⟨h1, (wd_8 h.1 h.2.2.1).mpr (by rw [← h.2.2.2]; exact h2)⟩

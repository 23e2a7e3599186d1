theorem dL_law_0 : decode cL_law 0 = .ok (.new 7, 3) := by decide +kernel
theorem dL_law_3 : decode cL_law 3 = .ok (.dup, 1) := by decide +kernel
theorem dL_law_4 : decode cL_law 4 = .ok (.invokespecial 9, 3) := by decide +kernel
theorem dL_law_7 : decode cL_law 7 = .ok (.astore_n 1, 1) := by decide +kernel
theorem dL_law_8 : decode cL_law 8 = .ok (.new 10, 3) := by decide +kernel
theorem dL_law_11 : decode cL_law 11 = .ok (.dup, 1) := by decide +kernel
theorem dL_law_12 : decode cL_law 12 = .ok (.invokespecial 12, 3) := by decide +kernel
theorem dL_law_15 : decode cL_law 15 = .ok (.astore_n 2, 1) := by decide +kernel
theorem dL_law_16 : decode cL_law 16 = .ok (.iconst 0, 1) := by decide +kernel
theorem dL_law_17 : decode cL_law 17 = .ok (.istore_n 3, 1) := by decide +kernel
theorem dL_law_18 : decode cL_law 18 = .ok (.iload_n 3, 1) := by decide +kernel
theorem dL_law_19 : decode cL_law 19 = .ok (.aload_n 0, 1) := by decide +kernel
theorem dL_law_20 : decode cL_law 20 = .ok (.arraylength, 1) := by decide +kernel
theorem dL_law_21 : decode cL_law 21 = .ok (.bipush 6, 2) := by decide +kernel
theorem dL_law_23 : decode cL_law 23 = .ok (.isub, 1) := by decide +kernel
theorem dL_law_24 : decode cL_law 24 = .ok (.if_icmp .gt 935, 3) := by decide +kernel
theorem dL_law_27 : decode cL_law 27 = .ok (.aload_n 0, 1) := by decide +kernel
theorem dL_law_28 : decode cL_law 28 = .ok (.iload_n 3, 1) := by decide +kernel
theorem dL_law_29 : decode cL_law 29 = .ok (.iaload, 1) := by decide +kernel
theorem dL_law_30 : decode cL_law 30 = .ok (.bipush 31, 2) := by decide +kernel
theorem dL_law_32 : decode cL_law 32 = .ok (.iand, 1) := by decide +kernel
theorem dL_law_33 : decode cL_law 33 = .ok (.tableswitch 920 0 24 #[115, 158, 201, 264, 287, 350, 363, 376, 409, 422, 455, 488, 521, 554, 597, 640, 683, 726, 749, 772, 795, 828, 861, 884, 907], 115) := by decide +kernel
theorem dL_law_953 : decode cL_law 953 = .ok (.iinc 3 6, 3) := by decide +kernel
theorem dL_law_956 : decode cL_law 956 = .ok (.goto (-938), 3) := by decide +kernel
theorem dL_law_959 : decode cL_law 959 = .ok (.iconst 1, 1) := by decide +kernel
theorem dL_law_960 : decode cL_law 960 = .ok (.ireturn, 1) := by decide +kernel
/-! the law -/
theorem law_loop {Γ : XT} {E : XE} {B b Lx : Nat} {xs : Nat → Int32} (K : Cx Γ E B cL_law RL lw_tbl room_1) (hnL : Γ.2.2.2.2.2.2.2.2.2.2.2.2.2 = 4) (hX : va_X b Lx xs Γ.2.2.2.2.1 Γ.2.2.2.2.1.heap) (hbB : b < B) (hLx : Lx ≤ 3072) (hend : ∀ (N : Nat) (v : Nat → va_E) (L : List (Nat × Value)) (kc ks : Nat), kc ≤ 600000 → ks ≤ 7302250 → XW Γ N v L kc ks 959 []) : ∀ (n i N : Nat) (v : Nat → va_E), i + n = 513 → REL E B N v → XW Γ N v [(3, .int (zI (6 * (i : Int)))), (2, .ref (B + 161)), (1, .ref (B + 0)), (0, .ref b)] (200 + 28 * i) (8000 + 270 * i) 18 []
  | 0, i, N, v, hn, hR => by
    refine x_iload_n (pc := 18) 0 K rfl rfl dL_law_18 ?_
    refine x_aload_n (pc := 19) 3 K rfl rfl dL_law_19 ?_
    refine x_slen (pc := 20) K hX hbB dL_law_20 ?_
    refine x_bipush (pc := 21) K (by decide) dL_law_21 ?_
    refine x_isub (pc := 23) K dL_law_23 ?_
    refine x_icmp_gt (pc := 24) (tgt := 959) K (by omega) (by omega) dL_law_24 (by decide) (fun _ => hend _ _ _ _ _ (by omega) (by omega)) (fun hq => ?_)
    omega
  | n + 1, i, N, v, hn, hR => by
    refine x_iload_n (pc := 18) 0 K rfl rfl dL_law_18 ?_
    refine x_aload_n (pc := 19) 3 K rfl rfl dL_law_19 ?_
    refine x_slen (pc := 20) K hX hbB dL_law_20 ?_
    refine x_bipush (pc := 21) K (by decide) dL_law_21 ?_
    refine x_isub (pc := 23) K dL_law_23 ?_
    refine x_icmp_gt (pc := 24) (tgt := 959) K (by omega) (by omega) dL_law_24 (by decide) (fun _ => hend _ _ _ _ _ (by omega) (by omega)) (fun hq => ?_)
    have hi : 6 * i + 6 ≤ Lx := by omega
    clear hq
    have kk : ∀ N2 v2, REL E B N2 v2 → XW Γ N2 v2 [(3, .int (zI (6 * (i : Int)))), (2, .ref (B + 161)), (1, .ref (B + 0)), (0, .ref b)] (200 + 28 * i + 28) (8000 + 270 * i + 270) 953 [] := fun N2 v2 hR2 => by
      refine x_iinc (pc := 953) (a := 6 * (i : Int)) (n := 6) (L' := [(3, .int (zI (6 * ((i + 1 : Nat) : Int)))), (2, .ref (B + 161)), (1, .ref (B + 0)), (0, .ref b)]) 0 K hnL rfl (by decide) (by rw [show 6 * (i : Int) + 6 = 6 * ((i + 1 : Nat) : Int) by omega]; rfl) dL_law_953 ?_
      refine x_goto (pc := 956) (tgt := 18) K dL_law_956 (by decide) ?_
      exact x_kc (by omega) (by omega) (law_loop K hnL hX hbB hLx hend n (i + 1) N2 v2 (by omega) hR2)
    refine x_aload_n (pc := 27) 3 K rfl rfl dL_law_27 ?_
    refine x_iload_n (pc := 28) 0 K rfl rfl dL_law_28 ?_
    refine x_sld (pc := 29) (6 * i) K hX hbB (by omega) (by omega) (by omega) dL_law_29 ?_
    refine x_bipush (pc := 30) K (by decide) dL_law_30 ?_
    refine x_iand (pc := 32) K dL_law_32 ?_
    obtain ⟨z, hz, ez⟩ := and31 (zI (xs (6 * i)).toInt)
    rw [ez]
    have hkc : 200 + 28 * i + 28 ≤ 600000 := by omega
    have hks : 8000 + 270 * i + 270 ≤ 7302250 := by omega
    by_cases h24 : z ≤ 24
    · have hz2 : z = 0 ∨ z = 1 ∨ z = 2 ∨ z = 3 ∨ z = 4 ∨ z = 5 ∨ z = 6 ∨ z = 7 ∨ z = 8 ∨ z = 9 ∨ z = 10 ∨ z = 11 ∨ z = 12 ∨ z = 13 ∨ z = 14 ∨ z = 15 ∨ z = 16 ∨ z = 17 ∨ z = 18 ∨ z = 19 ∨ z = 20 ∨ z = 21 ∨ z = 22 ∨ z = 23 ∨ z = 24 := by omega
      clear ez hz h24
      rcases hz2 with rfl | rfl | rfl | rfl | rfl | rfl | rfl | rfl | rfl | rfl | rfl | rfl | rfl | rfl | rfl | rfl | rfl | rfl | rfl | rfl | rfl | rfl | rfl | rfl | rfl
      · exact x_tswIn (pc := 33) (off := 115) (tgt := 148) K (by omega) (by omega) (by omega) dL_law_33 rfl (by decide) (lc_row K hX hbB hi hLx hR hkc hks kk)
      · exact x_tswIn (pc := 33) (off := 158) (tgt := 191) K (by omega) (by omega) (by omega) dL_law_33 rfl (by decide) (lc_set K hX hbB hi hLx hR hkc hks kk)
      · exact x_tswIn (pc := 33) (off := 201) (tgt := 234) K (by omega) (by omega) (by omega) dL_law_33 rfl (by decide) (lc_copy K hX hbB hi hLx hR hkc hks kk)
      · exact x_tswIn (pc := 33) (off := 264) (tgt := 297) K (by omega) (by omega) (by omega) dL_law_33 rfl (by decide) (lc_drop K hX hbB hi hLx hR hkc hks kk)
      · exact x_tswIn (pc := 33) (off := 287) (tgt := 320) K (by omega) (by omega) (by omega) dL_law_33 rfl (by decide) (lc_feed K hX hbB hi hLx hR hkc hks kk)
      · exact x_tswIn (pc := 33) (off := 350) (tgt := 383) K (by omega) (by omega) (by omega) dL_law_33 rfl (by decide) (lc_ground K hX hbB hi hLx hR hkc hks kk)
      · exact x_tswIn (pc := 33) (off := 363) (tgt := 396) K (by omega) (by omega) (by omega) dL_law_33 rfl (by decide) (lc_fault K hX hbB hi hLx hR hkc hks kk)
      · exact x_tswIn (pc := 33) (off := 376) (tgt := 409) K (by omega) (by omega) (by omega) dL_law_33 rfl (by decide) (lc_cross K hX hbB hi hLx hR hkc hks kk)
      · exact x_tswIn (pc := 33) (off := 409) (tgt := 442) K (by omega) (by omega) (by omega) dL_law_33 rfl (by decide) (lc_undo K hX hbB hi hLx hR hkc hks kk)
      · exact x_tswIn (pc := 33) (off := 422) (tgt := 455) K (by omega) (by omega) (by omega) dL_law_33 rfl (by decide) (lc_person K hX hbB hi hLx hR hkc hks kk)
      · exact x_tswIn (pc := 33) (off := 455) (tgt := 488) K (by omega) (by omega) (by omega) dL_law_33 rfl (by decide) (lc_cell K hX hbB hi hLx hR hkc hks kk)
      · exact x_tswIn (pc := 33) (off := 488) (tgt := 521) K (by omega) (by omega) (by omega) dL_law_33 rfl (by decide) (lc_land K hX hbB hi hLx hR hkc hks kk)
      · exact x_tswIn (pc := 33) (off := 521) (tgt := 554) K (by omega) (by omega) (by omega) dL_law_33 rfl (by decide) (lc_best K hX hbB hi hLx hR hkc hks kk)
      · exact x_tswIn (pc := 33) (off := 554) (tgt := 587) K (by omega) (by omega) (by omega) dL_law_33 rfl (by decide) (lc_answer K hX hbB hi hLx hR hkc hks kk)
      · exact x_tswIn (pc := 33) (off := 597) (tgt := 630) K (by omega) (by omega) (by omega) dL_law_33 rfl (by decide) (lc_game K hX hbB hi hLx hR hkc hks kk)
      · exact x_tswIn (pc := 33) (off := 640) (tgt := 673) K (by omega) (by omega) (by omega) dL_law_33 rfl (by decide) (lc_held K hX hbB hi hLx hR hkc hks kk)
      · exact x_tswIn (pc := 33) (off := 683) (tgt := 716) K (by omega) (by omega) (by omega) dL_law_33 rfl (by decide) (lc_went K hX hbB hi hLx hR hkc hks kk)
      · exact x_tswIn (pc := 33) (off := 726) (tgt := 759) K (by omega) (by omega) (by omega) dL_law_33 rfl (by decide) (lc_image K hX hbB hi hLx hR hkc hks kk)
      · exact x_tswIn (pc := 33) (off := 749) (tgt := 782) K (by omega) (by omega) (by omega) dL_law_33 rfl (by decide) (lc_restore K hX hbB hi hLx hR hkc hks kk)
      · exact x_tswIn (pc := 33) (off := 772) (tgt := 805) K (by omega) (by omega) (by omega) dL_law_33 rfl (by decide) (lc_kind K hX hbB hi hLx hR hkc hks kk)
      · exact x_tswIn (pc := 33) (off := 795) (tgt := 828) K (by omega) (by omega) (by omega) dL_law_33 rfl (by decide) (lc_as K hX hbB hi hLx hR hkc hks kk)
      · exact x_tswIn (pc := 33) (off := 828) (tgt := 861) K (by omega) (by omega) (by omega) dL_law_33 rfl (by decide) (lc_ask K hX hbB hi hLx hR hkc hks kk)
      · exact x_tswIn (pc := 33) (off := 861) (tgt := 894) K (by omega) (by omega) (by omega) dL_law_33 rfl (by decide) (lc_trace K hX hbB hi hLx hR hkc hks kk)
      · exact x_tswIn (pc := 33) (off := 884) (tgt := 917) K (by omega) (by omega) (by omega) dL_law_33 rfl (by decide) (lc_count K hX hbB hi hLx hR hkc hks kk)
      · exact x_tswIn (pc := 33) (off := 907) (tgt := 940) K (by omega) (by omega) (by omega) dL_law_33 rfl (by decide) (lc_status K hX hbB hi hLx hR hkc hks kk)
    · refine x_tswOut (pc := 33) (tgt := 953) K (by omega) (by omega) dL_law_33 (by decide) ?_
      exact x_widen (by omega) (by omega) (kk N v hR)
/-! THE CLAIM OUT OF ONE WALK OF THE LAW'S BODY. Your part is whole_start (and what it stands on); all else here is the same for every law, but numbers. -/
def R_law : String := "BorderBedsLaw"
def lw_P (b : Addr) (xs : List Int32) (args : Array Value) (s : State) : Prop := args = #[.ref b] ∧ s.IntsAt b xs ∧ xs.length ≤ 3072 ∧ (Jvm.Cond.and given_1 narrow_1).before args s = true
def lw_Q (_ : Array Value) (s : State) (o : Outcome) (t : State) : Prop := o = .returned (some (.int 1)) ∧ Framed s o t [] 600000 7302250
def lw_Z (below : List Frame) (a : Array Value) (s : State) : State → Prop := fun t => ∃ o, t.status = .running ∧ Ended t below o ∧ lw_Q a s o t
/-- the law's own end, with 1 on the stack, nothing written that was there before, its room as the claim has it -/
theorem lw_ret {p : Program} {l : Launch} {e : Env} {s : State} {m : MethodId} {below : List Frame} {meth : Method} {c : Code} {b : Nat} (hx : p.tables.exec = Jvm.exec) (hb : c.code = code) (hr : meth.sig.returnType = ret) (hlocks : meth.locks = false) {pc : Nat} {H : Heap} {ls : Array Slot} (hdg : decode code pc = .ok (.ireturn, 1)) : W p l e room_1 s m #[Value.ref b] below meth c H [] 600000 7302250 (lw_Z below #[Value.ref b] s) (F0 m pc ls [.int 1]) := by
  intro T hT X
  obtain ⟨fs, hret, hrun, hended, hW, hframe⟩ := X.leave (v := some (.int 1)) (hlocks := hlocks) (fun h => by rw [hr] at h; cases h)
  have hmeth' : T.vm.method? m = some meth := X.method'
  refine ⟨T.setFrames fs, ?_, .returned (some (.int 1)), hrun, hended, rfl, ⟨_, rfl⟩, hW, hframe⟩
  jvm_step X.here [X.here.top, hx, hb, hdg, hmeth', hr, ret, narrow_b1]
  (try refine ⟨rfl, ?_⟩); (try refine ⟨rfl, ?_⟩)
  first | (intro acts; rw [hret _ acts rfl rfl rfl]) | rw [hret _ _ rfl rfl rfl]
  exact Steps.refl _
/-- what holds at the law's entry: the machine, the code, the tables' words (any of lw_tbl by 'hts w (by decide +kernel)'), the script of L ints xs at the cell b, what the Statement gives of the start (any of its parts by flat_of_before) -/
def lw_At (p : Program) (s : State) (m : MethodId) (meth : Method) (c : Code) (b L : Nat) (xs : Nat → Int32) : Prop :=
  p.tables.exec = Jvm.exec ∧ c.code = code ∧ meth.sig.returnType = ret ∧ c.maxLocals = 4 ∧ s.vm.findClass R_law = some m.cls ∧ (∀ w ∈ lw_tbl, w.before #[Value.ref b] s = true) ∧ va_X b L xs s s.heap ∧ b < s.heap.size ∧ meth.locks = false ∧ (Jvm.Cond.and given_1 narrow_1).before #[Value.ref b] s = true
theorem law_end {p : Program} {e : Env} {s : State} {m : MethodId} {below : List Frame} {meth : Method} {c : Code} {l : Launch} {b : Nat} {E : XE} {N : Nat} {v : Nat → va_E} {L : List (Nat × Value)} {kc ks : Nat} (K : Cx (p, l, e, room_1, s, m, #[Value.ref b], below, meth, c, E, s.heap.size, lw_Z below #[Value.ref b] s, 4) E s.heap.size cL_law RL lw_tbl room_1) (hx : p.tables.exec = Jvm.exec) (hb : c.code = code) (hr : meth.sig.returnType = ret) (hlocks : meth.locks = false) (h1 : kc ≤ 600000) (h2 : ks ≤ 7302250) : XW (p, l, e, room_1, s, m, #[Value.ref b], below, meth, c, E, s.heap.size, lw_Z below #[Value.ref b] s, 4) N v L kc ks 959 [] := by
  refine x_iconst (pc := 959) K dL_law_959 ?_
  rw [show zI 1 = (1 : Int32) by decide]
  intro H locs ls hP hS hl
  refine va_forget (fun q hq => hS.2.2 q hq) ?_
  refine W.widen h1 h2 ?_
  exact lw_ret hx hb hr hlocks dL_law_960
theorem law_body {Γ : XT} {E : XE} {B b Lx : Nat} {xs : Nat → Int32} (v : Nat → va_E) (K : Cx Γ E B cL_law RL lw_tbl room_1) (hnL : Γ.2.2.2.2.2.2.2.2.2.2.2.2.2 = 4) (hX : va_X b Lx xs Γ.2.2.2.2.1 Γ.2.2.2.2.1.heap) (hbB : b < B) (hLx : Lx ≤ 3072) (hend : ∀ (N : Nat) (v : Nat → va_E) (L : List (Nat × Value)) (kc ks : Nat), kc ≤ 600000 → ks ≤ 7302250 → XW Γ N v L kc ks 959 []) : XW Γ 0 v [(0, .ref b)] 0 0 0 [] := by
  refine x_new (pc := 0) (C := RX11) (T := TX11) (n := 12) (ci := 10) (fs := [.null, .null, .null, .null, .null, .null, .null, .null, .int (zI 0), .int (zI 0), .int (zI 0), .int (zI 0)]) K rfl (by decide +kernel) tyX11 tyX11_ok (by decide +kernel) (by decide +kernel) (by decide +kernel) (by decide +kernel) (Nat.le_of_ble_eq_true rfl) (Nat.le_of_ble_eq_true rfl) dL_law_0 ?_
  refine x_dup (pc := 3) K rfl dL_law_3 ?_
  refine x_callI (pc := 4) (As := []) K (c_X11_init (E := E) (B := B) (cel_self (by omega))) lg_X11_init rfl (by decide +kernel) (by decide +kernel) (by decide +kernel) rfl (na := 0) (by decide +kernel) rfl ⟨(Nat.le_of_ble_eq_true rfl), (Nat.le_of_ble_eq_true rfl)⟩ (st := [.ref (B + 0)]) rfl (Nat.le_of_ble_eq_true rfl) ⟨(Nat.le_of_ble_eq_true rfl), (Nat.le_of_ble_eq_true rfl)⟩ dL_law_4 (fun r1 N1 v1 hpo1 hN1 => ?_)
  obtain ⟨rfl, hXI, rfl⟩ := hpo1
  refine x_astore_n (pc := 7) K (L' := [(1, .ref (B + 0)), (0, .ref b)]) hnL rfl (by decide) rfl dL_law_7 ?_
  refine x_new (pc := 8) (C := RX12) (T := TX12) (n := 26) (ci := 11) (fs := [.null, .null, .null, .int (zI 0), .null, .int (zI 0), .int (zI 0), .int (zI 0), .null, .int (zI 0), .null, .null, .null, .int (zI 0), .null, .int (zI 0), .int (zI 0), .int (zI 0), .long (zL 0), .int (zI 0), .null, .int (zI 0), .int (zI 0), .null, .null, .int (zI 0)]) K rfl (by decide +kernel) tyX12 tyX12_ok (by decide +kernel) (by decide +kernel) (by decide +kernel) (by decide +kernel) (Nat.le_of_ble_eq_true rfl) (Nat.le_of_ble_eq_true rfl) dL_law_8 ?_
  refine x_dup (pc := 11) K rfl dL_law_11 ?_
  refine x_callI (pc := 12) (As := []) K (c_X12_init (E := E) (B := B) (cel_self (by omega))) lg_X12_init rfl (by decide +kernel) (by decide +kernel) (by decide +kernel) rfl (na := 0) (by decide +kernel) rfl ⟨(Nat.le_of_ble_eq_true rfl), (Nat.le_of_ble_eq_true rfl)⟩ (st := [.ref (B + 161)]) rfl (Nat.le_of_ble_eq_true rfl) ⟨(Nat.le_of_ble_eq_true rfl), (Nat.le_of_ble_eq_true rfl)⟩ dL_law_12 (fun r2 N2 v2 hpo2 hN2 => ?_)
  obtain ⟨rfl, rfl, rfl⟩ := hpo2
  refine x_astore_n (pc := 15) K (L' := [(2, .ref (B + 161)), (1, .ref (B + 0)), (0, .ref b)]) hnL rfl (by decide) rfl dL_law_15 ?_
  refine x_iconst (pc := 16) K dL_law_16 ?_
  refine x_istore_n (pc := 17) K (L' := [(3, .int (zI 0)), (2, .ref (B + 161)), (1, .ref (B + 0)), (0, .ref b)]) hnL rfl (by decide) rfl dL_law_17 ?_
  refine x_widen (kc' := 200 + 28 * 0) (ks' := 8000 + 270 * 0) (Nat.le_of_ble_eq_true rfl) (Nat.le_of_ble_eq_true rfl) ?_
  refine law_loop K hnL hX hbB hLx hend 513 0 174 _ (by omega) (REL_init hXI (fun k hk => (by (repeat (first | rw [va_up_self] | rw [va_up_ne _ _ (by omega)])); all_goals rfl)) ⟨by omega, (by (repeat (first | rw [va_up_self] | rw [va_up_ne _ _ (by omega)])); all_goals rfl)⟩ ⟨by omega, (by (repeat (first | rw [va_up_self] | rw [va_up_ne _ _ (by omega)])); all_goals rfl)⟩ ⟨by omega, (by (repeat (first | rw [va_up_self] | rw [va_up_ne _ _ (by omega)])); all_goals rfl)⟩ ⟨by omega, (by (repeat (first | rw [va_up_self] | rw [va_up_ne _ _ (by omega)])); all_goals rfl)⟩ ⟨by omega, (by (repeat (first | rw [va_up_self] | rw [va_up_ne _ _ (by omega)])); all_goals rfl)⟩ ⟨by omega, (by (repeat (first | rw [va_up_self] | rw [va_up_ne _ _ (by omega)])); all_goals rfl)⟩ ⟨by omega, (by (repeat (first | rw [va_up_self] | rw [va_up_ne _ _ (by omega)])); all_goals rfl)⟩ ⟨by omega, (by (repeat (first | rw [va_up_self] | rw [va_up_ne _ _ (by omega)])); all_goals rfl)⟩ ⟨by omega, (by (repeat (first | rw [va_up_self] | rw [va_up_ne _ _ (by omega)])); all_goals rfl)⟩ ⟨by omega, (by (repeat (first | rw [va_up_self] | rw [va_up_ne _ _ (by omega)])); all_goals rfl)⟩ ⟨by omega, (by (repeat (first | rw [va_up_self] | rw [va_up_ne _ _ (by omega)])); all_goals rfl)⟩ ⟨by omega, (by (repeat (first | rw [va_up_self] | rw [va_up_ne _ _ (by omega)])); all_goals rfl)⟩ ⟨by omega, (by (repeat (first | rw [va_up_self] | rw [va_up_ne _ _ (by omega)])); all_goals rfl)⟩)
theorem whole_start {p : Program} {e : Env} {s : State} {m : MethodId} {below : List Frame} {meth : Method} {c : Code} (l : Launch) (hflags : l.flags = flags0) {b L : Nat} {xs : Nat → Int32} (hL : L ≤ 3072) (C0 : lw_At p s m meth c b L xs) : W p l e room_1 s m #[Value.ref b] below meth c s.heap [] 0 0 (lw_Z below #[Value.ref b] s) (entryFrame m ([Value.ref b] : List Value).toArray 4) := by
  obtain ⟨hx, hb, hr, hml, hown, hts, hX, hbl, hlocks, hgv⟩ := id C0
  obtain ⟨adK, adV, hG⟩ := law_gI hts hgv
  obtain ⟨D, ca, hKK⟩ := law_K hts
  have hl := lv_entry ([.ref b]) (n := 4) (Nat.le_of_ble_eq_true rfl)
  rw [lg_entry_eq]
  generalize (lg_sl ([.ref b]) ++ List.replicate (4 - (lg_sl ([.ref b])).length) Slot.unset).toArray = ls at hl ⊢
  have hl : lv_has ls 4 [(0, .ref b)] := hl
  have K : Cx (p, l, e, room_1, s, m, #[Value.ref b], below, meth, c, (D, ca, adK, adV), s.heap.size, lw_Z below #[Value.ref b] s, 4) (D, ca, adK, adV) s.heap.size cL_law RL lw_tbl room_1 := ⟨rfl, rfl, hx, hb, hown, hts, hKK, hml, ⟨Nat.le_refl _, hG D ca⟩, rfl⟩
  exact law_body (fun _ => .inr (0, [])) K rfl hX hbl hL (fun N v L kc ks h1 h2 => law_end K hx hb hr hlocks h1 h2) s.heap [] ls ⟨rfl, fun k hk => absurd hk (Nat.not_lt_zero k)⟩ va_S.rf hl
set_option maxHeartbeats 4000000 in
theorem lw_walk (l : Launch) (hflags : l.flags = flags0) (b : Addr) (xs : List Int32) : MetFree l x (headSpec (Jvm.Cond.code x code maxLocals ret :: tables_1) room_1) (lw_P b xs) (fun _ _ _ _ _ => True) lw_Q := by
  refine MetFree.of_bodyS (code := code) (maxLocals := maxLocals) (ret := ret) (by decide) ?_ ?_
  · intro args s m h hn
    obtain ⟨meth, c, h1, h2, h3, h4, h5, h6, -, -⟩ := Cond.code_spec hn (atoms_spec (ws := Jvm.Cond.code x code maxLocals ret :: tables_1) h _ List.mem_cons_self)
    exact ⟨meth, c, h1, h2, h3, h4, h5, h6⟩
  · intro p e s m args below meth c s₁ B hml0 hP _
    obtain ⟨rfl, hx, hbd, hgv⟩ := hP
    obtain ⟨scr, harrAt, hlist, hof, hsmall⟩ := hx
    obtain ⟨hcb, hkn, -, -⟩ := State.arrayAt?_spec harrAt
    have hown : s.vm.findClass R_law = some m.cls := findClass_of_methodNamed B.named
    have hts0 : ∀ c ∈ (Jvm.Cond.code x code maxLocals ret :: tables_1), c.before #[Value.ref b] s = true := atoms_spec (ws := Jvm.Cond.code x code maxLocals ret :: tables_1) B.pre
    have hts : ∀ w ∈ lw_tbl, w.before #[Value.ref b] s = true := k2_hts_sels lw_privs (fun w hw => hts0 w (List.mem_cons_of_mem _ hw)) lw_privs_ok
    have hml : c.maxLocals = 4 := B.maxLocals_eq (hts0 _ List.mem_cons_self)
    have X₀ : Stand p l e room_1 s m #[Value.ref b] below meth c s₁ [] 0 0 := Stand.of_body B
    have hh0 : s₁.heap = s.heap := by rw [B.state]; rfl
    have hsz : scr.slots.size = xs.length := by rw [← Array.length_toList, hlist, List.length_map]
    have hval : ∀ j : Nat, j < xs.length → scr.slots[j]? = some (.int (xs.getD j 0)) := fun j hj => by
      rw [← Array.getElem?_toList, hlist]
      simp [hj]
    have hbl : b < s.heap.size := (Array.getElem?_eq_some_iff.mp hcb).1
    have hX : va_X b xs.length (fun j => xs.getD j 0) s s.heap := ⟨scr, hcb, hof, hkn, hsz, hval⟩
    have K : W p l e room_1 s m #[Value.ref b] below meth c s₁.heap [] 0 0 (lw_Z below #[Value.ref b] s) (entryFrame m ([Value.ref b] : List Value).toArray 4) := by
      rw [hh0]
      exact whole_start l hflags hbd ⟨B.exec, B.bytes, B.returns, hml, hown, hts, hX, hbl, B.notSynchronized, hgv⟩
    obtain ⟨t, a1, o, b1, b2, b3⟩ := K s₁ rfl X₀
    exact ⟨t, o, a1, b1, b2, b3⟩
theorem lw_pre_spec {args : Array Value} {s : State} (h : (Jvm.Cond.and given_1 narrow_1).before args s = true) (hr : rest_1_c.before args s = true) : ∃ (b : Addr) (xs : List Int32), lw_P b xs args s := by
  have hs := flat_of_before _ h
  have hq := flat_of_before _ hr
  have hc : (Cond.count 1).before args s = true := hs _ (by decide +kernel)
  have harr : (Cond.arrayOf (.arg 0) .int).before args s = true := hs _ (by decide +kernel)
  have hle : (Cond.le (.length (.arg 0)) (.int 3072)).before args s = true := hs _ (by decide +kernel)
  have hlen : (Cond.isInt (.length (.arg 0))).before args s = true := hq _ (by decide +kernel)
  have hall : (Cond.all (.arg 0) (.isInt (.elem (.arg 0) (.index 0)))).before args s = true := hq _ (by decide +kernel)
  obtain ⟨b, xs, hb, hx⟩ := State.ints_of_pre rfl harr hlen hall
  have hsm : xs.length < 2 ^ 31 := hx.choose_spec.2.2.2
  have hev : (Term.length (.arg 0)).eval args s none [] s = some (.int xs.length.toInt32) := hx.length_eval hb
  have hv := Cond.le_ints hev (show (Term.int 3072).eval args s none [] s = some (.int 3072) from rfl)
  have hd : xs.length.toInt32 ≤ 3072 := by
    simpa [Cond.before, Cond.holds, hv] using hle
  have hN : xs.length ≤ 3072 := (Int32.ofNat_le_ofNat hsm (by decide)).mp (show Int32.ofNat xs.length ≤ Int32.ofNat 3072 from hd)
  exact ⟨b, xs, Cond.one_arg hc (show args[0]? = some (.ref b) from hb), hx, hN, h⟩
theorem lw_comes (l : Launch) (hflags : l.flags = flags0) : Comes l x (Jvm.Cond.code x code maxLocals ret :: tables_1) room_1 (fun tb e args s => Calls_1 tb e args s ∧ rest_1 tb e args s ∧ Pre_1 tb e args s)
    (fun _ _ args s o t => lw_Q args s o t) := by
  intro p e ha hc hk s m args below hf hfit hheap happ hpre
  obtain ⟨b, xs, hP⟩ := lw_pre_spec hpre.2.2 hpre.2.1
  obtain ⟨k, o, h1, h2, h3, hQ⟩ := lw_walk l hflags b xs p e ha hc hk s m args below hf ((Spec.applies_iff_loose hf).mp happ).1 hP trivial
  exact ⟨k, o, h1, h2, h3, hQ⟩
theorem lw_frame {s t : State} {o : Outcome} {args : Array Value} (h : Framed s o t [] 600000 7302250) :
    Framed s o t (fieldLocs frame_1_writes args s ++ arrayLocs frame_1_arrays args s ++ staticLocs frame_1_statics s) 600000 7302250 := h
theorem lw_limb (L : Cond) (hL : ∀ (args : Array Value) (s t : State), L.after args s (.returned (some (.int 1))) t = true) :
    ArmFor flags0 classFile x code maxLocals ret World_1 tables_1 room_1 Calls_1 rest_1 Pre_1
      (fun tb e a s o t => postC L tb e a s o t ∧ Framed s o t (fieldLocs frame_1_writes a s ++ arrayLocs frame_1_arrays a s ++ staticLocs frame_1_statics s) 600000 7302250) := by
  intro l hflags _ _ p e ha hc hk s m args below hf hfit hheap happ hpre
  obtain ⟨k, o, h1, h2, h3, rfl, hF⟩ := lw_comes l hflags p e ha hc hk s m args below hf hfit hheap happ hpre
  exact ⟨k, _, h1, h2, h3, hL args s _, lw_frame hF⟩
theorem i_vc : Claimed_1_1 ∧ Claimed_1_2 := ⟨lw_limb limb_1_1 (fun args s t => by simp [limb_1_1, Cond.after, Cond.holds, Cond.value]), lw_limb limb_1_2 (fun args s t => Cond.after_iff.mpr (by
  first | (rw [show limb_1_2 = Cond.eq .result (.int 1) from rfl, Cond.eq_ints (x := 1) (y := 1) rfl rfl]; simp; done) | (simp [limb_1_2, Cond.value, Term.eval]; done)))⟩

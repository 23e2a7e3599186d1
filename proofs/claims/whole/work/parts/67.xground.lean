theorem dX11_ground_0 : decode cX11_ground 0 = .ok (.aload_n 0, 1) := by decide +kernel
theorem dX11_ground_1 : decode cX11_ground 1 = .ok (.getfield 18, 3) := by decide +kernel
set_option maxRecDepth 20000 in
theorem ggX11_ground_X8_readGround : GoodIn wsX11_ground wsX8_readGround := goodIn_r _ [14, 15, 16, 17, 18, 19, 20, 21, 22, 23, 24, 25, 26, 27, 28, 29, 30, 31, 32, 33, 34, 35, 36, 37, 38, 39, 40, 41, 42, 43, 44, 45, 46, 47, 48, 49, 50, 51, 52, 53, 54, 13, 55, 56, 57, 58, 59, 60, 61, 62, 63, 64, 65, 66, 67, 68, 69, 70, 71, 72, 73, 74, 75, 76, 77, 78, 79, 80, 81, 82, 83, 84, 85, 86, 87, 88, 89, 90, 91, 92, 93, 94, 95, 96, 97, 98, 99, 100, 101, 102, 103, 104, 105, 106, 107, 108, 109, 110, 111, 112, 113, 114, 115, 116, 117, 118, 119, 120, 121, 122, 123, 124, 125, 126, 127, 128, 129, 130, 131, 132, 133, 134, 135, 136, 137, 138, 139, 140, 141, 142, 143, 144, 145, 146, 147, 148, 149, 150, 151, 152, 153, 154, 155, 156, 157, 158, 159, 160, 161, 162, 163, 164, 165, 166, 167, 168, 169, 170, 171, 172, 173, 174, 175, 176, 177, 178, 179, 180, 181, 182, 183, 184, 185, 186, 187, 188, 189, 190, 191, 192, 193, 194, 195, 196, 197, 198, 199, 200, 201, 202, 203, 204, 205, 206, 207, 208, 209, 210, 211, 212, 213, 214, 215, 216, 217, 218, 219, 220, 221, 222, 262, 263, 264, 265, 266, 267, 268, 269, 270, 271, 272, 253, 254, 255, 256, 257, 258, 259, 260, 261, 273, 274, 275, 276, 277, 278, 279, 280, 281, 282, 283, 284, 285, 286, 287, 288, 289, 290, 291, 292, 293, 294, 295, 296, 297] (by decide +kernel) (by decide +kernel)
set_option maxRecDepth 20000 in
theorem gX11_ground_X8_readGround : GoodIn wsX11_ground (wsV RX11 118 RX8 yX8_readGround wsX8_readGround) := goodIn_app (goodIn_of _ (by decide +kernel)) ggX11_ground_X8_readGround
theorem dX11_ground_4 : decode cX11_ground 4 = .ok (.invokevirtual 118, 3) := by decide +kernel
theorem dX11_ground_7 : decode cX11_ground 7 = .ok (.astore_n 1, 1) := by decide +kernel
theorem dX11_ground_8 : decode cX11_ground 8 = .ok (.aload_n 1, 1) := by decide +kernel
theorem dX11_ground_9 : decode cX11_ground 9 = .ok (.ifnonnull 25, 3) := by decide +kernel
theorem dX11_ground_34 : decode cX11_ground 34 = .ok (.aload_n 0, 1) := by decide +kernel
theorem dX11_ground_35 : decode cX11_ground 35 = .ok (.aload_n 1, 1) := by decide +kernel
theorem dX11_ground_36 : decode cX11_ground 36 = .ok (.putfield 49, 3) := by decide +kernel
theorem dX11_ground_39 : decode cX11_ground 39 = .ok (.aload_n 0, 1) := by decide +kernel
theorem dX11_ground_40 : decode cX11_ground 40 = .ok (.getfield 32, 3) := by decide +kernel
theorem dX11_ground_43 : decode cX11_ground 43 = .ok (.aload_n 1, 1) := by decide +kernel
set_option maxRecDepth 20000 in
theorem ggX11_ground_X4_begin : GoodIn wsX11_ground wsX4_begin := goodIn_r _ [226, 49, 227, 228, 229, 230, 231, 41, 232, 47, 233, 234, 235, 236, 237, 238, 239, 240, 50, 51, 273, 274, 275, 276, 277, 262, 263, 264, 265, 266, 267, 268, 269, 270, 271, 272] (by decide +kernel) (by decide +kernel)
set_option maxRecDepth 20000 in
theorem gX11_ground_X4_begin : GoodIn wsX11_ground (wsV RX11 129 RX4 yX4_begin wsX4_begin) := goodIn_app (goodIn_of _ (by decide +kernel)) ggX11_ground_X4_begin
theorem dX11_ground_44 : decode cX11_ground 44 = .ok (.invokevirtual 129, 3) := by decide +kernel
theorem dX11_ground_47 : decode cX11_ground 47 = .ok (.aload_n 0, 1) := by decide +kernel
theorem dX11_ground_48 : decode cX11_ground 48 = .ok (.iconst 0, 1) := by decide +kernel
theorem dX11_ground_49 : decode cX11_ground 49 = .ok (.putfield 57, 3) := by decide +kernel
theorem dX11_ground_52 : decode cX11_ground 52 = .ok (.aload_n 1, 1) := by decide +kernel
theorem dX11_ground_53 : decode cX11_ground 53 = .ok (.getfield 132, 3) := by decide +kernel
theorem dX11_ground_56 : decode cX11_ground 56 = .ok (.ireturn, 1) := by decide +kernel
theorem dX11_ground_12 : decode cX11_ground 12 = .ok (.aload_n 0, 1) := by decide +kernel
theorem dX11_ground_13 : decode cX11_ground 13 = .ok (.aload_n 0, 1) := by decide +kernel
theorem dX11_ground_14 : decode cX11_ground 14 = .ok (.getfield 18, 3) := by decide +kernel
theorem dX11_ground_17 : decode cX11_ground 17 = .ok (.getfield 122, 3) := by decide +kernel
theorem dX11_ground_20 : decode cX11_ground 20 = .ok (.putfield 60, 3) := by decide +kernel
theorem dX11_ground_23 : decode cX11_ground 23 = .ok (.ldc 125, 2) := by decide +kernel
theorem dX11_ground_25 : decode cX11_ground 25 = .ok (.aload_n 0, 1) := by decide +kernel
theorem dX11_ground_26 : decode cX11_ground 26 = .ok (.getfield 18, 3) := by decide +kernel
theorem dX11_ground_29 : decode cX11_ground 29 = .ok (.getfield 126, 3) := by decide +kernel
theorem dX11_ground_32 : decode cX11_ground 32 = .ok (.isub, 1) := by decide +kernel
theorem dX11_ground_33 : decode cX11_ground 33 = .ok (.ireturn, 1) := by decide +kernel
set_option maxRecDepth 100000 in
set_option maxHeartbeats 4000000 in
theorem c_X11_ground {E : XE} {B N : Nat} {v : Nat → va_E} {cu : Value} {old kept fau fin : Int} {n n7 : Nat} {f pl so s e vv : Int} {t tl g7 h7 s7 t7 : Nat → Int} (hc0 : Cel N v 0 (.inr (10, [.ref (B + 1), .ref (B + 2), .ref (B + 5), .ref (B + 7), .ref (B + 12), .ref (B + 13), .ref (B + 14), cu, .int (zI old), .int (zI kept), .int (zI fau), .int (zI fin)]))) (hc1 : Cel N v 2 (.inr (7, [.ref (B + 3), .ref (B + 4), .int (zI (n : Int)), .int (zI f), .int (zI pl), .int (zI so), .int (zI s), .int (zI e), .int (zI vv)]))) (hc2 : Cel N v 3 (iarr E 400 t)) (hc3 : Cel N v 4 (iarr E 4 tl)) (hc4 : Cel N v 7 (.inr (4, [.ref (B + 8), .ref (B + 9), .int (zI (n7 : Int)), .ref (B + 10), .ref (B + 11)]))) (hc5 : Cel N v 8 (iarr E 8 g7)) (hc6 : Cel N v 9 (barr E 8 h7)) (hc7 : Cel N v 10 (iarr E 8 s7)) (hc8 : Cel N v 11 (iarr E 8 t7)) (hq0 : n ≤ 400) (hq1 : ∀ i : Nat, 0 ≤ t i ∧ t i ≤ 255) (hq2 : 11 < N) (hq3 : ∀ k, k < 8 → 0 ≤ h7 k ∧ h7 k ≤ 1) : gM yX11_ground wsX11_ground ({ frames := 8, cells := 28, slots := 270, locals := 177 }) E B N v [.ref (B + 0)] (fun ρ N' v' => ∃ (res : Int), (N ≤ N') ∧ (∀ q, q < N → q ≠ 0 → q ≠ 2 → q ≠ 4 → q ≠ 7 → q ≠ 10 → q ≠ 11 → v' q = v q) ∧ ((∃ (r : Nat → Int) (so2 s2 e2 vv2 : Int) (tl2 s3 t3 : Nat → Int), pAll t n = .ok r ∧ rOk r ∧ res = r 4 ∧ GS E B N' v' N r ∧ Cel N' v' 0 (.inr (10, [.ref (B + 1), .ref (B + 2), .ref (B + 5), .ref (B + 7), .ref (B + 12), .ref (B + 13), .ref (B + 14), .ref (B + N), .int (zI old), .int (zI 0), .int (zI fau), .int (zI fin)])) ∧ Cel N' v' 2 (oT B 0 f pl so2 s2 e2 vv2) ∧ Cel N' v' 4 (iarr E 4 tl2) ∧ Cel N' v' 7 (.inr (4, [.ref (B + 8), .ref (B + 9), .int (zI 0), .ref (B + 10), .ref (B + 11)])) ∧ Cel N' v' 10 (iarr E 8 s3) ∧ Cel N' v' 11 (iarr E 8 t3) ∧ SR (r 0) (r 1) [] s3 t3) ∨ (∃ (f2 : Int) (p2 : Nat) (so2 s2 e2 vv2 : Int) (tl2 : Nat → Int), pAll t n = .error (f2, p2) ∧ res = -1000100 - (p2 : Int) ∧ Cel N' v' 0 (.inr (10, [.ref (B + 1), .ref (B + 2), .ref (B + 5), .ref (B + 7), .ref (B + 12), .ref (B + 13), .ref (B + 14), cu, .int (zI old), .int (zI kept), .int (zI f2), .int (zI fin)])) ∧ Cel N' v' 2 (oT B 0 f2 (p2 : Int) so2 s2 e2 vv2) ∧ Cel N' v' 4 (iarr E 4 tl2) ∧ v' 7 = v 7 ∧ v' 10 = v 10 ∧ v' 11 = v 11)) ∧ ρ = some (.int (zI res))) := by
  refine x_met (nm := "ground") (by decide +kernel) rfl (Nat.le_of_ble_eq_true rfl) rfl (fun Γ K KR hnL hnm => ?_)
  show XW Γ N v [(0, .ref (B + 0))] 0 0 0 []
  refine x_aload_n (pc := 0) 0 K rfl rfl dX11_ground_0 ?_
  refine x_get (pc := 1) (C := RX11) (T := TX11) (n := 12) (ci := 10) (idx := 18) (ref := "BorderBeds") (x := .ref (B + 2))  K hc0 rfl (by decide +kernel) 1 (by decide) (by decide +kernel) rfl rfl dX11_ground_1 ?_
  refine x_callV (pc := 4) (C := RX8) (T := TX8) (n := 9) (ci := 7) (As := []) K (c_X8_readGround (E := E) (B := B) (N := N) (n := n) (t := t) (f := f) (pl := pl)  hc1 hc2 hc3 (by omega) hq1 (by omega)) gX11_ground_X8_readGround rfl (na := 0) (by decide +kernel) rfl ⟨(Nat.le_of_ble_eq_true rfl), (Nat.le_of_ble_eq_true rfl)⟩ hc1 rfl (st := []) rfl (Nat.le_of_ble_eq_true rfl) ⟨(Nat.le_of_ble_eq_true rfl), (Nat.le_of_ble_eq_true rfl)⟩ dX11_ground_4 (fun r4 N4 w4 hpo4 hN4 => ?_)
  obtain ⟨hp4_0, hp4_1, hp4_2, -⟩ := hpo4
  rcases hp4_2 with ⟨r9, so9, s9, e9, vv9, tl9, hρ9, hA9, hr9, hG9, k2, k4⟩ | ⟨f9, p9, so9, s9, e9, vv9, tl9, hρ9, hE9, k2, k4⟩
  · skip
    subst hρ9
    have j0 := cel_fr hc0 hp4_0 (hp4_1 0 (by omega) (by decide) (by decide))
    have j7 := cel_fr hc4 hp4_0 (hp4_1 7 (by omega) (by decide) (by decide))
    have j8 := cel_fr hc5 hp4_0 (hp4_1 8 (by omega) (by decide) (by decide))
    have j9 := cel_fr hc6 hp4_0 (hp4_1 9 (by omega) (by decide) (by decide))
    have j10 := cel_fr hc7 hp4_0 (hp4_1 10 (by omega) (by decide) (by decide))
    have j11 := cel_fr hc8 hp4_0 (hp4_1 11 (by omega) (by decide) (by decide))
    have hG0 := hG9
    obtain ⟨G0, -, -, -, -, -, -, -, -⟩ := hG0
    have hw9 := hr9.1.1
    have he9 := hr9.1.2.1
    refine x_st (st' := [.ref (B + N)]) rfl ?_
    refine x_astore_n (pc := 7) K (L' := [(1, .ref (B + N)), (0, .ref (B + 0))]) hnL rfl (by decide) rfl dX11_ground_7 ?_
    refine x_aload_n (pc := 8) 0 K rfl rfl dX11_ground_8 ?_
    refine x_ifnonnull (pc := 9) (tgt := 34) K dX11_ground_9 (by decide) ?_
    refine x_aload_n (pc := 34) 1 K rfl rfl dX11_ground_34 ?_
    refine x_aload_n (pc := 35) 0 K rfl rfl dX11_ground_35 ?_
    refine x_put (pc := 36) (C := RX11) (T := TX11) (n := 12) (ci := 10) (idx := 49) (ref := "BorderBeds") (ty := .object "BorderBeds$Ground")  K j0 rfl (by decide +kernel) tyX11 tyX11_ok nmX11 7 (by decide) (by decide +kernel) rfl rfl (by decide +kernel) rfl rfl (Nat.le_of_ble_eq_true rfl) dX11_ground_36 ?_
    refine x_v (w := (va_up w4 0 (.inr (10, [.ref (B + 1), .ref (B + 2), .ref (B + 5), .ref (B + 7), .ref (B + 12), .ref (B + 13), .ref (B + 14), .ref (B + N), .int (zI old), .int (zI kept), .int (zI fau), .int (zI fin)])))) rfl ?_
    refine x_aload_n (pc := 39) 1 K rfl rfl dX11_ground_39 ?_
    refine x_get (pc := 40) (C := RX11) (T := TX11) (n := 12) (ci := 10) (idx := 32) (ref := "BorderBeds") (x := .ref (B + 7))  K (cel_self j0.1) rfl (by decide +kernel) 3 (by decide) (by decide +kernel) rfl rfl dX11_ground_40 ?_
    refine x_aload_n (pc := 43) 0 K rfl rfl dX11_ground_43 ?_
    refine x_callV (pc := 44) (C := RX4) (T := TX4) (n := 5) (ci := 4) (As := [.ref (B + N)]) K (c_X4_begin (E := E) (B := B) (N := N4)   (cel_ne j7 (by decide)) (cel_ne j8 (by decide)) (cel_ne j10 (by decide)) (cel_ne j11 (by decide)) (cel_ne G0 (by omega)) (cel_ne j9 (by decide)) (by omega) (by omega) hq3 (by omega)) gX11_ground_X4_begin rfl (na := 1) (by decide +kernel) rfl ⟨(Nat.le_of_ble_eq_true rfl), (Nat.le_of_ble_eq_true rfl)⟩ (cel_ne j7 (by decide)) rfl (st := []) rfl (Nat.le_of_ble_eq_true rfl) ⟨(Nat.le_of_ble_eq_true rfl), (Nat.le_of_ble_eq_true rfl)⟩ dX11_ground_44 (fun r44 N44 w44 hpo44 hN44 => ?_)
    obtain ⟨rfl, s2_44, t2_44, hp44_0, rfl, rfl⟩ := hpo44
    refine x_v (congrArg (fun w => (va_up (va_up w 10 (iarr E 8 s2_44)) 11 (iarr E 8 t2_44))) (show (va_up (va_up w4 0 (.inr (10, [.ref (B + 1), .ref (B + 2), .ref (B + 5), .ref (B + 7), .ref (B + 12), .ref (B + 13), .ref (B + 14), .ref (B + N), .int (zI old), .int (zI kept), .int (zI fau), .int (zI fin)]))) 7 (.inr (4, [.ref (B + 8), .ref (B + 9), .int (zI 0), .ref (B + 10), .ref (B + 11)]))) = _ from rfl)) ?_
    refine x_v (congrArg (fun w => (va_up w 11 (iarr E 8 t2_44))) (show (va_up (va_up (va_up w4 0 (.inr (10, [.ref (B + 1), .ref (B + 2), .ref (B + 5), .ref (B + 7), .ref (B + 12), .ref (B + 13), .ref (B + 14), .ref (B + N), .int (zI old), .int (zI kept), .int (zI fau), .int (zI fin)]))) 7 (.inr (4, [.ref (B + 8), .ref (B + 9), .int (zI 0), .ref (B + 10), .ref (B + 11)]))) 10 (iarr E 8 s2_44)) = _ from rfl)) ?_
    refine x_v (w := (va_up (va_up (va_up (va_up w4 0 (.inr (10, [.ref (B + 1), .ref (B + 2), .ref (B + 5), .ref (B + 7), .ref (B + 12), .ref (B + 13), .ref (B + 14), .ref (B + N), .int (zI old), .int (zI kept), .int (zI fau), .int (zI fin)]))) 7 (.inr (4, [.ref (B + 8), .ref (B + 9), .int (zI 0), .ref (B + 10), .ref (B + 11)]))) 10 (iarr E 8 s2_44)) 11 (iarr E 8 t2_44))) rfl ?_
    refine x_st (st' := []) rfl ?_
    refine x_aload_n (pc := 47) 1 K rfl rfl dX11_ground_47 ?_
    refine x_iconst (pc := 48) K dX11_ground_48 ?_
    refine x_put (pc := 49) (C := RX11) (T := TX11) (n := 12) (ci := 10) (idx := 57) (ref := "BorderBeds") (ty := .int)  K (cel_ne (cel_ne (cel_ne (cel_self j0.1) (by decide)) (by decide)) (by decide)) rfl (by decide +kernel) tyX11 tyX11_ok nmX11 9 (by decide) (by decide +kernel) rfl rfl (by decide +kernel) rfl rfl (Nat.le_of_ble_eq_true rfl) dX11_ground_49 ?_
    refine x_v (w := (va_up (va_up (va_up (va_up w4 0 (.inr (10, [.ref (B + 1), .ref (B + 2), .ref (B + 5), .ref (B + 7), .ref (B + 12), .ref (B + 13), .ref (B + 14), .ref (B + N), .int (zI old), .int (zI 0), .int (zI fau), .int (zI fin)]))) 7 (.inr (4, [.ref (B + 8), .ref (B + 9), .int (zI 0), .ref (B + 10), .ref (B + 11)]))) 10 (iarr E 8 s2_44)) 11 (iarr E 8 t2_44))) (up_at3 (by decide) (by decide) (by decide)).symm ?_
    refine x_aload_n (pc := 52) 0 K rfl rfl dX11_ground_52 ?_
    refine x_get (pc := 53) (C := RX3) (T := TX3) (n := 11) (ci := 3) (idx := 132) (ref := "BorderBeds$Ground") (x := .int (zI (r9 4)))  K (cel_ne (cel_ne (cel_ne (cel_ne G0 (by omega)) (by omega)) (by omega)) (by omega)) rfl (by decide +kernel) 7 (by decide) (by decide +kernel) rfl rfl dX11_ground_53 ?_
    refine x_iret (pc := 56) K KR (by omega) (Nat.le_of_ble_eq_true rfl) (Nat.le_of_ble_eq_true rfl) dX11_ground_56 ?_
    exact ⟨(r9 4), hp4_0, (fun q h1 h2 h3 h4 h5 h6 h7 => by rw [va_up_ne _ _ (by omega), va_up_ne _ _ (by omega), va_up_ne _ _ (by omega), va_up_ne _ _ (by omega)] <;> exact hp4_1 q h1 h3 h4), Or.inl ⟨r9, so9, s9, e9, vv9, tl9, s2_44, t2_44, hA9, hr9, rfl, GS_fr hG9 (by have := hr9.1.2.2.2.2.1; omega) (Nat.le_refl _) (fun k h1 h2 h3 => by rw [va_up_ne _ _ (by omega), va_up_ne _ _ (by omega), va_up_ne _ _ (by omega), va_up_ne _ _ (by omega)]), (cel_ne (cel_ne (cel_ne (cel_self j0.1) (by decide)) (by decide)) (by decide)), (cel_ne (cel_ne (cel_ne (cel_ne k2 (by decide)) (by decide)) (by decide)) (by decide)), (cel_ne (cel_ne (cel_ne (cel_ne k4 (by decide)) (by decide)) (by decide)) (by decide)), (cel_ne (cel_ne (cel_self j7.1) (by decide)) (by decide)), (cel_ne (cel_self j10.1) (by decide)), (cel_self j11.1), hp44_0⟩, rfl⟩
  · skip
    subst hρ9
    have j0 := cel_fr hc0 hp4_0 (hp4_1 0 (by omega) (by decide) (by decide))
    have j7 := cel_fr hc4 hp4_0 (hp4_1 7 (by omega) (by decide) (by decide))
    have j8 := cel_fr hc5 hp4_0 (hp4_1 8 (by omega) (by decide) (by decide))
    have j9 := cel_fr hc6 hp4_0 (hp4_1 9 (by omega) (by decide) (by decide))
    have j10 := cel_fr hc7 hp4_0 (hp4_1 10 (by omega) (by decide) (by decide))
    have j11 := cel_fr hc8 hp4_0 (hp4_1 11 (by omega) (by decide) (by decide))
    refine x_st (st' := [.null]) rfl ?_
    refine x_astore_nN (pc := 7) K (L' := [(1, .null), (0, .ref (B + 0))]) hnL rfl (by decide) rfl dX11_ground_7 ?_
    refine x_aload_nN (pc := 8) 0 K rfl rfl dX11_ground_8 ?_
    refine x_ifnonnullN (pc := 9) K dX11_ground_9 ?_
    refine x_aload_n (pc := 12) 1 K rfl rfl dX11_ground_12 ?_
    refine x_aload_n (pc := 13) 1 K rfl rfl dX11_ground_13 ?_
    refine x_get (pc := 14) (C := RX11) (T := TX11) (n := 12) (ci := 10) (idx := 18) (ref := "BorderBeds") (x := .ref (B + 2))  K j0 rfl (by decide +kernel) 1 (by decide) (by decide +kernel) rfl rfl dX11_ground_14 ?_
    refine x_get (pc := 17) (C := RX8) (T := TX8) (n := 9) (ci := 7) (idx := 122) (ref := "BorderBeds$Tape") (x := .int (zI f9))  K k2 rfl (by decide +kernel) 3 (by decide) (by decide +kernel) rfl rfl dX11_ground_17 ?_
    refine x_put (pc := 20) (C := RX11) (T := TX11) (n := 12) (ci := 10) (idx := 60) (ref := "BorderBeds") (ty := .int)  K j0 rfl (by decide +kernel) tyX11 tyX11_ok nmX11 10 (by decide) (by decide +kernel) rfl rfl (by decide +kernel) rfl rfl (Nat.le_of_ble_eq_true rfl) dX11_ground_20 ?_
    refine x_v (w := (va_up w4 0 (.inr (10, [.ref (B + 1), .ref (B + 2), .ref (B + 5), .ref (B + 7), .ref (B + 12), .ref (B + 13), .ref (B + 14), cu, .int (zI old), .int (zI kept), .int (zI f9), .int (zI fin)])))) rfl ?_
    refine x_ldc (pc := 23) (x := (-1000100)) (-1000100) K (by decide) (by decide +kernel) dX11_ground_23 ?_
    refine x_aload_n (pc := 25) 1 K rfl rfl dX11_ground_25 ?_
    refine x_get (pc := 26) (C := RX11) (T := TX11) (n := 12) (ci := 10) (idx := 18) (ref := "BorderBeds") (x := .ref (B + 2))  K (cel_self j0.1) rfl (by decide +kernel) 1 (by decide) (by decide +kernel) rfl rfl dX11_ground_26 ?_
    refine x_get (pc := 29) (C := RX8) (T := TX8) (n := 9) (ci := 7) (idx := 126) (ref := "BorderBeds$Tape") (x := .int (zI (p9 : Int)))  K (cel_ne k2 (by decide)) rfl (by decide +kernel) 4 (by decide) (by decide +kernel) rfl rfl dX11_ground_29 ?_
    refine x_isub (pc := 32) K dX11_ground_32 ?_
    refine x_iret (pc := 33) K KR (by omega) (Nat.le_of_ble_eq_true rfl) (Nat.le_of_ble_eq_true rfl) dX11_ground_33 ?_
    exact ⟨_, hp4_0, (fun q h1 h2 h3 h4 h5 h6 h7 => by rw [va_up_ne _ _ (by omega)] <;> exact hp4_1 q h1 h3 h4), Or.inr ⟨f9, p9, so9, s9, e9, vv9, tl9, hE9, rfl, (cel_self j0.1), (cel_ne k2 (by decide)), (cel_ne k4 (by decide)), (by rw [va_up_ne _ _ (by omega)]; exact hp4_1 7 (by omega) (by decide) (by decide)), (by rw [va_up_ne _ _ (by omega)]; exact hp4_1 10 (by omega) (by decide) (by decide)), (by rw [va_up_ne _ _ (by omega)]; exact hp4_1 11 (by omega) (by decide) (by decide))⟩, rfl⟩

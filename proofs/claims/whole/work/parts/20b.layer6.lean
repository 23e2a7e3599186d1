section
variable {Γ : XT} {E : XE} {B : Nat} {cc : ByteArray} {own : String} {Ts : List Cond} {rm : Room} {N : Nat} {v : Nat → va_E} {L : List (Nat × Value)} {kc ks pc : Nat} {st : List Value}
theorem x_alen_iarr {c n : Nat} {g : Nat → Int} {z : Int} (K : Cx Γ E B cc own Ts rm) (hv : Cel N v c (iarr E n g)) (hz : Int32.ofNat n = zI z) (hd : decode cc pc = .ok (.arraylength, 1)) (k : XW Γ N v L kc ks (pc + 1) (.int (zI z) :: st)) : XW Γ N v L kc ks pc (.ref (B + c) :: st) := by
  obtain ⟨p, l, e, R, s, m, args, below, meth, c0, E', B', Q, nL⟩ := Γ
  obtain ⟨rfl, rfl, hx, hb, hown, hts, hK, hml, hA, rfl⟩ := K
  intro H locs ls hP hS hl
  have h0 := hP.2 c hv.1
  rw [hv.2] at h0
  refine va_alen (ws := [(B' + c, iarr E' n g)]) (tys := xT E'.2.1) hx hb hK (fun k q hq => ?_) 0 0 rfl rfl hz hd ?_
  · match k, hq with
    | 0, hq => cases hq; exact h0
    | k + 1, hq => simp at hq
  · exact k H locs ls hP hS hl
end

set_option maxRecDepth 100000
theorem L_start {xs : Nat → Int32} {L : Nat} : jr_ev (pL xs L) 0 [.ref 1000, .null, .null, .null] [] jl_e = jr_ev (pL xs L) 18 [.ref 1000, .ref 0, .ref 62, .int (nI 0)] [] jl_d := by
  have hb := jl_fact.1.1
  have hd := jl_fact.1.2.1
  have s0 : jr_ev (pL xs L) 0 [.ref 1000, .null, .null, .null] [] jl_e = jr_ev (pL xs L) 3 [.ref 1000, .null, .null, .null] [.ref 0] jl_a := jr_step rfl
  have s1 : jr_ev (pL xs L) 3 [.ref 1000, .null, .null, .null] [.ref 0] jl_a = jr_ev (pL xs L) 4 [.ref 1000, .null, .null, .null] [.ref 0, .ref 0] jl_a := je_dupr rfl
  have s2 : jr_ev (pL xs L) 4 [.ref 1000, .null, .null, .null] [.ref 0, .ref 0] jl_a = jr_ev (pL xs L) 7 [.ref 1000, .null, .null, .null] [.ref 0] jl_b := jr_step (by
    rw [show pL xs L 4 = jo_ci 1 xX4_init 7 from rfl]
    show (if 1 ≤ 2 then jo_aft jl_ob _ [.ref 0] jl_a 7 else none) = _
    rw [if_pos (by omega), jl_bx]
    show (if _ then _ else none) = _
    rw [if_pos ⟨by show 1 ≤ 4; omega, by omega, ⟨by rw [jl_le1.1, hb]; omega, jl_le1.2⟩, Or.inr (by rw [jl_le1.1]; rfl)⟩]
    rfl)
  have s3 : jr_ev (pL xs L) 7 [.ref 1000, .null, .null, .null] [.ref 0] jl_b = jr_ev (pL xs L) 8 [.ref 1000, .ref 0, .null, .null] [] jl_b := je_rst rfl (by show 1 < 4; omega) rfl
  have s4 : jr_ev (pL xs L) 8 [.ref 1000, .ref 0, .null, .null] [] jl_b = jr_ev (pL xs L) 11 [.ref 1000, .ref 0, .null, .null] [.ref 62] jl_c := jr_step (by
    rw [show pL xs L 8 = jo_new 5 11 from rfl]
    unfold jo_new
    rw [hb, if_pos ⟨by omega, rfl⟩]
    rfl)
  have s5 : jr_ev (pL xs L) 11 [.ref 1000, .ref 0, .null, .null] [.ref 62] jl_c = jr_ev (pL xs L) 12 [.ref 1000, .ref 0, .null, .null] [.ref 62, .ref 62] jl_c := je_dupr rfl
  have s6 : jr_ev (pL xs L) 12 [.ref 1000, .ref 0, .null, .null] [.ref 62, .ref 62] jl_c = jr_ev (pL xs L) 15 [.ref 1000, .ref 0, .null, .null] [.ref 62] jl_d := jr_step (by
    rw [show pL xs L 12 = jo_ci 1 xX5_init 15 from rfl]
    show (if 1 ≤ 2 then jo_aft jl_od _ [.ref 62] jl_c 15 else none) = _
    rw [if_pos (by omega), jl_dx]
    show (if _ then _ else none) = _
    rw [if_pos ⟨by show 1 ≤ 4; omega, by omega, ⟨by rw [jl_le2.1, hd]; omega, jl_le2.2⟩, Or.inr (by rw [jl_le2.1]; rfl)⟩]
    rfl)
  have s7 : jr_ev (pL xs L) 15 [.ref 1000, .ref 0, .null, .null] [.ref 62] jl_d = jr_ev (pL xs L) 16 [.ref 1000, .ref 0, .ref 62, .null] [] jl_d := je_rst rfl (by show 2 < 4; omega) rfl
  have s8 : jr_ev (pL xs L) 16 [.ref 1000, .ref 0, .ref 62, .null] [] jl_d = jr_ev (pL xs L) 17 [.ref 1000, .ref 0, .ref 62, .null] [.int (nI 0)] jl_d := je_k rfl
  have s9 : jr_ev (pL xs L) 17 [.ref 1000, .ref 0, .ref 62, .null] [.int (nI 0)] jl_d = jr_ev (pL xs L) 18 [.ref 1000, .ref 0, .ref 62, .int (nI 0)] [] jl_d := je_ist rfl (by show 3 < 4; omega) rfl
  rw [s0, s1, s2, s3, s4, s5, s6, s7, s8, s9]
theorem L_all {xs : Nat → Int32} {L : Nat} (hL : L ≤ 2560) : ∃ mem lm, jr_ev (pL xs L) 0 [.ref 1000, .null, .null, .null] [] jl_e = some (some (.int (nI 1)), jl_w mem lm) := by
  obtain ⟨m, l, e⟩ := L_loop (xs := xs) hL L 0 jl_d.2.2.1 jl_d.2.2.2 (by omega) (by omega) jl_J0
  refine ⟨m, l, ?_⟩
  rw [L_start, jl_dw]
  exact e

set_option maxRecDepth 100000
theorem je_cig {P : Nat → jo_P} {pc n k : Nat} {f : List Value → jw_W → Option jo_R} {ls : List Value} {w w' : jw_W} (hp : P pc = jo_ci 1 f n) (h : f [.ref k] w = some (none, w')) (h1 : w'.1.1 ≤ 1000) (h2 : w.1.1 ≤ w'.1.1 ∧ w.1.2 ≤ w'.1.2) (h3 : (ls ++ [Value.ref k]).all (jw_ok w.1.1) = true) : jr_ev P pc ls [.ref k, .ref k] w = jr_ev P n ls [.ref k] w' := jr_step (by
  rw [hp]
  show (if 1 ≤ 2 then jo_aft (f [.ref k] w) ls [.ref k] w n else none) = _
  rw [if_pos (by omega), h]
  show (if _ then _ else none) = _
  rw [if_pos ⟨by show 1 ≤ 4; omega, h1, h2, Or.inr h3⟩]
  rfl)
theorem je_newg {P : Nat → jo_P} {pc n ci k : Nat} {ls st : List Value} {w : jw_W} (hp : P pc = jo_new ci n) (hk : w.1.1 = k) (h1 : k < 1000) (h2 : (ls ++ st).all (jw_ok k) = true) : jr_ev P pc ls st w = jr_ev P n ls (.ref k :: st) (jw_nw w (ci + 3) 0 (jw_nf ci)) := jr_step (by
  subst hk
  rw [hp]
  unfold jo_new
  rw [if_pos ⟨h1, h2⟩])
theorem jl_bx' : xX4_init [.ref 0] jl_a = some (none, jl_b) := by
  have e : jl_ob = xX4_init [.ref 0] jl_a := by rw [jl_ob]
  rw [← e, jl_bx]
theorem jl_dx' : xX5_init [.ref 62] jl_c = some (none, jl_d) := by
  have e : jl_od = xX5_init [.ref 62] jl_c := by rw [jl_od]
  rw [← e, jl_dx]
theorem L_s0 {xs : Nat → Int32} {L : Nat} : jr_ev (pL xs L) 0 [.ref 1000, .null, .null, .null] [] jl_e = jr_ev (pL xs L) 3 [.ref 1000, .null, .null, .null] [.ref 0] jl_a := je_newg (k := 0) (ci := 4) rfl rfl (by omega) rfl
theorem L_s4 {xs : Nat → Int32} {L : Nat} : jr_ev (pL xs L) 8 [.ref 1000, .ref 0, .null, .null] [] jl_b = jr_ev (pL xs L) 11 [.ref 1000, .ref 0, .null, .null] [.ref 62] jl_c := je_newg (k := 62) (ci := 5) rfl jl_fact.1.1 (by omega) rfl
theorem L_s2 {xs : Nat → Int32} {L : Nat} : jr_ev (pL xs L) 4 [.ref 1000, .null, .null, .null] [.ref 0, .ref 0] jl_a = jr_ev (pL xs L) 7 [.ref 1000, .null, .null, .null] [.ref 0] jl_b := je_cig rfl jl_bx' (by rw [jl_fact.1.1]; omega) ⟨by rw [jl_le1.1, jl_fact.1.1]; omega, jl_le1.2⟩ (by rw [jl_le1.1]; rfl)
theorem L_s6 {xs : Nat → Int32} {L : Nat} : jr_ev (pL xs L) 12 [.ref 1000, .ref 0, .null, .null] [.ref 62, .ref 62] jl_c = jr_ev (pL xs L) 15 [.ref 1000, .ref 0, .null, .null] [.ref 62] jl_d := je_cig rfl jl_dx' (by rw [jl_fact.1.2.1]; omega) ⟨by rw [jl_le2.1, jl_fact.1.2.1]; omega, jl_le2.2⟩ (by rw [jl_le2.1]; rfl)
theorem L_mid {xs : Nat → Int32} {L : Nat} {w : jw_W} : jr_ev (pL xs L) 7 [.ref 1000, .null, .null, .null] [.ref 0] w = jr_ev (pL xs L) 8 [.ref 1000, .ref 0, .null, .null] [] w := je_rst rfl (by show 1 < 4; omega) rfl
theorem L_end {xs : Nat → Int32} {L : Nat} {w : jw_W} : jr_ev (pL xs L) 15 [.ref 1000, .ref 0, .null, .null] [.ref 62] w = jr_ev (pL xs L) 18 [.ref 1000, .ref 0, .ref 62, .int (nI 0)] [] w :=
  (je_rst (P := pL xs L) (n := 16) (ls' := [.ref 1000, .ref 0, .ref 62, .null]) rfl (by show 2 < 4; omega) rfl).trans ((je_k (P := pL xs L) (n := 17) (v := .int (nI 0)) rfl).trans (je_ist rfl (by show 3 < 4; omega) rfl))
theorem L_start {xs : Nat → Int32} {L : Nat} : jr_ev (pL xs L) 0 [.ref 1000, .null, .null, .null] [] jl_e = jr_ev (pL xs L) 18 [.ref 1000, .ref 0, .ref 62, .int (nI 0)] [] jl_d :=
  L_s0.trans ((je_dupr (P := pL xs L) (n := 4) rfl).trans (L_s2.trans (L_mid.trans (L_s4.trans ((je_dupr (P := pL xs L) (n := 12) rfl).trans (L_s6.trans L_end))))))
theorem L_all {xs : Nat → Int32} {L : Nat} (hL : L ≤ 2560) : ∃ mem lm, jr_ev (pL xs L) 0 [.ref 1000, .null, .null, .null] [] jl_e = some (some (.int (nI 1)), jl_w mem lm) := by
  obtain ⟨m, l, e⟩ := L_loop (xs := xs) hL L 0 jl_d.2.2.1 jl_d.2.2.2 (by omega) (by omega) jl_J0
  refine ⟨m, l, ?_⟩
  have h := L_start (xs := xs) (L := L)
  rw [h]
  refine Eq.trans ?_ e
  exact congrArg (jr_ev (pL xs L) 18 [.ref 1000, .ref 0, .ref 62, .int (nI 0)] []) jl_dw

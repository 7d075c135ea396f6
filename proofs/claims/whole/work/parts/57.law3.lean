set_option maxRecDepth 100000
section LL
variable {xs : Nat → Int32} {L : Nat}
theorem L_step {i : Nat} {mem : jl_M} {lm : jl_L} (hi : i + 4 < L) (hL : L < 2 ^ 31) (hJ : jJ mem lm) : ∃ mem2 lm2, jr_ev (pL xs L) 26 [.ref 1000, .ref 0, .ref 62, .int (nI i)] [] (jl_w mem lm) = jr_ev (pL xs L) 767 [.ref 1000, .ref 0, .ref 62, .int (nI i)] [] (jl_w mem2 lm2) ∧ jJ mem2 lm2 := by
  have h0 : i < L := by omega
  simp (disch := assumption) only [eL_26, eL_27, eL_28, eL_29, eL_31, eL_32]
  generalize xs i &&& nI 31 = z
  rcases jq_rng z (a := 0) (b := 23) (by omega) (by omega) with ⟨v, _, hv, rfl⟩ | hz
  · have key : ∃ mem2 lm2, jr_ev (pL xs L) (if (nI v).toInt < 0 then 767 else (([144, 167, 180, 193, 226, 249, 272, 305, 318, 351, 374, 387, 420, 453, 496, 549, 592, 605, 628, 651, 684, 707, 730, 753] : List Nat)[((nI v).toInt - 0).toNat]?).getD 767) [.ref 1000, .ref 0, .ref 62, .int (nI i)] [] (jl_w mem lm) = jr_ev (pL xs L) 767 [.ref 1000, .ref 0, .ref 62, .int (nI i)] [] (jl_w mem2 lm2) ∧ jJ mem2 lm2 := by
      match v, hv with
      | 0, _ => rw [show (if (nI 0).toInt < 0 then 767 else (([144, 167, 180, 193, 226, 249, 272, 305, 318, 351, 374, 387, 420, 453, 496, 549, 592, 605, 628, 651, 684, 707, 730, 753] : List Nat)[((nI 0).toInt - 0).toNat]?).getD 767) = 144 from by decide +kernel]; exact L_type hi hL hJ
      | 1, _ => rw [show (if (nI 1).toInt < 0 then 767 else (([144, 167, 180, 193, 226, 249, 272, 305, 318, 351, 374, 387, 420, 453, 496, 549, 592, 605, 628, 651, 684, 707, 730, 753] : List Nat)[((nI 1).toInt - 0).toNat]?).getD 767) = 167 from by decide +kernel]; exact L_clear hi hL hJ
      | 2, _ => rw [show (if (nI 2).toInt < 0 then 767 else (([144, 167, 180, 193, 226, 249, 272, 305, 318, 351, 374, 387, 420, 453, 496, 549, 592, 605, 628, 651, 684, 707, 730, 753] : List Nat)[((nI 2).toInt - 0).toNat]?).getD 767) = 180 from by decide +kernel]; exact L_chime hi hL hJ
      | 3, _ => rw [show (if (nI 3).toInt < 0 then 767 else (([144, 167, 180, 193, 226, 249, 272, 305, 318, 351, 374, 387, 420, 453, 496, 549, 592, 605, 628, 651, 684, 707, 730, 753] : List Nat)[((nI 3).toInt - 0).toNat]?).getD 767) = 193 from by decide +kernel]; exact L_rod hi hL hJ
      | 4, _ => rw [show (if (nI 4).toInt < 0 then 767 else (([144, 167, 180, 193, 226, 249, 272, 305, 318, 351, 374, 387, 420, 453, 496, 549, 592, 605, 628, 651, 684, 707, 730, 753] : List Nat)[((nI 4).toInt - 0).toNat]?).getD 767) = 226 from by decide +kernel]; exact L_side hi hL hJ
      | 5, _ => rw [show (if (nI 5).toInt < 0 then 767 else (([144, 167, 180, 193, 226, 249, 272, 305, 318, 351, 374, 387, 420, 453, 496, 549, 592, 605, 628, 651, 684, 707, 730, 753] : List Nat)[((nI 5).toInt - 0).toNat]?).getD 767) = 249 from by decide +kernel]; exact L_now hi hL hJ
      | 6, _ => rw [show (if (nI 6).toInt < 0 then 767 else (([144, 167, 180, 193, 226, 249, 272, 305, 318, 351, 374, 387, 420, 453, 496, 549, 592, 605, 628, 651, 684, 707, 730, 753] : List Nat)[((nI 6).toInt - 0).toNat]?).getD 767) = 272 from by decide +kernel]; exact L_blows hi hL hJ
      | 7, _ => rw [show (if (nI 7).toInt < 0 then 767 else (([144, 167, 180, 193, 226, 249, 272, 305, 318, 351, 374, 387, 420, 453, 496, 549, 592, 605, 628, 651, 684, 707, 730, 753] : List Nat)[((nI 7).toInt - 0).toNat]?).getD 767) = 305 from by decide +kernel]; exact L_calms hi hL hJ
      | 8, _ => rw [show (if (nI 8).toInt < 0 then 767 else (([144, 167, 180, 193, 226, 249, 272, 305, 318, 351, 374, 387, 420, 453, 496, 549, 592, 605, 628, 651, 684, 707, 730, 753] : List Nat)[((nI 8).toInt - 0).toNat]?).getD 767) = 318 from by decide +kernel]; exact L_changes hi hL hJ
      | 9, _ => rw [show (if (nI 9).toInt < 0 then 767 else (([144, 167, 180, 193, 226, 249, 272, 305, 318, 351, 374, 387, 420, 453, 496, 549, 592, 605, 628, 651, 684, 707, 730, 753] : List Nat)[((nI 9).toInt - 0).toNat]?).getD 767) = 351 from by decide +kernel]; exact L_holds hi hL hJ
      | 10, _ => rw [show (if (nI 10).toInt < 0 then 767 else (([144, 167, 180, 193, 226, 249, 272, 305, 318, 351, 374, 387, 420, 453, 496, 549, 592, 605, 628, 651, 684, 707, 730, 753] : List Nat)[((nI 10).toInt - 0).toNat]?).getD 767) = 374 from by decide +kernel]; exact L_undo hi hL hJ
      | 11, _ => rw [show (if (nI 11).toInt < 0 then 767 else (([144, 167, 180, 193, 226, 249, 272, 305, 318, 351, 374, 387, 420, 453, 496, 549, 592, 605, 628, 651, 684, 707, 730, 753] : List Nat)[((nI 11).toInt - 0).toNat]?).getD 767) = 387 from by decide +kernel]; exact L_comes hi hL hJ
      | 12, _ => rw [show (if (nI 12).toInt < 0 then 767 else (([144, 167, 180, 193, 226, 249, 272, 305, 318, 351, 374, 387, 420, 453, 496, 549, 592, 605, 628, 651, 684, 707, 730, 753] : List Nat)[((nI 12).toInt - 0).toNat]?).getD 767) = 420 from by decide +kernel]; exact L_best hi hL hJ
      | 13, _ => rw [show (if (nI 13).toInt < 0 then 767 else (([144, 167, 180, 193, 226, 249, 272, 305, 318, 351, 374, 387, 420, 453, 496, 549, 592, 605, 628, 651, 684, 707, 730, 753] : List Nat)[((nI 13).toInt - 0).toNat]?).getD 767) = 453 from by decide +kernel]; exact L_swap hi hL hJ
      | 14, _ => rw [show (if (nI 14).toInt < 0 then 767 else (([144, 167, 180, 193, 226, 249, 272, 305, 318, 351, 374, 387, 420, 453, 496, 549, 592, 605, 628, 651, 684, 707, 730, 753] : List Nat)[((nI 14).toInt - 0).toNat]?).getD 767) = 496 from by decide +kernel]; exact L_odds hi hL hJ
      | 15, _ => rw [show (if (nI 15).toInt < 0 then 767 else (([144, 167, 180, 193, 226, 249, 272, 305, 318, 351, 374, 387, 420, 453, 496, 549, 592, 605, 628, 651, 684, 707, 730, 753] : List Nat)[((nI 15).toInt - 0).toNat]?).getD 767) = 549 from by decide +kernel]; exact L_hears hi hL hJ
      | 16, _ => rw [show (if (nI 16).toInt < 0 then 767 else (([144, 167, 180, 193, 226, 249, 272, 305, 318, 351, 374, 387, 420, 453, 496, 549, 592, 605, 628, 651, 684, 707, 730, 753] : List Nat)[((nI 16).toInt - 0).toNat]?).getD 767) = 592 from by decide +kernel]; exact L_forget hi hL hJ
      | 17, _ => rw [show (if (nI 17).toInt < 0 then 767 else (([144, 167, 180, 193, 226, 249, 272, 305, 318, 351, 374, 387, 420, 453, 496, 549, 592, 605, 628, 651, 684, 707, 730, 753] : List Nat)[((nI 17).toInt - 0).toNat]?).getD 767) = 605 from by decide +kernel]; exact L_gusts hi hL hJ
      | 18, _ => rw [show (if (nI 18).toInt < 0 then 767 else (([144, 167, 180, 193, 226, 249, 272, 305, 318, 351, 374, 387, 420, 453, 496, 549, 592, 605, 628, 651, 684, 707, 730, 753] : List Nat)[((nI 18).toInt - 0).toNat]?).getD 767) = 628 from by decide +kernel]; exact L_listen hi hL hJ
      | 19, _ => rw [show (if (nI 19).toInt < 0 then 767 else (([144, 167, 180, 193, 226, 249, 272, 305, 318, 351, 374, 387, 420, 453, 496, 549, 592, 605, 628, 651, 684, 707, 730, 753] : List Nat)[((nI 19).toInt - 0).toNat]?).getD 767) = 651 from by decide +kernel]; exact L_rate hi hL hJ
      | 20, _ => rw [show (if (nI 20).toInt < 0 then 767 else (([144, 167, 180, 193, 226, 249, 272, 305, 318, 351, 374, 387, 420, 453, 496, 549, 592, 605, 628, 651, 684, 707, 730, 753] : List Nat)[((nI 20).toInt - 0).toNat]?).getD 767) = 684 from by decide +kernel]; exact L_keep hi hL hJ
      | 21, _ => rw [show (if (nI 21).toInt < 0 then 767 else (([144, 167, 180, 193, 226, 249, 272, 305, 318, 351, 374, 387, 420, 453, 496, 549, 592, 605, 628, 651, 684, 707, 730, 753] : List Nat)[((nI 21).toInt - 0).toNat]?).getD 767) = 707 from by decide +kernel]; exact L_back hi hL hJ
      | 22, _ => rw [show (if (nI 22).toInt < 0 then 767 else (([144, 167, 180, 193, 226, 249, 272, 305, 318, 351, 374, 387, 420, 453, 496, 549, 592, 605, 628, 651, 684, 707, 730, 753] : List Nat)[((nI 22).toInt - 0).toNat]?).getD 767) = 730 from by decide +kernel]; exact L_count hi hL hJ
      | 23, _ => rw [show (if (nI 23).toInt < 0 then 767 else (([144, 167, 180, 193, 226, 249, 272, 305, 318, 351, 374, 387, 420, 453, 496, 549, 592, 605, 628, 651, 684, 707, 730, 753] : List Nat)[((nI 23).toInt - 0).toNat]?).getD 767) = 753 from by decide +kernel]; exact L_trace hi hL hJ
    exact key
  · rw [jq_tsn 23 rfl (by decide) hz]
    exact ⟨mem, lm, rfl, hJ⟩
theorem L_loop (hL : L ≤ 2560) : ∀ k i (mem : jl_M) (lm : jl_L), L ≤ i + 5 * k → i ≤ L + 5 → jJ mem lm → ∃ mem2 lm2, jr_ev (pL xs L) 18 [.ref 1000, .ref 0, .ref 62, .int (nI i)] [] (jl_w mem lm) = some (some (.int (nI 1)), jl_w mem2 lm2) := by
  have fin : ∀ i (mem : jl_M) (lm : jl_L), L < i + 5 → i ≤ L + 5 → jr_ev (pL xs L) 18 [.ref 1000, .ref 0, .ref 62, .int (nI i)] [] (jl_w mem lm) = some (some (.int (nI 1)), jl_w mem lm) := by
    intro i mem lm h1 h2
    have hc : nI L - nI 5 < nI i := by
      rcases Nat.lt_or_ge L 5 with h | h
      · have d : ∀ L, L < 5 → nI L - nI 5 < 0 := by decide +kernel
        exact Int32.lt_of_lt_of_le (d L h) (nI_pos' (by omega))
      · rw [pk_sub h]
        exact (nI_ltI (by omega) (by omega)).mpr (by omega)
    simp only [eL_18, eL_19, eL_20, eL_21, eL_22, eL_23, hc, if_true, eL_773, eL_774]
  intro k
  induction k with
  | zero =>
    intro i mem lm h1 h2 hJ
    exact ⟨mem, lm, fin i mem lm (by omega) h2⟩
  | succ k ih =>
    intro i mem lm h1 h2 hJ
    rcases Nat.lt_or_ge L (i + 5) with h | h
    · exact ⟨mem, lm, fin i mem lm h h2⟩
    · have hc : ¬ nI L - nI 5 < nI i := by
        rw [pk_sub (by omega)]
        exact fun q => absurd ((nI_ltI (by omega) (by omega)).mp q) (by omega)
      obtain ⟨m1, l1, e1, J1⟩ := L_step (xs := xs) (i := i) (by omega) (by omega) hJ
      obtain ⟨m2, l2, e2⟩ := ih (i + 5) m1 l1 (by omega) (by omega) J1
      refine ⟨m2, l2, ?_⟩
      simp only [eL_18, eL_19, eL_20, eL_21, eL_22, eL_23, hc, if_false]
      rw [e1]
      simp only [eL_767, nI_add]
      rw [eL_770, e2]
end LL
/-! ===== the start ===== -/
theorem jl_dw : jl_d = jl_w jl_d.2.2.1 jl_d.2.2.2 := by
  unfold jl_w
  rw [jl_o1, jl_o2]
theorem jl_dz {k j : Nat} (hk : k < 76) (hj : j < if jl_n k = 0 then 30 else jl_n k) : jl_d.2.2.1 k j = jl_m0 k j := by
  have h1 := List.all_eq_true.mp jl_fact.2.2 k (List.mem_range.mpr hk)
  simp only [jl_q, Bool.and_eq_true, decide_eq_true_eq, List.all_eq_true, List.mem_range] at h1
  exact h1.2 j hj
theorem jl_J0 : jJ jl_d.2.2.1 jl_d.2.2.2 := by
  have z : ∀ k j, k < 76 → (j < if jl_n k = 0 then 30 else jl_n k) → ¬ ((k = 3 ∧ j = 1) ∨ (k = 7 ∧ j = 1) ∨ (k = 62 ∧ j = 10)) → jl_d.2.2.1 k j = nI 0 := fun k j h1 h2 h3 => by
    rw [jl_dz h1 h2]
    unfold jl_m0
    rw [if_neg h3]
    rfl
  have o1 : jl_d.2.2.1 7 1 = nI 1 := by rw [jl_dz (by omega) (by decide)]; rfl
  have o2 : jl_d.2.2.1 62 10 = nI 1 := by rw [jl_dz (by omega) (by decide)]; rfl
  generalize jl_d.2.2.1 = mem at *
  refine ⟨(0, fun _ => 0), (0, 1, fun _ => 0, fun _ => 0, fun _ => 0), fun _ => 0, [], fun _ => none, (0, fun _ => 0, fun _ => 0, fun _ => 0), 0, ⟨⟨z 1 1 (by omega) (by decide) (by omega), fun i hi => absurd hi (Nat.not_lt_zero _)⟩, ⟨z 7 0 (by omega) (by decide) (by omega), o1, fun r hr => absurd hr (Nat.not_lt_zero _)⟩, ⟨z 11 1 (by omega) (by decide) (by omega), z 11 2 (by omega) (by decide) (by omega), z 11 3 (by omega) (by decide) (by omega), fun r hr => z 12 r (by omega) (by show r < 8; exact hr) (by omega), fun r hr => z 13 r (by omega) (by show r < 8; exact hr) (by omega)⟩, ⟨0, by omega, z 0 5 (by omega) (by decide) (by omega), z 0 6 (by omega) (by decide) (by omega), fun i m hm => by simp at hm⟩, fun i hi => ⟨fun _ => z 21 i (by omega) (by show i < 2; exact hi) (by omega), fun m hm => (by cases hm)⟩, ⟨z 0 12 (by omega) (by decide) (by omega), fun i hi => absurd hi (Nat.not_lt_zero _)⟩, jl_fact.2.1.1⟩, ⟨⟨z 62 3 (by omega) (by decide) (by omega), fun i hi => absurd hi (Nat.not_lt_zero _)⟩, ⟨z 62 9 (by omega) (by decide) (by omega), o2, fun r hr => absurd hr (Nat.not_lt_zero _)⟩, fun j hj => z 67 j (by omega) (by show j < 19; exact hj) (by omega), ⟨z 62 22 (by omega) (by decide) (by omega), fun i m hm => by simp at hm⟩, fun i hi => ⟨fun _ => z 70 i (by omega) (by show i < 2; exact hi) (by omega), fun m hm => (by cases hm)⟩, ⟨z 62 26 (by omega) (by decide) (by omega), fun i hi => absurd hi (Nat.not_lt_zero _)⟩, jl_fact.2.1.2⟩, ?_⟩
  refine ⟨⟨by show 0 ≤ 120; omega, fun i hi => absurd hi (Nat.not_lt_zero _)⟩, ⟨by show 0 ≤ 8; omega, ⟨by show 1 ≤ 1; omega, by show 1 ≤ 3; omega⟩, fun r hr => absurd hr (Nat.not_lt_zero _)⟩, ⟨⟨fun _ => rfl, by omega, fun h => absurd h (Nat.not_lt_zero _), by omega, fun r hr => ⟨by omega, by omega⟩, fun r hr => absurd hr (Nat.not_lt_zero _), fun r s hr => absurd hr (Nat.not_lt_zero _), fun t ht => absurd ht (Nat.not_lt_zero _)⟩, by omega⟩, ⟨by show 0 ≤ 10; omega, fun m hm => (by cases hm)⟩, fun i m _ hm => (by cases hm), ⟨by show 0 ≤ 6; omega, fun i hi => absurd hi (Nat.not_lt_zero _)⟩⟩
theorem jl_bx : xX4_init [.ref 0] jl_a = some (none, jl_b) := by
  have h1 : (jl_ob.get jl_ob_some).1.isNone = true := by decide +kernel
  have h2 : jl_ob = some (jl_ob.get jl_ob_some) := (Option.some_get jl_ob_some).symm
  show jl_ob = _
  rw [h2]
  show some ((jl_ob.get jl_ob_some).1, (jl_ob.get jl_ob_some).2) = _
  rw [Option.isNone_iff_eq_none.mp h1]
  rfl
theorem jl_dx : xX5_init [.ref 62] jl_c = some (none, jl_d) := by
  have h1 : (jl_od.get jl_od_some).1.isNone = true := by decide +kernel
  have h2 : jl_od = some (jl_od.get jl_od_some) := (Option.some_get jl_od_some).symm
  show jl_od = _
  rw [h2]
  show some ((jl_od.get jl_od_some).1, (jl_od.get jl_od_some).2) = _
  rw [Option.isNone_iff_eq_none.mp h1]
  rfl
theorem jl_le1 : jl_a.1.1 = 1 ∧ jl_a.1.2 ≤ jl_b.1.2 := by decide +kernel
theorem jl_le2 : jl_c.1.1 = 63 ∧ jl_c.1.2 ≤ jl_d.1.2 := by decide +kernel
theorem L_start {xs : Nat → Int32} {L : Nat} : jr_ev (pL xs L) 0 [.ref 1000, .null, .null, .null] [] jl_e = jr_ev (pL xs L) 18 [.ref 1000, .ref 0, .ref 62, .int (nI 0)] [] jl_d := by
  have hb := jl_fact.1.1
  have hd := jl_fact.1.2.1
  have s0 : jr_ev (pL xs L) 0 [.ref 1000, .null, .null, .null] [] jl_e = jr_ev (pL xs L) 3 [.ref 1000, .null, .null, .null] [.ref 0] jl_a := jr_step rfl
  have s1 : jr_ev (pL xs L) 3 [.ref 1000, .null, .null, .null] [.ref 0] jl_a = jr_ev (pL xs L) 4 [.ref 1000, .null, .null, .null] [.ref 0, .ref 0] jl_a := je_dupr rfl
  have s2 : jr_ev (pL xs L) 4 [.ref 1000, .null, .null, .null] [.ref 0, .ref 0] jl_a = jr_ev (pL xs L) 7 [.ref 1000, .null, .null, .null] [.ref 0] jl_b := jr_step (by
    rw [show pL xs L 4 = jo_ci 1 xX4_init 7 from rfl]
    show (if 1 ≤ 2 then jo_aft (xX4_init [.ref 0] jl_a) _ [.ref 0] jl_a 7 else none) = _
    rw [if_pos (by omega), jl_bx]
    show (if _ then _ else none) = _
    rw [if_pos ⟨by show 1 ≤ 4; omega, by omega, ⟨by rw [jl_le1.1, hb]; omega, jl_le1.2⟩, Or.inr (by rw [jl_le1.1]; rfl)⟩]
    rfl)
  have s3 : jr_ev (pL xs L) 7 [.ref 1000, .null, .null, .null] [.ref 0] jl_b = jr_ev (pL xs L) 8 [.ref 1000, .ref 0, .null, .null] [] jl_b := je_rst rfl (by show 1 < 4; omega) rfl
  have s4 : jr_ev (pL xs L) 8 [.ref 1000, .ref 0, .null, .null] [] jl_b = jr_ev (pL xs L) 11 [.ref 1000, .ref 0, .null, .null] [.ref 62] jl_c := jr_step (by
    rw [show pL xs L 8 = jo_new 5 11 from rfl]
    unfold jo_new
    rw [hb, if_pos ⟨by omega, rfl⟩]
    rfl)
  have s5 : jr_ev (pL xs L) 11 [.ref 1000, .ref 0, .null, .null] [.ref 62] jl_c = jr_ev (pL xs L) 12 [.ref 1000, .ref 0, .null, .null] [.ref 62, .ref 62] jl_c := je_dupr rfl
  have s6 : jr_ev (pL xs L) 12 [.ref 1000, .ref 0, .null, .null] [.ref 62, .ref 62] jl_c = jr_ev (pL xs L) 15 [.ref 1000, .ref 0, .null, .null] [.ref 62] jl_d := jr_step (by
    rw [show pL xs L 12 = jo_ci 1 xX5_init 15 from rfl]
    show (if 1 ≤ 2 then jo_aft (xX5_init [.ref 62] jl_c) _ [.ref 62] jl_c 15 else none) = _
    rw [if_pos (by omega), jl_dx]
    show (if _ then _ else none) = _
    rw [if_pos ⟨by show 1 ≤ 4; omega, by omega, ⟨by rw [jl_le2.1, hd]; omega, jl_le2.2⟩, Or.inr (by rw [jl_le2.1]; rfl)⟩]
    rfl)
  have s7 : jr_ev (pL xs L) 15 [.ref 1000, .ref 0, .null, .null] [.ref 62] jl_d = jr_ev (pL xs L) 16 [.ref 1000, .ref 0, .ref 62, .null] [] jl_d := je_rst rfl (by show 2 < 4; omega) rfl
  have s8 : jr_ev (pL xs L) 16 [.ref 1000, .ref 0, .ref 62, .null] [] jl_d = jr_ev (pL xs L) 17 [.ref 1000, .ref 0, .ref 62, .null] [.int (nI 0)] jl_d := je_k rfl
  have s9 : jr_ev (pL xs L) 17 [.ref 1000, .ref 0, .ref 62, .null] [.int (nI 0)] jl_d = jr_ev (pL xs L) 18 [.ref 1000, .ref 0, .ref 62, .int (nI 0)] [] jl_d := je_ist rfl (by show 3 < 4; omega) rfl
  rw [s0, s1, s2, s3, s4, s5, s6, s7, s8, s9]
theorem L_all {xs : Nat → Int32} {L : Nat} (hL : L ≤ 2560) : ∃ mem lm, jr_ev (pL xs L) 0 [.ref 1000, .null, .null, .null] [] jl_e = some (some (.int (nI 1)), jl_w mem lm) := by
  obtain ⟨m, l, e⟩ := L_loop (xs := xs) hL L 0 jl_d.2.2.1 jl_d.2.2.2 (by omega) (by omega) jl_J0
  refine ⟨m, l, ?_⟩
  rw [L_start, jl_dw]
  exact e

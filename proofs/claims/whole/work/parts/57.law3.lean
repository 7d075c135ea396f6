set_option maxRecDepth 100000
section LL
variable {xs : Nat → Int32} {L : Nat}
theorem L_step {i : Nat} {mem : jl_M} {lm : jl_L} (hi : i + 4 < L) (hL : L < 2 ^ 31) (hJ : jJ mem lm) : ∃ mem2 lm2, jr_ev (pL xs L) 26 [.ref 1000, .ref 0, .ref 62, .int (nI i)] [] (jl_w mem lm) = jr_ev (pL xs L) 767 [.ref 1000, .ref 0, .ref 62, .int (nI i)] [] (jl_w mem2 lm2) ∧ jJ mem2 lm2 := by
  have h0 : i < L := by omega
  simp (disch := assumption) only [eL_26, eL_27, eL_28, eL_29, eL_31, eL_32]
  generalize xs i &&& nI 31 = z
  rcases jq_rng z (a := 0) (b := 23) (by omega) (by omega) with ⟨v, _, hv, rfl⟩ | hz
  · have key : ∃ mem2 lm2, jr_ev (pL xs L) (if (nI v).toInt < 0 then 767 else (([144, 167, 180, 193, 226, 249, 272, 305, 318, 351, 374, 387, 420, 453, 496, 549, 592, 605, 628, 651, 684, 707, 730, 753] : List Nat)[((nI v).toInt - 0).toNat]?).getD 767) [.ref 1000, .ref 0, .ref 62, .int (nI i)] [] (jl_w mem lm) = jr_ev (pL xs L) 767 [.ref 1000, .ref 0, .ref 62, .int (nI i)] [] (jl_w mem2 lm2) ∧ jJ mem2 lm2 := by
      match v, hv with
      | 0, _ => rw [show (if (nI 0).toInt < 0 then 767 else (([144, 167, 180, 193, 226, 249, 272, 305, 318, 351, 374, 387, 420, 453, 496, 549, 592, 605, 628, 651, 684, 707, 730, 753] : List Nat)[((nI 0).toInt - 0).toNat]?).getD 767) = 144 from by decide +kernel]; exact L_type hi hL hJ
      | 1, _ => rw [show (if (nI 1).toInt < 0 then 767 else (([144, 167, 180, 193, 226, 249, 272, 305, 318, 351, 374, 387, 420, 453, 496, 549, 592, 605, 628, 651, 684, 707, 730, 753] : List Nat)[((nI 1).toInt - 0).toNat]?).getD 767) = 167 from by decide +kernel]; exact L_clear hi hL hJ
      | 2, _ => rw [show (if (nI 2).toInt < 0 then 767 else (([144, 167, 180, 193, 226, 249, 272, 305, 318, 351, 374, 387, 420, 453, 496, 549, 592, 605, 628, 651, 684, 707, 730, 753] : List Nat)[((nI 2).toInt - 0).toNat]?).getD 767) = 180 from by decide +kernel]; exact L_chime hi hL hJ
      | 3, _ => rw [show (if (nI 3).toInt < 0 then 767 else (([144, 167, 180, 193, 226, 249, 272, 305, 318, 351, 374, 387, 420, 453, 496, 549, 592, 605, 628, 651, 684, 707, 730, 753] : List Nat)[((nI 3).toInt - 0).toNat]?).getD 767) = 193 from by decide +kernel]; exact L_rod hi hL hJ
      | 4, _ => rw [show (if (nI 4).toInt < 0 then 767 else (([144, 167, 180, 193, 226, 249, 272, 305, 318, 351, 374, 387, 420, 453, 496, 549, 592, 605, 628, 651, 684, 707, 730, 753] : List Nat)[((nI 4).toInt - 0).toNat]?).getD 767) = 226 from by decide +kernel]; exact L_side hi hL hJ
      | 5, _ => rw [show (if (nI 5).toInt < 0 then 767 else (([144, 167, 180, 193, 226, 249, 272, 305, 318, 351, 374, 387, 420, 453, 496, 549, 592, 605, 628, 651, 684, 707, 730, 753] : List Nat)[((nI 5).toInt - 0).toNat]?).getD 767) = 249 from by decide +kernel]; exact L_now hi hL hJ
      | 6, _ => rw [show (if (nI 6).toInt < 0 then 767 else (([144, 167, 180, 193, 226, 249, 272, 305, 318, 351, 374, 387, 420, 453, 496, 549, 592, 605, 628, 651, 684, 707, 730, 753] : List Nat)[((nI 6).toInt - 0).toNat]?).getD 767) = 272 from by decide +kernel]; exact L_blows hi hL hJ
      | 7, _ => rw [show (if (nI 7).toInt < 0 then 767 else (([144, 167, 180, 193, 226, 249, 272, 305, 318, 351, 374, 387, 420, 453, 496, 549, 592, 605, 628, 651, 684, 707, 730, 753] : List Nat)[((nI 7).toInt - 0).toNat]?).getD 767) = 305 from by decide +kernel]; exact L_calms hi hL hJ
      | 8, _ => rw [show (if (nI 8).toInt < 0 then 767 else (([144, 167, 180, 193, 226, 249, 272, 305, 318, 351, 374, 387, 420, 453, 496, 549, 592, 605, 628, 651, 684, 707, 730, 753] : List Nat)[((nI 8).toInt - 0).toNat]?).getD 767) = 318 from by decide +kernel]; exact L_changes hi hL hJ
      | 9, _ => rw [show (if (nI 9).toInt < 0 then 767 else (([144, 167, 180, 193, 226, 249, 272, 305, 318, 351, 374, 387, 420, 453, 496, 549, 592, 605, 628, 651, 684, 707, 730, 753] : List Nat)[((nI 9).toInt - 0).toNat]?).getD 767) = 351 from by decide +kernel]; exact L_holds hi hL hJ
      | 10, _ => rw [show (if (nI 10).toInt < 0 then 767 else (([144, 167, 180, 193, 226, 249, 272, 305, 318, 351, 374, 387, 420, 453, 496, 549, 592, 605, 628, 651, 684, 707, 730, 753] : List Nat)[((nI 10).toInt - 0).toNat]?).getD 767) = 374 from by decide +kernel]; exact L_undo hi hL hJ
      | 11, _ => rw [show (if (nI 11).toInt < 0 then 767 else (([144, 167, 180, 193, 226, 249, 272, 305, 318, 351, 374, 387, 420, 453, 496, 549, 592, 605, 628, 651, 684, 707, 730, 753] : List Nat)[((nI 11).toInt - 0).toNat]?).getD 767) = 387 from by decide +kernel]; exact L_comes hi hL hJ
      | 12, _ => rw [show (if (nI 12).toInt < 0 then 767 else (([144, 167, 180, 193, 226, 249, 272, 305, 318, 351, 374, 387, 420, 453, 496, 549, 592, 605, 628, 651, 684, 707, 730, 753] : List Nat)[((nI 12).toInt - 0).toNat]?).getD 767) = 420 from by decide +kernel]; exact L_best hi hL hJ
      | 13, _ => rw [show (if (nI 13).toInt < 0 then 767 else (([144, 167, 180, 193, 226, 249, 272, 305, 318, 351, 374, 387, 420, 453, 496, 549, 592, 605, 628, 651, 684, 707, 730, 753] : List Nat)[((nI 13).toInt - 0).toNat]?).getD 767) = 453 from by decide +kernel]; exact L_swap hi hL hJ
      | 14, _ => rw [show (if (nI 14).toInt < 0 then 767 else (([144, 167, 180, 193, 226, 249, 272, 305, 318, 351, 374, 387, 420, 453, 496, 549, 592, 605, 628, 651, 684, 707, 730, 753] : List Nat)[((nI 14).toInt - 0).toNat]?).getD 767) = 496 from by decide +kernel]; exact L_odds hi hL hJ
      | 15, _ => rw [show (if (nI 15).toInt < 0 then 767 else (([144, 167, 180, 193, 226, 249, 272, 305, 318, 351, 374, 387, 420, 453, 496, 549, 592, 605, 628, 651, 684, 707, 730, 753] : List Nat)[((nI 15).toInt - 0).toNat]?).getD 767) = 549 from by decide +kernel]; exact L_hears hi hL hJ
      | 16, _ => rw [show (if (nI 16).toInt < 0 then 767 else (([144, 167, 180, 193, 226, 249, 272, 305, 318, 351, 374, 387, 420, 453, 496, 549, 592, 605, 628, 651, 684, 707, 730, 753] : List Nat)[((nI 16).toInt - 0).toNat]?).getD 767) = 592 from by decide +kernel]; exact L_forget hi hL hJ
      | 17, _ => rw [show (if (nI 17).toInt < 0 then 767 else (([144, 167, 180, 193, 226, 249, 272, 305, 318, 351, 374, 387, 420, 453, 496, 549, 592, 605, 628, 651, 684, 707, 730, 753] : List Nat)[((nI 17).toInt - 0).toNat]?).getD 767) = 605 from by decide +kernel]; exact L_gusts hi hL hJ
      | 18, _ => rw [show (if (nI 18).toInt < 0 then 767 else (([144, 167, 180, 193, 226, 249, 272, 305, 318, 351, 374, 387, 420, 453, 496, 549, 592, 605, 628, 651, 684, 707, 730, 753] : List Nat)[((nI 18).toInt - 0).toNat]?).getD 767) = 628 from by decide +kernel]; exact L_listen hi hL hJ
      | 19, _ => rw [show (if (nI 19).toInt < 0 then 767 else (([144, 167, 180, 193, 226, 249, 272, 305, 318, 351, 374, 387, 420, 453, 496, 549, 592, 605, 628, 651, 684, 707, 730, 753] : List Nat)[((nI 19).toInt - 0).toNat]?).getD 767) = 651 from by decide +kernel]; exact L_rate hi hL hJ
      | 20, _ => rw [show (if (nI 20).toInt < 0 then 767 else (([144, 167, 180, 193, 226, 249, 272, 305, 318, 351, 374, 387, 420, 453, 496, 549, 592, 605, 628, 651, 684, 707, 730, 753] : List Nat)[((nI 20).toInt - 0).toNat]?).getD 767) = 684 from by decide +kernel]; exact L_keep hi hL hJ
      | 21, _ => rw [show (if (nI 21).toInt < 0 then 767 else (([144, 167, 180, 193, 226, 249, 272, 305, 318, 351, 374, 387, 420, 453, 496, 549, 592, 605, 628, 651, 684, 707, 730, 753] : List Nat)[((nI 21).toInt - 0).toNat]?).getD 767) = 707 from by decide +kernel]; exact L_back hi hL hJ
      | 22, _ => rw [show (if (nI 22).toInt < 0 then 767 else (([144, 167, 180, 193, 226, 249, 272, 305, 318, 351, 374, 387, 420, 453, 496, 549, 592, 605, 628, 651, 684, 707, 730, 753] : List Nat)[((nI 22).toInt - 0).toNat]?).getD 767) = 730 from by decide +kernel]; exact L_count hi hL hJ
      | 23, _ => rw [show (if (nI 23).toInt < 0 then 767 else (([144, 167, 180, 193, 226, 249, 272, 305, 318, 351, 374, 387, 420, 453, 496, 549, 592, 605, 628, 651, 684, 707, 730, 753] : List Nat)[((nI 23).toInt - 0).toNat]?).getD 767) = 753 from by decide +kernel]; exact L_trace hi hL hJ
      | n + 24, h => exact absurd h (by omega)
    exact key
  · rw [jq_tsn 23 rfl (by decide) hz]
    exact ⟨mem, lm, rfl, hJ⟩
theorem L_loop (hL : L ≤ 2560) : ∀ k i (mem : jl_M) (lm : jl_L), L ≤ i + 5 * k → i ≤ L + 5 → jJ mem lm → ∃ mem2 lm2, jr_ev (pL xs L) 18 [.ref 1000, .ref 0, .ref 62, .int (nI i)] [] (jl_w mem lm) = some (some (.int (nI 1)), jl_w mem2 lm2) := by
  have fin : ∀ i (mem : jl_M) (lm : jl_L), L < i + 5 → i ≤ L + 5 → jr_ev (pL xs L) 18 [.ref 1000, .ref 0, .ref 62, .int (nI i)] [] (jl_w mem lm) = some (some (.int (nI 1)), jl_w mem lm) := by
    intro i mem lm h1 h2
    have hc : nI L - nI 5 < nI i := by
      rcases Nat.lt_or_ge L 5 with h | h
      · have d : ∀ L, L < 5 → nI L - nI 5 < 0 := by decide +kernel
        exact Int32.lt_of_lt_of_le (d L h) (nI_pos' (by omega))
      · rw [pk_sub h]
        exact (nI_ltI (by omega) (by omega)).mpr (by omega)
    simp only [eL_18, eL_19, eL_20, eL_21, eL_22, eL_23, hc, if_true, eL_773, eL_774]
  intro k
  induction k with
  | zero =>
    intro i mem lm h1 h2 hJ
    exact ⟨mem, lm, fin i mem lm (by omega) h2⟩
  | succ k ih =>
    intro i mem lm h1 h2 hJ
    rcases Nat.lt_or_ge L (i + 5) with h | h
    · exact ⟨mem, lm, fin i mem lm h h2⟩
    · have hc : ¬ nI L - nI 5 < nI i := by
        rw [pk_sub (by omega)]
        exact fun q => absurd ((nI_ltI (by omega) (by omega)).mp q) (by omega)
      obtain ⟨m1, l1, e1, J1⟩ := L_step (xs := xs) (L := L) (i := i) (by omega) (by omega) hJ
      obtain ⟨m2, l2, e2⟩ := ih (i + 5) m1 l1 (by omega) (by omega) J1
      refine ⟨m2, l2, ?_⟩
      simp only [eL_18, eL_19, eL_20, eL_21, eL_22, eL_23, hc, if_false]
      rw [e1]
      simp only [eL_767, nI_add]
      rw [eL_770, e2]
end LL

theorem jm_within {mk : Nat → Nat} {n r k : Nat} {mem : jl_M} {lm : jl_L} (h : mem 14 2 = nI (mk n)) (hm : mk n < 256) (hF : jx_F mem mk n) (hr : r < 8) (hk : k ≤ n) (hn : n ≤ 20) (hmono : (mk k).testBit r = true → (mk n).testBit r = true) : xX0_hasStruckWithin [.ref 14, .int (nI r), .int (nI k)] (jl_w mem lm) = some (some (.int (nI (if (mk k).testBit r = true then 1 else 0))), jl_w mem lm) := by
  have hs := jm_hasStruck (lm := lm) h hm hr
  have e1 : ¬ nI 1 = 0 := by decide
  have e0 : (nI 0 = (0 : Int32)) = True := propext ⟨fun _ => trivial, fun _ => rfl⟩
  by_cases hb : (mk n).testBit r = true
  · rw [if_pos hb] at hs
    obtain ⟨f, f1, f2, f3⟩ := hF r hr hb
    by_cases hkb : (mk k).testBit r = true
    · have hfk : ¬ k < f := by have := (f3 k hk).mp hkb; omega
      rw [if_pos hkb]
      simp only [eX0_hasStruckWithin, eX0_hasStruckWithin_0, eX0_hasStruckWithin_1]
      rw [eX0_hasStruckWithin_2 hs]
      simp (disch := first | assumption | omega) only [eX0_hasStruckWithin_5, eX0_hasStruckWithin_8, eX0_hasStruckWithin_9, eX0_hasStruckWithin_12, eX0_hasStruckWithin_13, eX0_hasStruckWithin_14, eX0_hasStruckWithin_15, eX0_hasStruckWithin_18, eX0_hasStruckWithin_19, eX0_hasStruckWithin_22, eX0_hasStruckWithin_23_0, eX0_hasStruckWithin_23_1, e1, f2, nI_ltI, hfk, if_false]
    · have hfk : k < f := by
        rcases Nat.lt_or_ge k f with q | q
        · exact q
        · exact absurd ((f3 k hk).mpr q) hkb
      rw [if_neg hkb]
      simp only [eX0_hasStruckWithin, eX0_hasStruckWithin_0, eX0_hasStruckWithin_1]
      rw [eX0_hasStruckWithin_2 hs]
      simp (disch := first | assumption | omega) only [eX0_hasStruckWithin_5, eX0_hasStruckWithin_8, eX0_hasStruckWithin_9, eX0_hasStruckWithin_12, eX0_hasStruckWithin_13, eX0_hasStruckWithin_14, eX0_hasStruckWithin_15, eX0_hasStruckWithin_18, eX0_hasStruckWithin_19, eX0_hasStruckWithin_22, eX0_hasStruckWithin_23_0, eX0_hasStruckWithin_23_1, e1, f2, nI_ltI, hfk, if_false, if_true]
  · rw [if_neg hb] at hs
    rw [if_neg (fun q => hb (hmono q))]
    simp only [eX0_hasStruckWithin, eX0_hasStruckWithin_0, eX0_hasStruckWithin_1]
    rw [eX0_hasStruckWithin_2 hs]
    simp only [eX0_hasStruckWithin_5, eX0_hasStruckWithin_8, eX0_hasStruckWithin_9, eX0_hasStruckWithin_12, eX0_hasStruckWithin_13, eX0_hasStruckWithin_14, eX0_hasStruckWithin_15, eX0_hasStruckWithin_18, eX0_hasStruckWithin_19, eX0_hasStruckWithin_22, eX0_hasStruckWithin_23_0, eX0_hasStruckWithin_23_1, e0, if_true]
theorem jq_go_mono {K : jq_K} {s : jq_S} {r : Nat} : ∀ d j, (jq_go K j s).2.1.testBit r = true → (jq_go K (j + d) s).2.1.testBit r = true
  | 0, j, h => h
  | d + 1, j, h => by
    have h1 := jq_go_mono d j h
    have e : (jq_go K (j + (d + 1)) s).2.1 = (jq_go K (j + d) s).2.1 ||| jq_bt (jq_bw K 0 0 (jq_go K (j + d) s).1) := rfl
    rw [e, Nat.testBit_or, h1, Bool.true_or]
/-- how many bits there are of eight -/
def jq_pop (m : Nat) : Nat := jq_sum (fun k => (m >>> k) % 2) 8
theorem jq_pop_le {m : Nat} : jq_pop m ≤ 8 := by
  have := jq_sum_bd (f := fun k => (m >>> k) % 2) (c := 1) (fun i => by omega) 8
  unfold jq_pop
  omega
theorem jm_bitCount {m : Nat} {w : jw_W} (hm : m < 256) : xJ6_bitCount_0f7a4 [.int (nI m)] w = some (some (.int (nI (jq_pop m))), w) := by
  simp only [eJ6_bitCount_0f7a4, eJ6_bitCount_0f7a4_0, eJ6_bitCount_0f7a4_1, eJ6_bitCount_0f7a4_2, eJ6_bitCount_0f7a4_3, eJ6_bitCount_0f7a4_4, eJ6_bitCount_0f7a4_7, eJ6_bitCount_0f7a4_8, eJ6_bitCount_0f7a4_9, eJ6_bitCount_0f7a4_10, eJ6_bitCount_0f7a4_11, eJ6_bitCount_0f7a4_14, eJ6_bitCount_0f7a4_15, eJ6_bitCount_0f7a4_16, eJ6_bitCount_0f7a4_17, eJ6_bitCount_0f7a4_18, eJ6_bitCount_0f7a4_21, eJ6_bitCount_0f7a4_22, eJ6_bitCount_0f7a4_23, eJ6_bitCount_0f7a4_24, eJ6_bitCount_0f7a4_25, eJ6_bitCount_0f7a4_26, eJ6_bitCount_0f7a4_27, eJ6_bitCount_0f7a4_28, eJ6_bitCount_0f7a4_29, eJ6_bitCount_0f7a4_32, eJ6_bitCount_0f7a4_33, eJ6_bitCount_0f7a4_34, eJ6_bitCount_0f7a4_35, eJ6_bitCount_0f7a4_36, eJ6_bitCount_0f7a4_38, eJ6_bitCount_0f7a4_39, eJ6_bitCount_0f7a4_40, eJ6_bitCount_0f7a4_41, eJ6_bitCount_0f7a4_42, eJ6_bitCount_0f7a4_43, eJ6_bitCount_0f7a4_45, eJ6_bitCount_0f7a4_46, eJ6_bitCount_0f7a4_47, eJ6_bitCount_0f7a4_48, eJ6_bitCount_0f7a4_49, eJ6_bitCount_0f7a4_51, eJ6_bitCount_0f7a4_52]
  congr 4
  revert hm
  revert m
  decide +kernel
theorem jm_count {m : Nat} {mem : jl_M} {lm : jl_L} (h : mem 14 2 = nI m) (hm : m < 256) : xX0_struckCount [.ref 14] (jl_w mem lm) = some (some (.int (nI (jq_pop m))), jl_w mem lm) := by
  have hb := jm_bitCount (w := jl_w mem lm) hm
  simp only [eX0_struckCount, eX0_struckCount_0, eX0_struckCount_1, h]
  rw [eX0_struckCount_4 hb]
  simp only [eX0_struckCount_7]
theorem jm_mild {m h : Nat} {mem : jl_M} {lm : jl_L} (h2 : mem 14 2 = nI m) (hm : m < 256) (h3 : mem 14 3 = nI h) : xX0_mildness [.ref 14] (jl_w mem lm) = some (some (.int (if m = 0 then -1000 else -nI h)), jl_w mem lm) := by
  by_cases e : m = 0
  · simp (disch := first | assumption | omega) only [eX0_mildness, eX0_mildness_0, eX0_mildness_1, eX0_mildness_4, eX0_mildness_7, eX0_mildness_10, eX0_mildness_13, eX0_mildness_14, eX0_mildness_17, eX0_mildness_18, h2, h3, jz_eq, e, if_true]
  · simp (disch := first | assumption | omega) only [eX0_mildness, eX0_mildness_0, eX0_mildness_1, eX0_mildness_4, eX0_mildness_7, eX0_mildness_10, eX0_mildness_13, eX0_mildness_14, eX0_mildness_17, eX0_mildness_18, h2, h3, jz_eq, e, if_false]
def jq_sf (K : jq_K) : Nat → Nat → jq_M → Option Nat
  | 0, _, _ => none
  | k + 1, i, mo => if mo 2 = 0 ∧ jq_rg mo K.1 = 0 then some i else jq_sf K k (i + 1) (jq_beat K 0 0 mo)
theorem jm_toStill {K : jq_K} {mo : jq_M} {mem : jl_M} {lm : jl_L} (hK : jx_K mem K) (hM : jx_M mem 11 mo) (hk : jq_WK K) (hw : jq_WM K.1 mo) : ∃ mem', xX0_calmsToStill [.ref 14, .ref 11] (jl_w mem lm) = some (some (.int (jq_an (jq_sf K 61 0 mo))), jl_w mem' lm) ∧ jl_F jl_co mem mem' := by
  have e1 : ¬ nI 1 = 0 := by decide
  have e0 : (nI 0 = (0 : Int32)) = True := propext ⟨fun _ => trivial, fun _ => rfl⟩
  have key : ∀ k i (mo : jq_M) (m : jl_M), i + k = 61 → jx_M m 16 mo → jq_WM K.1 mo → jl_F jl_co mem m → ∃ mem', jr_ev pX0_calmsToStill 7 [.ref 14, .ref 11, .int (nI i)] [] (jl_w m lm) = some (some (.int (jq_an (jq_sf K k i mo))), jl_w mem' lm) ∧ jl_F jl_co mem mem' := by
    intro k
    induction k with
    | zero =>
      intro i mo m hi q1 q2 q3
      have e : 60 < i := by omega
      refine ⟨m, ?_, q3⟩
      simp (disch := first | assumption | omega) only [eX0_calmsToStill_7, eX0_calmsToStill_8, eX0_calmsToStill_10, eX0_calmsToStill_39, eX0_calmsToStill_41, nI_ltI, e, if_true]
      rfl
    | succ k ih =>
      intro i mo m hi q1 q2 q3
      have e : ¬ 60 < i := by omega
      have K1 := hK.frame q3 (fun k hk => by omega)
      have hst := jm_still (b := 16) (lm := lm) rfl K1 q1 hk q2
      by_cases hc : mo 2 = 0 ∧ jq_rg mo K.1 = 0
      · rw [if_pos hc] at hst
        refine ⟨m, ?_, q3⟩
        simp (disch := first | assumption | omega) only [eX0_calmsToStill_7, eX0_calmsToStill_8, eX0_calmsToStill_10, eX0_calmsToStill_13, eX0_calmsToStill_14, nI_ltI, e, if_false]
        rw [eX0_calmsToStill_17 hst]
        simp only [eX0_calmsToStill_20, eX0_calmsToStill_23, eX0_calmsToStill_24, e1, if_false]
        unfold jq_sf
        rw [if_pos hc]
        rfl
      · rw [if_neg hc] at hst
        have hn : 0 < K.1 := by
          rcases Nat.eq_zero_or_pos K.1 with h | h
          · exact absurd ⟨q2.1 h, by rw [h]; rfl⟩ hc
          · exact h
        obtain ⟨m1, e2, r1, f1⟩ := jm_calm (b := 16) (lm := lm) rfl K1 q1 hk q2 hn
        have ww := jq_WM_beat hk hn (s := 0) (g := 0) (fun q => absurd q (by omega)) (by omega) q2
        obtain ⟨mem', g1, g2⟩ := ih (i + 1) _ m1 (by omega) r1 ww (fun k hk => by rw [f1 k (by omega)]; exact q3 k hk)
        refine ⟨mem', ?_, g2⟩
        simp (disch := first | assumption | omega) only [eX0_calmsToStill_7, eX0_calmsToStill_8, eX0_calmsToStill_10, eX0_calmsToStill_13, eX0_calmsToStill_14, nI_ltI, e, if_false]
        rw [eX0_calmsToStill_17 hst]
        simp only [eX0_calmsToStill_20, eX0_calmsToStill_25, eX0_calmsToStill_26, e0, if_true]
        rw [eX0_calmsToStill_29 e2]
        simp only [eX0_calmsToStill_32, eX0_calmsToStill_33, nI_add]
        rw [eX0_calmsToStill_36, g1]
        congr 3
        unfold jq_sf
        rw [if_neg hc]
        cases k <;> rfl
  obtain ⟨m1, c1, r1, a1, a2, a3, f1⟩ := jm_cstart (lm := lm) hM
  obtain ⟨mem', g1, g2⟩ := key 61 0 mo m1 (by omega) r1 hw f1
  refine ⟨mem', ?_, g2⟩
  simp only [eX0_calmsToStill, eX0_calmsToStill_0, eX0_calmsToStill_1]
  rw [eX0_calmsToStill_2 c1]
  simp only [eX0_calmsToStill_5, eX0_calmsToStill_6]
  exact g1

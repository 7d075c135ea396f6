/-! ===== the reference ===== -/
theorem jy_M.keep {mem mem' : jl_M} {k : Nat} {mo : jq_M} (h : jy_M mem k mo) (hk : mem' k = mem k) : jy_M mem' k mo := fun j hj => by rw [hk]; exact h j hj
theorem jy_K.keep {mem mem' : jl_M} {K : jq_K} (h : jy_K mem K) (h9 : mem' 62 9 = mem 62 9) (h10 : mem' 62 10 = mem 62 10) (h64 : mem' 64 = mem 64) (h65 : mem' 65 = mem 65) (h66 : mem' 66 = mem 66) : jy_K mem' K := by
  unfold jy_K
  rw [h9, h10, h64, h65, h66]
  exact h
section YB
variable {mem : jl_M} {lm : jl_L} {K : jq_K} {mo : jq_M}
theorem Y_in {a b v : Nat} (h1 : a ≤ v) (h2 : v ≤ b) (hb : b < 2 ^ 31) : xX5_in [.int (nI v), .int (nI a), .int (nI b)] (jl_w mem lm) = some (some (.int (nI 1)), jl_w mem lm) := by
  have e1 : ¬ v < a := by omega
  have e2 : ¬ b < v := by omega
  simp (disch := first | assumption | omega) only [eX5_in, eX5_in_0, eX5_in_1, eX5_in_2, eX5_in_5, eX5_in_6, eX5_in_7, eX5_in_10, eX5_in_11, eX5_in_14, eX5_in_15_0, eX5_in_15_1, nI_ltI, e1, e2, if_false]
theorem Y_inn {x y z : Int32} (h : x < y ∨ z < x) : xX5_in [.int x, .int y, .int z] (jl_w mem lm) = some (some (.int (nI 0)), jl_w mem lm) := by
  by_cases h1 : x < y
  · simp only [eX5_in, eX5_in_0, eX5_in_1, eX5_in_2, eX5_in_5, eX5_in_6, eX5_in_7, eX5_in_10, eX5_in_11, eX5_in_14, eX5_in_15_0, eX5_in_15_1, h1, if_true]
  · have h2 := h.resolve_left h1
    simp only [eX5_in, eX5_in_0, eX5_in_1, eX5_in_2, eX5_in_5, eX5_in_6, eX5_in_7, eX5_in_10, eX5_in_11, eX5_in_14, eX5_in_15_0, eX5_in_15_1, h1, h2, if_true, if_false]
theorem Y_isRod {n r : Nat} (hn : mem 62 9 = nI n) (hn8 : n ≤ 8) (hr : r < n) : xX5_isRod [.ref 62, .int (nI r)] (jl_w mem lm) = some (some (.int (nI 1)), jl_w mem lm) := by
  have e : nI n - nI 1 = nI (n - 1) := pk_sub (by omega)
  simp only [eX5_isRod, eX5_isRod_0, eX5_isRod_1, eX5_isRod_2, eX5_isRod_3, eX5_isRod_6, eX5_isRod_7, hn, e]
  rw [eX5_isRod_8 (Y_in (Nat.zero_le _) (by omega) (by omega))]
  simp only [eX5_isRod_11_0, eX5_isRod_11_1]
theorem Y_isRodn {n : Nat} {x : Int32} (hn : mem 62 9 = nI n) (hn8 : n ≤ 8) (hx : x < 0 ∨ nI n ≤ x) : xX5_isRod [.ref 62, .int x] (jl_w mem lm) = some (some (.int (nI 0)), jl_w mem lm) := by
  have hh : x < nI 0 ∨ nI n - nI 1 < x := by
    rcases hx with h | h
    · exact Or.inl h
    · right
      have : ∀ n, n ≤ 8 → nI n - nI 1 < nI n := by decide
      exact Int32.lt_of_lt_of_le (this n hn8) h
  simp only [eX5_isRod, eX5_isRod_0, eX5_isRod_1, eX5_isRod_2, eX5_isRod_3, eX5_isRod_6, eX5_isRod_7, hn]
  rw [eX5_isRod_8 (Y_inn hh)]
  simp only [eX5_isRod_11_0, eX5_isRod_11_1]
theorem Y_at {k t : Nat} (hA : jl_A k 19) (hK : jy_K mem K) (hM : jy_M mem k mo) (hk : jq_WK K) (hw : jq_WM K.1 mo) (ht : t < K.1) : xX5_rodAt [.ref 62, .ref k, .int (nI t)] (jl_w mem lm) = some (some (.int (nI (jq_at K.1 mo t))), jl_w mem lm) := by
  have h8 := hk.1
  have h0 := jq_at_ok hw ht
  generalize hr0 : jq_at K.1 mo t = r0 at *
  obtain ⟨ls', mem', hI, he⟩ := jr_loop (P := pX5_rodAt) (pc := 6) (lm := lm) (fun i ls m => ls = [.ref 62, .ref k, .int (nI t), .int (if r0 < i then nI r0 else -9), .int (nI i)] ∧ m = mem) K.1 (by
    intro i ls m hi ⟨hl, hm⟩
    subst hl hm
    have e3 : ¬ K.1 ≤ i := by omega
    have e4 := hM (3 + i) (by omega)
    have e5 := hw.2.2.2.2.2.1 i hi
    refine ⟨[.ref 62, .ref k, .int (nI t), .int (if r0 < i + 1 then nI r0 else -9), .int (nI (i + 1))], m, ⟨rfl, rfl⟩, ?_⟩
    refine Eq.trans ?_ eX5_rodAt_35
    by_cases e : mo (3 + i) = t
    · have hir : i = r0 := hw.2.2.2.2.2.2.1 i r0 hi h0.1 (e.trans h0.2.symm)
      have hx : (if r0 < i + 1 then nI r0 else (-9 : Int32)) = nI i := by rw [if_pos (by omega), hir]
      rw [hx]
      simp (disch := first | assumption | omega) only [eX5_rodAt_6, eX5_rodAt_8, eX5_rodAt_9, eX5_rodAt_12, eX5_rodAt_15, eX5_rodAt_16, eX5_rodAt_17, eX5_rodAt_19, eX5_rodAt_20, eX5_rodAt_21, eX5_rodAt_22, eX5_rodAt_25, eX5_rodAt_27, eX5_rodAt_30, eX5_rodAt_31, eX5_rodAt_32, hK.1, nI_leI, e3, if_false, nI_add, e4, nI_eq, e, if_true]
    · have hir : i ≠ r0 := fun q => e (by rw [q]; exact h0.2)
      have hx : (if r0 < i + 1 then nI r0 else (-9 : Int32)) = (if r0 < i then nI r0 else -9) := by
        by_cases hq : r0 < i
        · rw [if_pos hq, if_pos (by omega)]
        · rw [if_neg hq, if_neg (by omega)]
      rw [hx]
      simp (disch := first | assumption | omega) only [eX5_rodAt_6, eX5_rodAt_8, eX5_rodAt_9, eX5_rodAt_12, eX5_rodAt_15, eX5_rodAt_16, eX5_rodAt_17, eX5_rodAt_19, eX5_rodAt_20, eX5_rodAt_21, eX5_rodAt_22, eX5_rodAt_25, eX5_rodAt_27, eX5_rodAt_30, eX5_rodAt_31, eX5_rodAt_32, hK.1, nI_leI, e3, if_false, nI_add, e4, nI_eq, e]) K.1 0 [.ref 62, .ref k, .int (nI t), .int (-9), .int (nI 0)] mem (by omega) ⟨by rw [if_neg (by omega)], rfl⟩
  obtain ⟨rfl, rfl⟩ := hI
  simp only [eX5_rodAt, eX5_rodAt_0, eX5_rodAt_2, eX5_rodAt_3, eX5_rodAt_4]
  rw [he]
  simp (disch := first | assumption | omega) only [eX5_rodAt_6, eX5_rodAt_8, eX5_rodAt_9, eX5_rodAt_12, eX5_rodAt_38, eX5_rodAt_39, hK.1, nI_leI, Nat.le_refl, if_true]
  rw [if_pos h0.1]
theorem Y_ringing {k : Nat} (hA : jl_A k 19) (hK : jy_K mem K) (hM : jy_M mem k mo) (hk : jq_WK K) (hw : jq_WM K.1 mo) : xX5_ringing [.ref 62, .ref k] (jl_w mem lm) = some (some (.int (nI (jq_rg mo K.1))), jl_w mem lm) := by
  have h8 := hk.1
  obtain ⟨ls', mem', hI, he⟩ := jr_loop (P := pX5_ringing) (pc := 4) (lm := lm) (fun i ls m => ls = [.ref 62, .ref k, .int (nI (jq_rg mo i)), .int (nI i)] ∧ m = mem) K.1 (by
    intro i ls m hi ⟨hl, hm⟩
    subst hl hm
    have e3 : ¬ K.1 ≤ i := by omega
    have e4 := hM (11 + i) (by omega)
    have e5 := (hw.2.2.2.2.1 i (by omega)).2
    refine ⟨[.ref 62, .ref k, .int (nI (jq_rg mo (i + 1))), .int (nI (i + 1))], m, ⟨rfl, rfl⟩, ?_⟩
    refine Eq.trans ?_ eX5_ringing_34
    have e6 := jq_or (jq_rg_256 (mo := mo) (r := i) (by omega)) (r := i) (by omega)
    by_cases h : mo (11 + i) = 0
    · have e7 : jq_rg mo (i + 1) = jq_rg mo i := by
        show jq_rg mo i ||| _ = _
        rw [if_neg (by omega), Nat.or_zero]
      have e8 : nI (jq_rg mo i) ||| nI 0 = nI (jq_rg mo i) := by
        have hx : ∀ m, m < 256 → nI m ||| nI 0 = nI m := by decide +kernel
        exact hx _ (jq_rg_256 (by omega))
      rw [e7]
      simp (disch := first | assumption | omega) only [eX5_ringing_4, eX5_ringing_5, eX5_ringing_6, eX5_ringing_9, eX5_ringing_12, eX5_ringing_13, eX5_ringing_14, eX5_ringing_16, eX5_ringing_17, eX5_ringing_18, eX5_ringing_19, eX5_ringing_22, eX5_ringing_23, eX5_ringing_24, eX5_ringing_25, eX5_ringing_28, eX5_ringing_29, eX5_ringing_30, eX5_ringing_31, hK.1, e3, e4, h, nI_leI, nI_add, jz_le, if_true, if_false, e8]
    · have e7 : jq_rg mo (i + 1) = jq_rg mo i ||| 1 <<< i := by
        show jq_rg mo i ||| _ = _
        rw [if_pos (by omega)]
      rw [e7]
      simp (disch := first | assumption | omega) only [eX5_ringing_4, eX5_ringing_5, eX5_ringing_6, eX5_ringing_9, eX5_ringing_12, eX5_ringing_13, eX5_ringing_14, eX5_ringing_16, eX5_ringing_17, eX5_ringing_18, eX5_ringing_19, eX5_ringing_22, eX5_ringing_23, eX5_ringing_24, eX5_ringing_25, eX5_ringing_28, eX5_ringing_29, eX5_ringing_30, eX5_ringing_31, hK.1, e3, e4, h, e6, nI_leI, nI_add, jz_le, if_false]) K.1 0 [.ref 62, .ref k, .int (nI 0), .int (nI 0)] mem (by omega) ⟨rfl, rfl⟩
  obtain ⟨rfl, rfl⟩ := hI
  simp only [eX5_ringing, eX5_ringing_0, eX5_ringing_1, eX5_ringing_2, eX5_ringing_3]
  rw [he]
  simp (disch := first | assumption | omega) only [eX5_ringing_4, eX5_ringing_5, eX5_ringing_6, eX5_ringing_9, eX5_ringing_37, eX5_ringing_38, hK.1, nI_leI, Nat.le_refl, if_true]
theorem jq_s120 (a : Nat) (ha : a < 49) (b : Nat) (hb : b < 49) : nI a - nI b + nI 120 = nI (a + 120 - b) := by
  have h : ∀ a, a < 49 → ∀ b, b < 49 → nI a - nI b + nI 120 = nI (a + 120 - b) := by decide +kernel
  exact h a ha b hb
theorem Y_isHarsh {a c : Nat} (hK : jy_K mem K) (hk : jq_WK K) (ha : a < K.1) (hc : c < K.1) : xX5_isHarsh [.ref 62, .int (nI a), .int (nI c)] (jl_w mem lm) = some (some (.int (nI (if jq_cl (K.2.2.1 a) (K.2.2.1 c) = true then 1 else 0))), jl_w mem lm) := by
  have h8 := hk.1
  have p1 := (hk.2.2 a ha).1
  have p2 := (hk.2.2 c hc).1
  have g1 := (hK.2.2 a ha).1
  have g2 := (hK.2.2 c hc).1
  have e12 : ¬ nI 12 = 0 := by decide
  have hs := jq_s120 (K.2.2.1 a) (by omega) (K.2.2.1 c) (by omega)
  have hrem : nI (K.2.2.1 a + 120 - K.2.2.1 c) - nI (K.2.2.1 a + 120 - K.2.2.1 c) / nI 12 * nI 12 = nI ((K.2.2.1 a + 120 - K.2.2.1 c) % 12) := pk_rem (by omega) (by omega) (by omega)
  unfold jq_cl
  have hlt : (K.2.2.1 a + 120 - K.2.2.1 c) % 12 < 12 := Nat.mod_lt _ (by omega)
  simp (disch := first | assumption | omega) only [eX5_isHarsh, eX5_isHarsh_0, eX5_isHarsh_1, eX5_isHarsh_4, eX5_isHarsh_5, eX5_isHarsh_6, eX5_isHarsh_7, eX5_isHarsh_10, eX5_isHarsh_11, eX5_isHarsh_12, eX5_isHarsh_13, eX5_isHarsh_15, eX5_isHarsh_16, eX5_isHarsh_18, eX5_isHarsh_19, g1, g2, hs, hrem]
  generalize (K.2.2.1 a + 120 - K.2.2.1 c) % 12 = u at *
  have hu : u = 0 ∨ u = 1 ∨ u = 2 ∨ u = 3 ∨ u = 4 ∨ u = 5 ∨ u = 6 ∨ u = 7 ∨ u = 8 ∨ u = 9 ∨ u = 10 ∨ u = 11 := by omega
  have hif : ∀ a b : Nat, a < 12 → b < 12 → (nI a = nI b ↔ a = b) := fun a b h1 h2 => nI_eq (by omega) (by omega)
  rcases hu with rfl | rfl | rfl | rfl | rfl | rfl | rfl | rfl | rfl | rfl | rfl | rfl <;> simp (disch := first | assumption | omega) [eX5_isHarsh_20, eX5_isHarsh_21, eX5_isHarsh_22, eX5_isHarsh_25, eX5_isHarsh_26, eX5_isHarsh_27, eX5_isHarsh_30, eX5_isHarsh_31, eX5_isHarsh_33, eX5_isHarsh_36, eX5_isHarsh_37, eX5_isHarsh_39, eX5_isHarsh_42, eX5_isHarsh_43, eX5_isHarsh_45, eX5_isHarsh_48, eX5_isHarsh_49, eX5_isHarsh_52, eX5_isHarsh_53_0, eX5_isHarsh_53_1, nI_eq]
theorem Y_harsh {k : Nat} (hA : jl_A k 19) (hK : jy_K mem K) (hM : jy_M mem k mo) (hk : jq_WK K) (hw : jq_WM K.1 mo) : xX5_harshOf [.ref 62, .ref k] (jl_w mem lm) = some (some (.int (nI (jq_h K mo))), jl_w mem lm) := by
  have h8 := hk.1
  have inner : ∀ a acc, a < K.1 → jr_ev pX5_harshOf 17 [.ref 62, .ref k, .int (nI acc), .int (nI a), .int (nI (a + 1))] [] (jl_w mem lm) = jr_ev pX5_harshOf 17 [.ref 62, .ref k, .int (nI (acc + jq_sum (jq_pr K mo a) K.1)), .int (nI a), .int (nI K.1)] [] (jl_w mem lm) := by
    intro a acc ha
    obtain ⟨ls', mem', hI, he⟩ := jr_loop (P := pX5_harshOf) (pc := 17) (lm := lm) (fun i ls m => ls = [.ref 62, .ref k, .int (nI (acc + jq_sum (jq_pr K mo a) i)), .int (nI a), .int (nI i)] ∧ m = mem ∧ a < i) K.1 (by
      intro i ls m hi ⟨hl, hm, hai⟩
      subst hl hm
      have e3 : ¬ K.1 ≤ i := by omega
      have e4 := hM (11 + i) (by omega)
      have e4a := hM (11 + a) (by omega)
      have e5 := (hw.2.2.2.2.1 i (by omega)).2
      have e5a := (hw.2.2.2.2.1 a (by omega)).2
      have hcl := Y_isHarsh (lm := lm) hK hk ha hi
      refine ⟨[.ref 62, .ref k, .int (nI (acc + jq_sum (jq_pr K mo a) (i + 1))), .int (nI a), .int (nI (i + 1))], m, ⟨rfl, rfl, by omega⟩, ?_⟩
      refine Eq.trans ?_ eX5_harshOf_66
      have es : jq_sum (jq_pr K mo a) (i + 1) = jq_sum (jq_pr K mo a) i + jq_pr K mo a i := rfl
      by_cases h6 : mo (11 + a) = 0
      · have e7 : jq_pr K mo a i = 0 := by unfold jq_pr; rw [if_neg (by omega)]
        rw [es, e7, Nat.add_zero]
        simp (disch := first | assumption | omega) only [eX5_harshOf_17, eX5_harshOf_19, eX5_harshOf_20, eX5_harshOf_23, eX5_harshOf_26, eX5_harshOf_27, eX5_harshOf_28, eX5_harshOf_30, eX5_harshOf_31, eX5_harshOf_32, eX5_harshOf_33, eX5_harshOf_60, eX5_harshOf_61, eX5_harshOf_62, eX5_harshOf_63, hK.1, e3, e4a, h6, nI_leI, nI_add, jz_le, if_true, if_false, Nat.add_zero]
      · by_cases h : mo (11 + i) = 0
        · have e7 : jq_pr K mo a i = 0 := by unfold jq_pr; rw [if_neg (by omega)]
          rw [es, e7, Nat.add_zero]
          simp (disch := first | assumption | omega) only [eX5_harshOf_17, eX5_harshOf_19, eX5_harshOf_20, eX5_harshOf_23, eX5_harshOf_26, eX5_harshOf_27, eX5_harshOf_28, eX5_harshOf_30, eX5_harshOf_31, eX5_harshOf_32, eX5_harshOf_33, eX5_harshOf_36, eX5_harshOf_37, eX5_harshOf_39, eX5_harshOf_41, eX5_harshOf_42, eX5_harshOf_43, eX5_harshOf_60, eX5_harshOf_61, eX5_harshOf_62, eX5_harshOf_63, hK.1, e3, e4, e4a, h, h6, nI_leI, nI_add, jz_le, if_true, if_false, Nat.add_zero]
        · simp (disch := first | assumption | omega) only [eX5_harshOf_17, eX5_harshOf_19, eX5_harshOf_20, eX5_harshOf_23, eX5_harshOf_26, eX5_harshOf_27, eX5_harshOf_28, eX5_harshOf_30, eX5_harshOf_31, eX5_harshOf_32, eX5_harshOf_33, eX5_harshOf_36, eX5_harshOf_37, eX5_harshOf_39, eX5_harshOf_41, eX5_harshOf_42, eX5_harshOf_43, eX5_harshOf_46, eX5_harshOf_47, eX5_harshOf_48, hK.1, e3, e4, e4a, h, h6, nI_leI, nI_add, jz_le, if_false]
          rw [eX5_harshOf_50 hcl]
          by_cases h2 : jq_cl (K.2.2.1 a) (K.2.2.1 i) = true
          · have e7 : jq_pr K mo a i = 1 := by unfold jq_pr; rw [if_pos ⟨hai, by omega, by omega, h2⟩]
            rw [es, e7, ← Nat.add_assoc]
            simp (disch := first | assumption | omega) only [eX5_harshOf_53, eX5_harshOf_56, eX5_harshOf_57, eX5_harshOf_60, eX5_harshOf_61, eX5_harshOf_62, eX5_harshOf_63, h2, nI_add, jz_eq, if_true, if_false, Nat.one_ne_zero]
          · have e7 : jq_pr K mo a i = 0 := by unfold jq_pr; rw [if_neg (fun q => h2 q.2.2.2)]
            rw [es, e7, Nat.add_zero]
            simp (disch := first | assumption | omega) only [eX5_harshOf_53, eX5_harshOf_60, eX5_harshOf_61, eX5_harshOf_62, eX5_harshOf_63, h2, nI_add, jz_eq, if_true, if_false, Bool.false_eq_true, Nat.add_zero]) (K.1 - (a + 1)) (a + 1) [.ref 62, .ref k, .int (nI acc), .int (nI a), .int (nI (a + 1))] mem (by omega) ⟨by rw [jq_sum_z (fun i hi => jq_pr_lo (by omega))]; rfl, rfl, by omega⟩
    obtain ⟨rfl, rfl, -⟩ := hI
    exact he
  obtain ⟨ls', mem', hI, he⟩ := jr_loop (P := pX5_harshOf) (pc := 4) (lm := lm) (fun i ls m => (∃ v, ls = [.ref 62, .ref k, .int (nI (jq_sum (fun a => jq_sum (jq_pr K mo a) K.1) i)), .int (nI i), v]) ∧ m = mem) K.1 (by
    intro i ls m hi ⟨⟨v, hl⟩, hm⟩
    subst hl hm
    have e3 : ¬ K.1 ≤ i := by omega
    have es : jq_sum (fun a => jq_sum (jq_pr K mo a) K.1) (i + 1) = jq_sum (fun a => jq_sum (jq_pr K mo a) K.1) i + jq_sum (jq_pr K mo i) K.1 := rfl
    refine ⟨[.ref 62, .ref k, .int (nI (jq_sum (fun a => jq_sum (jq_pr K mo a) K.1) (i + 1))), .int (nI (i + 1)), .int (nI K.1)], m, ⟨⟨_, rfl⟩, rfl⟩, ?_⟩
    refine Eq.trans ?_ eX5_harshOf_72
    have hin := inner i (jq_sum (fun a => jq_sum (jq_pr K mo a) K.1) i) hi
    simp (disch := first | assumption | omega) only [eX5_harshOf_4, eX5_harshOf_5, eX5_harshOf_6, eX5_harshOf_9, eX5_harshOf_12, eX5_harshOf_13, eX5_harshOf_14, eX5_harshOf_15, hK.1, e3, nI_leI, nI_add, if_false]
    rw [hin, ← es]
    simp (disch := first | assumption | omega) only [eX5_harshOf_17, eX5_harshOf_19, eX5_harshOf_20, eX5_harshOf_23, eX5_harshOf_69, hK.1, nI_leI, nI_add, Nat.le_refl, if_true]) K.1 0 [.ref 62, .ref k, .int (nI 0), .int (nI 0), .null] mem (by omega) ⟨⟨_, rfl⟩, rfl⟩
  obtain ⟨⟨v, rfl⟩, rfl⟩ := hI
  simp only [eX5_harshOf, eX5_harshOf_0, eX5_harshOf_1, eX5_harshOf_2, eX5_harshOf_3]
  rw [he]
  simp (disch := first | assumption | omega) only [eX5_harshOf_4, eX5_harshOf_5, eX5_harshOf_6, eX5_harshOf_9, eX5_harshOf_75, eX5_harshOf_76, hK.1, nI_leI, Nat.le_refl, if_true]
  rfl
end YB

theorem jz_le {v : Nat} (h : v < 2 ^ 31) : nI v ≤ 0 ↔ v = 0 := by
  rw [← nI_0, nI_leI h (by decide)]; omega
theorem jz_lt {v : Nat} (h : v < 2 ^ 31) : nI v < 0 ↔ False := ⟨fun q => nI_pos h q, False.elim⟩
theorem jz_eq {v : Nat} (h : v < 2 ^ 31) : nI v = 0 ↔ v = 0 := by
  rw [← nI_0, nI_eq h (by decide)]
theorem jz_ge {v : Nat} (h : v < 2 ^ 31) : 0 ≤ nI v ↔ True := ⟨fun _ => trivial, fun _ => nI_pos' h⟩
theorem jz_gt {v : Nat} (h : v < 2 ^ 31) : 0 < nI v ↔ 0 < v := by
  rw [← nI_0, nI_ltI (by decide) h]
theorem jq_or {m r : Nat} (hm : m < 256) (hr : r < 8) : nI m ||| (nI 1 <<< (nI r &&& 31)) = nI (m ||| 1 <<< r) := by
  have h : ∀ m, m < 256 → ∀ r, r < 8 → nI m ||| (nI 1 <<< (nI r &&& 31)) = nI (m ||| 1 <<< r) := by decide +kernel
  exact h m hm r hr
theorem jq_rg_lt {mo : jq_M} : ∀ r, jq_rg mo r < 2 ^ r
  | 0 => Nat.zero_lt_one
  | r + 1 => by
    have h := jq_rg_lt (mo := mo) r
    unfold jq_rg
    have h1 : (2:Nat) ^ r < 2 ^ (r + 1) := by rw [Nat.pow_succ]; have : 0 < 2 ^ r := Nat.pow_pos (by omega); omega
    apply Nat.or_lt_two_pow
    · omega
    · split
      · rw [Nat.one_shiftLeft]; exact h1
      · omega
theorem jq_rg_256 {mo : jq_M} {r : Nat} (h : r ≤ 8) : jq_rg mo r < 256 :=
  Nat.lt_of_lt_of_le (jq_rg_lt r) (by rw [show (256:Nat) = 2 ^ 8 from rfl]; exact Nat.pow_le_pow_right (by omega) h)
theorem jm_ringing {b : Nat} {K : jq_K} {mo : jq_M} {mem : jl_M} {lm : jl_L} (hb : jl_K b = 4) (hK : jx_K mem K) (hM : jx_M mem b mo) (hk : jq_WK K) (hw : jq_WM K.1 mo) : xX1_ringing [.ref b] (jl_w mem lm) = some (some (.int (nI (jq_rg mo K.1))), jl_w mem lm) := by
  obtain ⟨hA, hB, hb1, hb2⟩ := jl_mA hb
  have h8 := hk.1
  have hK7 : jl_K 7 = 5 := rfl
  obtain ⟨ls', mem', hI, he⟩ := jr_loop (P := pX1_ringing) (pc := 4) (lm := lm) (fun i ls m => ls = [.ref b, .int (nI (jq_rg mo i)), .int (nI i)] ∧ m = mem) K.1 (by
    intro i ls m hi ⟨hl, hm⟩
    subst hl hm
    have e3 : ¬ K.1 ≤ i := by omega
    have e4 := hM.2.2.2.2 i (by omega)
    have e5 := (hw.2.2.2.2.1 i (by omega)).2
    refine ⟨_, _, ⟨rfl, rfl⟩, ?_⟩
    refine Eq.trans ?_ eX1_ringing_33
    have e6 := jq_or (jq_rg_256 (mo := mo) (r := i) (by omega)) (r := i) (by omega)
    by_cases h : mo (11 + i) = 0
    · have e7 : jq_rg mo (i + 1) = jq_rg mo i := by
        show jq_rg mo i ||| _ = _
        rw [if_neg (by omega), Nat.or_zero]
      rw [e7]
      simp (disch := first | assumption | omega) only [eX1_ringing_4, eX1_ringing_5, eX1_ringing_6, eX1_ringing_9, eX1_ringing_12, eX1_ringing_15, eX1_ringing_16, eX1_ringing_19, eX1_ringing_20, eX1_ringing_21, eX1_ringing_24, eX1_ringing_25, eX1_ringing_26, eX1_ringing_27, eX1_ringing_28, eX1_ringing_29, eX1_ringing_30, hK.1, e3, e4, h, nI_leI, nI_add, jz_le, if_true, if_false]
    · have e7 : jq_rg mo (i + 1) = jq_rg mo i ||| 1 <<< i := by
        show jq_rg mo i ||| _ = _
        rw [if_pos (by omega)]
      rw [e7]
      simp (disch := first | assumption | omega) only [eX1_ringing_4, eX1_ringing_5, eX1_ringing_6, eX1_ringing_9, eX1_ringing_12, eX1_ringing_15, eX1_ringing_16, eX1_ringing_19, eX1_ringing_20, eX1_ringing_21, eX1_ringing_24, eX1_ringing_25, eX1_ringing_26, eX1_ringing_27, eX1_ringing_28, eX1_ringing_29, eX1_ringing_30, hK.1, e3, e4, h, e6, nI_leI, nI_add, jz_le, if_true, if_false]) K.1 0 [.ref b, .int (nI 0), .int (nI 0)] mem (by omega) ⟨rfl, rfl⟩
  obtain ⟨rfl, rfl⟩ := hI
  simp only [eX1_ringing, eX1_ringing_0, eX1_ringing_1, eX1_ringing_2, eX1_ringing_3]
  rw [he]
  simp (disch := first | assumption | omega) only [eX1_ringing_4, eX1_ringing_5, eX1_ringing_6, eX1_ringing_9, eX1_ringing_12, eX1_ringing_36, eX1_ringing_37, hK.1, nI_leI, Nat.le_refl, if_true]
theorem jm_still {b : Nat} {K : jq_K} {mo : jq_M} {mem : jl_M} {lm : jl_L} (hb : jl_K b = 4) (hK : jx_K mem K) (hM : jx_M mem b mo) (hk : jq_WK K) (hw : jq_WM K.1 mo) : xX1_isStill [.ref b] (jl_w mem lm) = some (some (.int (nI (if mo 2 = 0 ∧ jq_rg mo K.1 = 0 then 1 else 0))), jl_w mem lm) := by
  have hr := jm_ringing (lm := lm) hb hK hM hk hw
  have h9 := hw.2.1
  have h8 := jq_rg_256 (mo := mo) hk.1
  by_cases h1 : mo 2 = 0
  · simp (disch := first | assumption | omega) only [eX1_isStill, eX1_isStill_0, eX1_isStill_1, eX1_isStill_4, eX1_isStill_7, hM.2.2.1, jz_eq, h1, if_true, true_and]
    rw [eX1_isStill_8 hb hr]
    by_cases h2 : jq_rg mo K.1 = 0
    · simp (disch := first | assumption | omega) only [eX1_isStill_11, eX1_isStill_14, eX1_isStill_15, eX1_isStill_18, eX1_isStill_19_0, eX1_isStill_19_1, jz_eq, h2, if_true]
    · simp (disch := first | assumption | omega) only [eX1_isStill_11, eX1_isStill_14, eX1_isStill_15, eX1_isStill_18, eX1_isStill_19_0, eX1_isStill_19_1, jz_eq, h2, if_false]
  · simp (disch := first | assumption | omega) only [eX1_isStill, eX1_isStill_0, eX1_isStill_1, eX1_isStill_4, eX1_isStill_7, eX1_isStill_8, eX1_isStill_11, eX1_isStill_14, eX1_isStill_15, eX1_isStill_18, eX1_isStill_19_0, eX1_isStill_19_1, hM.2.2.1, jz_eq, h1, if_false, false_and]
theorem jq_sw (u : Nat) (h : u < 12) : (if (nI u).toInt < 1 then 110 else (([108, 108, 110, 110, 110, 108, 110, 110, 110, 108, 108] : List Nat)[((nI u).toInt - 1).toNat]?).getD 110) = if ([1, 2, 6, 10, 11] : List Nat).contains u = true then 108 else 110 := by
  have h1 : ∀ u, u < 12 → (if (nI u).toInt < 1 then 110 else (([108, 108, 110, 110, 110, 108, 110, 110, 110, 108, 108] : List Nat)[((nI u).toInt - 1).toNat]?).getD 110) = if ([1, 2, 6, 10, 11] : List Nat).contains u = true then 108 else 110 := by decide +kernel
  exact h1 u h
theorem jq_cl_abs (p : Nat) (hp : p < 49) (q : Nat) (hq : q < 49) : ([1, 2, 6, 10, 11] : List Nat).contains ((if p < q then q - p else p - q) % 12) = jq_cl p q := by
  have h : ∀ p, p < 49 → ∀ q, q < 49 → ([1, 2, 6, 10, 11] : List Nat).contains ((if p < q then q - p else p - q) % 12) = jq_cl p q := by decide +kernel
  exact h p hp q hq
theorem jm_clash {a c : Nat} {K : jq_K} {mem : jl_M} {lm : jl_L} (hK : jx_K mem K) (hk : jq_WK K) (ha : a < K.1) (hc : c < K.1) : xX2_clash [.ref 7, .int (nI a), .int (nI c)] (jl_w mem lm) = some (some (.int (nI (if jq_cl (K.2.2.1 a) (K.2.2.1 c) = true then 1 else 0))), jl_w mem lm) := by
  have h8 := hk.1
  have hK7 : jl_K 7 = 5 := rfl
  have hA : jl_A (7 + 1) 8 := ⟨rfl, rfl⟩
  have p1 := (hk.2.2 a ha).1
  have p2 := (hk.2.2 c hc).1
  have g1 := (hK.2.2 a ha).1
  have g2 := (hK.2.2 c hc).1
  rw [← jq_cl_abs _ (by omega) _ (by omega)]
  have e12 : ¬ nI 12 = 0 := by decide
  have hmod : (if K.2.2.1 a < K.2.2.1 c then K.2.2.1 c - K.2.2.1 a else K.2.2.1 a - K.2.2.1 c) % 12 < 12 := Nat.mod_lt _ (by decide)
  by_cases h : K.2.2.1 a < K.2.2.1 c
  · have h' : ¬ K.2.2.1 c ≤ K.2.2.1 a := by omega
    rw [if_pos h] at hmod ⊢
    simp (disch := first | assumption | omega) only [eX2_clash, eX2_clash_0, eX2_clash_1, eX2_clash_4, eX2_clash_5, eX2_clash_6, eX2_clash_7, eX2_clash_10, eX2_clash_11, eX2_clash_12, eX2_clash_15, eX2_clash_16, eX2_clash_19, eX2_clash_20, eX2_clash_21, eX2_clash_22, eX2_clash_25, eX2_clash_26, eX2_clash_27, eX2_clash_28, eX2_clash_31, eX2_clash_32, eX2_clash_35, eX2_clash_36, eX2_clash_37, eX2_clash_38, eX2_clash_41, eX2_clash_42, eX2_clash_43, eX2_clash_44, eX2_clash_45, eX2_clash_46, eX2_clash_48, g1, g2, nI_leI, h', if_false, pk_sub, pk_rem]
    rw [eX2_clash_49, jq_sw _ hmod]
    split
    · simp only [eX2_clash_108, eX2_clash_109_0, eX2_clash_109_1]
    · simp only [eX2_clash_110, eX2_clash_111_0, eX2_clash_111_1]
  · have h' : K.2.2.1 c ≤ K.2.2.1 a := by omega
    rw [if_neg h] at hmod ⊢
    simp (disch := first | assumption | omega) only [eX2_clash, eX2_clash_0, eX2_clash_1, eX2_clash_4, eX2_clash_5, eX2_clash_6, eX2_clash_7, eX2_clash_10, eX2_clash_11, eX2_clash_12, eX2_clash_15, eX2_clash_16, eX2_clash_19, eX2_clash_20, eX2_clash_21, eX2_clash_22, eX2_clash_25, eX2_clash_26, eX2_clash_27, eX2_clash_28, eX2_clash_31, eX2_clash_32, eX2_clash_35, eX2_clash_36, eX2_clash_37, eX2_clash_38, eX2_clash_41, eX2_clash_42, eX2_clash_43, eX2_clash_44, eX2_clash_45, eX2_clash_46, eX2_clash_48, g1, g2, nI_leI, h', if_true, pk_sub, pk_rem]
    rw [eX2_clash_49, jq_sw _ hmod]
    split
    · simp only [eX2_clash_108, eX2_clash_109_0, eX2_clash_109_1]
    · simp only [eX2_clash_110, eX2_clash_111_0, eX2_clash_111_1]
theorem jq_pr_lo {K : jq_K} {mo : jq_M} {a c : Nat} (h : c ≤ a) : jq_pr K mo a c = 0 := by unfold jq_pr; rw [if_neg (by omega)]
theorem jm_harsh {b : Nat} {K : jq_K} {mo : jq_M} {mem : jl_M} {lm : jl_L} (hb : jl_K b = 4) (hK : jx_K mem K) (hM : jx_M mem b mo) (hk : jq_WK K) (hw : jq_WM K.1 mo) : xX1_harsh [.ref b] (jl_w mem lm) = some (some (.int (nI (jq_h K mo))), jl_w mem lm) := by
  obtain ⟨hA, hB, hb1, hb2⟩ := jl_mA hb
  have h8 := hk.1
  have hK7 : jl_K 7 = 5 := rfl
  have inner : ∀ a acc, a < K.1 → 0 < mo (11 + a) → jr_ev pX1_harsh 19 [.ref b, .int (nI acc), .int (nI a), .int (nI (a + 1))] [] (jl_w mem lm) = jr_ev pX1_harsh 19 [.ref b, .int (nI (acc + jq_sum (jq_pr K mo a) K.1)), .int (nI a), .int (nI K.1)] [] (jl_w mem lm) := by
    intro a acc ha hpos
    obtain ⟨ls', mem', hI, he⟩ := jr_loop (P := pX1_harsh) (pc := 19) (lm := lm) (fun i ls m => ls = [.ref b, .int (nI (acc + jq_sum (jq_pr K mo a) i)), .int (nI a), .int (nI i)] ∧ m = mem ∧ a < i) K.1 (by
      intro i ls m hi ⟨hl, hm, hai⟩
      subst hl hm
      have e3 : ¬ K.1 ≤ i := by omega
      have e4 := hM.2.2.2.2 i (by omega)
      have e4a := hM.2.2.2.2 a (by omega)
      have e5 := (hw.2.2.2.2.1 i (by omega)).2
      have e5a := (hw.2.2.2.2.1 a (by omega)).2
      have e6 : ¬ mo (11 + a) = 0 := by omega
      have hcl := jm_clash (lm := lm) hK hk ha hi
      refine ⟨[.ref b, .int (nI (acc + jq_sum (jq_pr K mo a) (i + 1))), .int (nI a), .int (nI (i + 1))], m, ⟨rfl, rfl, by omega⟩, ?_⟩
      refine Eq.trans ?_ eX1_harsh_66
      have es : jq_sum (jq_pr K mo a) (i + 1) = jq_sum (jq_pr K mo a) i + jq_pr K mo a i := rfl
      by_cases h : mo (11 + i) = 0
      · have e7 : jq_pr K mo a i = 0 := by unfold jq_pr; rw [if_neg (by omega)]
        rw [es, e7, Nat.add_zero]
        simp (disch := first | assumption | omega) only [eX1_harsh_19, eX1_harsh_20, eX1_harsh_21, eX1_harsh_24, eX1_harsh_27, eX1_harsh_30, eX1_harsh_31, eX1_harsh_34, eX1_harsh_35, eX1_harsh_36, eX1_harsh_39, eX1_harsh_40, eX1_harsh_43, eX1_harsh_44, eX1_harsh_45, eX1_harsh_63, hK.1, e3, e4, e4a, h, e6, nI_leI, nI_add, jz_le, if_true, if_false]
      · simp (disch := first | assumption | omega) only [eX1_harsh_19, eX1_harsh_20, eX1_harsh_21, eX1_harsh_24, eX1_harsh_27, eX1_harsh_30, eX1_harsh_31, eX1_harsh_34, eX1_harsh_35, eX1_harsh_36, eX1_harsh_39, eX1_harsh_40, eX1_harsh_43, eX1_harsh_44, eX1_harsh_45, eX1_harsh_48, eX1_harsh_49, eX1_harsh_52, eX1_harsh_53, hK.1, e3, e4, e4a, h, e6, nI_leI, jz_le, if_true, if_false]
        rw [eX1_harsh_54 hcl]
        by_cases h2 : jq_cl (K.2.2.1 a) (K.2.2.1 i) = true
        · have e7 : jq_pr K mo a i = 1 := by unfold jq_pr; rw [if_pos ⟨hai, hpos, by omega, h2⟩]
          rw [es, e7, ← Nat.add_assoc]
          simp (disch := first | assumption | omega) only [eX1_harsh_57, eX1_harsh_60, eX1_harsh_63, h2, nI_add, jz_eq, if_true, if_false, Nat.one_ne_zero]
        · have e7 : jq_pr K mo a i = 0 := by unfold jq_pr; rw [if_neg (fun q => h2 q.2.2.2)]
          rw [es, e7, Nat.add_zero]
          simp (disch := first | assumption | omega) only [eX1_harsh_57, eX1_harsh_63, h2, nI_add, jz_eq, if_true, if_false, Bool.false_eq_true]) (K.1 - (a + 1)) (a + 1) [.ref b, .int (nI acc), .int (nI a), .int (nI (a + 1))] mem (by omega) ⟨by rw [jq_sum_z (fun i hi => jq_pr_lo (by omega))]; rfl, rfl, by omega⟩
    obtain ⟨rfl, rfl, -⟩ := hI
    exact he
  obtain ⟨ls', mem', hI, he⟩ := jr_loop (P := pX1_harsh) (pc := 4) (lm := lm) (fun i ls m => (∃ v, ls = [.ref b, .int (nI (jq_sum (fun a => jq_sum (jq_pr K mo a) K.1) i)), .int (nI i), v]) ∧ m = mem) K.1 (by
    intro i ls m hi ⟨⟨v, hl⟩, hm⟩
    subst hl hm
    have e3 : ¬ K.1 ≤ i := by omega
    have e4 := hM.2.2.2.2 i (by omega)
    have e5 := (hw.2.2.2.2.1 i (by omega)).2
    have es : jq_sum (fun a => jq_sum (jq_pr K mo a) K.1) (i + 1) = jq_sum (fun a => jq_sum (jq_pr K mo a) K.1) i + jq_sum (jq_pr K mo i) K.1 := rfl
    by_cases h : mo (11 + i) = 0
    · have e7 : jq_sum (jq_pr K mo i) K.1 = 0 := jq_sum_z (fun c _ => by unfold jq_pr; rw [if_neg (by omega)])
      refine ⟨[.ref b, .int (nI (jq_sum (fun a => jq_sum (jq_pr K mo a) K.1) (i + 1))), .int (nI (i + 1)), .int (nI (i + 1))], m, ⟨⟨_, rfl⟩, rfl⟩, ?_⟩
      refine Eq.trans ?_ eX1_harsh_72
      rw [es, e7, Nat.add_zero]
      by_cases h5 : K.1 ≤ i + 1
      · simp (disch := first | assumption | omega) only [eX1_harsh_4, eX1_harsh_5, eX1_harsh_6, eX1_harsh_9, eX1_harsh_12, eX1_harsh_15, eX1_harsh_16, eX1_harsh_17, eX1_harsh_18, eX1_harsh_19, eX1_harsh_20, eX1_harsh_21, eX1_harsh_24, eX1_harsh_27, eX1_harsh_69, hK.1, e3, h5, nI_leI, nI_add, if_true, if_false]
      · simp (disch := first | assumption | omega) only [eX1_harsh_4, eX1_harsh_5, eX1_harsh_6, eX1_harsh_9, eX1_harsh_12, eX1_harsh_15, eX1_harsh_16, eX1_harsh_17, eX1_harsh_18, eX1_harsh_19, eX1_harsh_20, eX1_harsh_21, eX1_harsh_24, eX1_harsh_27, eX1_harsh_30, eX1_harsh_31, eX1_harsh_34, eX1_harsh_35, eX1_harsh_36, eX1_harsh_69, hK.1, e3, h5, e4, h, jz_le, nI_leI, nI_add, if_true, if_false]
    · refine ⟨[.ref b, .int (nI (jq_sum (fun a => jq_sum (jq_pr K mo a) K.1) (i + 1))), .int (nI (i + 1)), .int (nI K.1)], m, ⟨⟨_, rfl⟩, rfl⟩, ?_⟩
      refine Eq.trans ?_ eX1_harsh_72
      have hin := inner i (jq_sum (fun a => jq_sum (jq_pr K mo a) K.1) i) hi (by omega)
      simp (disch := first | assumption | omega) only [eX1_harsh_4, eX1_harsh_5, eX1_harsh_6, eX1_harsh_9, eX1_harsh_12, eX1_harsh_15, eX1_harsh_16, eX1_harsh_17, eX1_harsh_18, hK.1, e3, nI_leI, nI_add, if_false]
      rw [hin, ← es]
      simp (disch := first | assumption | omega) only [eX1_harsh_19, eX1_harsh_20, eX1_harsh_21, eX1_harsh_24, eX1_harsh_27, eX1_harsh_69, hK.1, nI_leI, nI_add, Nat.le_refl, if_true]) K.1 0 [.ref b, .int (nI 0), .int (nI 0), .null] mem (by omega) ⟨⟨_, rfl⟩, rfl⟩
  obtain ⟨⟨v, rfl⟩, rfl⟩ := hI
  simp only [eX1_harsh, eX1_harsh_0, eX1_harsh_1, eX1_harsh_2, eX1_harsh_3]
  rw [he]
  simp (disch := first | assumption | omega) only [eX1_harsh_4, eX1_harsh_5, eX1_harsh_6, eX1_harsh_9, eX1_harsh_12, eX1_harsh_75, eX1_harsh_76, hK.1, nI_leI, Nat.le_refl, if_true]
  rfl

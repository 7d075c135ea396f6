section XM
variable {mem : jl_M} {lm : jl_L} {tx : jq_X} {K : jq_K} {mo : jq_M} {un : List jq_M} {im : Nat → Option jq_M} {hd : jq_H} {tr : Int64}
theorem X_take {q : jp_Q} (hQ : jX_Q mem q) (hW : jp_W q) : ∃ mem', xX2_take [.ref 7, .ref 3] (jl_w mem lm) = some (none, jl_w mem' lm) ∧ jx_K mem' q.2.1 ∧ jl_F (fun k => 7 ≤ k ∧ k ≤ 10) mem mem' := by
  obtain ⟨c1, c2, c3, c4, c5, c6, c7⟩ := hQ
  have h8 := hW.2.1
  have h5 : jl_K 3 = 5 := rfl
  have h7 : jl_K 7 = 5 := rfl
  have hA1 : jl_A 4 8 := ⟨rfl, rfl⟩
  have hA2 : jl_A 5 8 := ⟨rfl, rfl⟩
  have hA3 : jl_A 6 8 := ⟨rfl, rfl⟩
  have hB1 : jl_A 8 8 := ⟨rfl, rfl⟩
  have hB2 : jl_A 9 8 := ⟨rfl, rfl⟩
  have hB3 : jl_A 10 8 := ⟨rfl, rfl⟩
  obtain ⟨ls', mem', hI, he⟩ := jr_loop (P := pX2_take) (pc := 18) (lm := lm) (fun i ls m => ls = [.ref 7, .ref 3, .int (nI i)] ∧ m 7 0 = nI q.2.1.1 ∧ m 7 1 = nI q.2.1.2.1 ∧ (∀ r, r < i → m 8 r = mem 4 r ∧ m 9 r = mem 5 r ∧ m 10 r = mem 6 r) ∧ jl_F (fun k => 7 ≤ k ∧ k ≤ 10) mem m) 8 (by
    intro i ls m hi ⟨hl, h1, h2, h4, h5'⟩
    subst hl
    have e3 : ¬ 8 ≤ i := by omega
    have g4 : m 4 = mem 4 := h5' 4 (by omega)
    have g5 : m 5 = mem 5 := h5' 5 (by omega)
    have g6 : m 6 = mem 6 := h5' 6 (by omega)
    refine ⟨[.ref 7, .ref 3, .int (nI (i + 1))], jl_s (jl_s (jl_s m 8 i (mem 4 i)) 9 i (mem 5 i)) 10 i (mem 6 i), ⟨rfl, ?_, ?_, fun r hr => ?_, fun k hk => ?_⟩, ?_⟩
    · rw [js_mk (by omega), js_mk (by omega), js_mk (by omega), h1]
    · rw [js_mk (by omega), js_mk (by omega), js_mk (by omega), h2]
    · by_cases e : r = i
      · rw [e]
        refine ⟨?_, ?_, ?_⟩
        · rw [js_mk (by omega), js_mk (by omega), js_hit]
        · rw [js_mk (by omega), js_hit]
        · rw [js_hit]
      · obtain ⟨b1, b2, b3⟩ := h4 r (by omega)
        refine ⟨?_, ?_, ?_⟩
        · rw [js_mk (by omega), js_mk (by omega), js_mj e, b1]
        · rw [js_mk (by omega), js_mj e, js_mk (by omega), b2]
        · rw [js_mj e, js_mk (by omega), js_mk (by omega), b3]
    · rw [js_ne (by omega), js_ne (by omega), js_ne (by omega)]
      exact h5' k hk
    · refine Eq.trans ?_ eX2_take_63
      have q2 : ∀ x, jl_s m 8 i x 5 i = mem 5 i := fun x => by rw [js_mk (by omega), g5]
      have q3 : ∀ x y, jl_s (jl_s m 8 i x) 9 i y 6 i = mem 6 i := fun x y => by rw [js_mk (by omega), js_mk (by omega), g6]
      simp (disch := first | assumption | omega) only [eX2_take_18, eX2_take_19, eX2_take_21, eX2_take_24, eX2_take_25, eX2_take_28, eX2_take_29, eX2_take_30, eX2_take_33, eX2_take_34, eX2_take_35, eX2_take_36, eX2_take_37, eX2_take_40, eX2_take_41, eX2_take_42, eX2_take_45, eX2_take_46, eX2_take_47, eX2_take_48, eX2_take_49, eX2_take_52, eX2_take_53, eX2_take_54, eX2_take_57, eX2_take_58, eX2_take_59, eX2_take_60, nI_leI, e3, if_false, g4, q2, q3, nI_add, Nat.reduceAdd]) 8 0 [.ref 7, .ref 3, .int (nI 0)] (jl_s (jl_s mem 7 0 (nI q.2.1.1)) 7 1 (nI q.2.1.2.1)) (by omega) ⟨rfl, by simp [js_at], by simp [js_at], fun r hr => absurd hr (by omega), fun k hk => by rw [js_ne (by omega), js_ne (by omega)]⟩
  obtain ⟨rfl, g1, g2, g3, g4⟩ := hI
  refine ⟨mem', ?_, ⟨g1, g2, fun r hr => ?_⟩, g4⟩
  · have q1 : ∀ x, jl_s mem 7 0 x 3 1 = nI q.2.1.2.1 := fun x => by rw [js_mk (by omega), c2]
    simp (disch := first | assumption | omega) only [eX2_take, eX2_take_0, eX2_take_1, eX2_take_2, eX2_take_5, eX2_take_8, eX2_take_9, eX2_take_10, eX2_take_13, eX2_take_16, eX2_take_17, c1, q1]
    rw [he]
    simp (disch := first | assumption | omega) only [eX2_take_18, eX2_take_19, eX2_take_21, eX2_take_66, nI_leI, Nat.le_refl, if_true]
  · obtain ⟨b1, b2, b3⟩ := g3 r (by omega)
    obtain ⟨d1, d2, d3⟩ := c3 r hr
    exact ⟨b1.trans d1, b2.trans d2, b3.trans d3⟩
theorem jX.rd {mem' : jl_M} (h : jX mem lm tx K mo un im hd tr) (hr : jl_rd mem mem') : jX mem' lm tx K mo un im hd tr := by
  obtain ⟨a1, a2, a3, a4, a5, a6, a7⟩ := h
  have f : ∀ k, k ≠ 1 → ¬ (3 ≤ k ∧ k ≤ 6) → mem' k = mem k := hr.1
  exact ⟨a1.rd hr, a2.keep (f 7 (by omega) (by omega)) (f 8 (by omega) (by omega)) (f 9 (by omega) (by omega)) (f 10 (by omega) (by omega)), a3.keep (f 11 (by omega) (by omega)) (f 12 (by omega) (by omega)) (f 13 (by omega) (by omega)), a4.keep (by rw [f 0 (by omega) (by omega)]) (by rw [f 0 (by omega) (by omega)]) (fun k h1 h2 => f k (by omega) (by omega)), a5.keep (f 21 (by omega) (by omega)) (fun k h1 h2 => f k (by omega) (by omega)), a6.keep (by rw [f 0 (by omega) (by omega)]) (f 22 (by omega) (by omega)) (f 23 (by omega) (by omega)) (f 24 (by omega) (by omega)), a7⟩
theorem jp_R_le {q : jp_Q} {f : Nat} : ∀ k i, i + k = tx.1 → jp_R tx k i q = .inl f → f ≤ tx.1 := by
  intro k
  induction k generalizing q with
  | zero =>
    intro i hi h
    unfold jp_R jp_end at h
    split at h
    · cases h
    · cases h; omega
  | succ k ih =>
    intro i hi h
    unfold jp_R at h
    split at h
    · split at h
      · cases h; omega
      · exact ih (i + 1) (by omega) h
    · exact ih (i + 1) (by omega) h
theorem X_chime_f {f : Nat} (h : jX mem lm tx K mo un im hd tr) (hL : tx.1 ≤ 120 ∧ ∀ i, i < tx.1 → tx.2 i ≤ 255) (hf : jp_R tx tx.1 0 jp_z = .inl f) : ∃ mem', xX4_chime [.ref 0] (jl_w mem lm) = some (some (.int (-10 - nI f)), jl_w mem' lm) ∧ jX mem' lm tx K mo un im hd tr ∧ jl_hi mem mem' := by
  obtain ⟨m1, e1, r1, f1⟩ := X_read (lm := lm) h.1 hL
  rw [hf] at e1
  have hle := jp_R_le tx.1 0 (by omega) hf
  refine ⟨m1, ?_, h.rd f1, fun k hk => f1.1 k (by omega) (by omega)⟩
  have hne : ¬ nI f = -1 := by
    intro q
    have := congrArg Int32.toInt q
    rw [nI_toInt (by omega)] at this
    have h2 : (-1 : Int32).toInt = -1 := by decide
    omega
  simp only [eX4_chime, eX4_chime_0, eX4_chime_1]
  rw [eX4_chime_4 e1]
  simp only [eX4_chime_7, eX4_chime_8, eX4_chime_9, eX4_chime_10, eX4_chime_13, eX4_chime_15, eX4_chime_16, eX4_chime_17, hne, if_false]
theorem X_chime_o {q : jp_Q} (h : jX mem lm tx K mo un im hd tr) (hL : tx.1 ≤ 120 ∧ ∀ i, i < tx.1 → tx.2 i ≤ 255) (hq : jp_R tx tx.1 0 jp_z = .inr q) : ∃ mem', xX4_chime [.ref 0] (jl_w mem lm) = some (some (.int (nI q.2.2.1)), jl_w mem' lm) ∧ jX mem' lm (0, tx.2) q.2.1 jq_m0 [] (fun _ => none) (0, hd.2) tr ∧ jl_hi mem mem' := by
  obtain ⟨m1, e1, r1, f1⟩ := X_read (lm := lm) h.1 hL
  have e1 : xX3_read [.ref 1] (jl_w mem lm) = some (some (.int (-1)), jl_w m1 lm) := by rw [hq] at e1; exact e1
  obtain ⟨Q1, W1⟩ := r1 q hq
  obtain ⟨m2, e2, K2, f2⟩ := X_take (lm := lm) Q1 W1
  obtain ⟨m3, e3, M3, f3⟩ := jm_start (b := 11) (mem := m2) (lm := lm) rfl
  have hR : ∀ k, ¬ (3 ≤ k ∧ k ≤ 13) → k ≠ 1 → m3 k = mem k := fun k h1 h2 => by rw [f3 k (by omega), f2 k (by omega), f1.1 k h2 (by omega)]
  have hR1 : m3 1 = m1 1 := by rw [f3 1 (by omega), f2 1 (by omega)]
  obtain ⟨a1, a2, a3, ⟨p, p1, p2, p3, p4⟩, a5, a6, a7⟩ := h
  have hrow : ∀ k, k ≠ 0 → k ≠ 1 → k ≠ 21 → jl_s (jl_s (jl_s (jl_s (jl_s m3 1 1 (nI 0)) 0 12 (nI 0)) 0 6 (nI 0)) 21 0 (nI 0)) 21 1 (nI 0) k = m3 k := fun k h0 h1 h21 => by rw [js_ne h21, js_ne h21, js_ne h0, js_ne h0, js_ne h1]
  refine ⟨jl_s (jl_s (jl_s (jl_s (jl_s m3 1 1 (nI 0)) 0 12 (nI 0)) 0 6 (nI 0)) 21 0 (nI 0)) 21 1 (nI 0), ?_, ⟨⟨?_, fun i hi => absurd hi (Nat.not_lt_zero _)⟩, K2.keep ?_ ?_ ?_ ?_, M3.keep ?_ ?_ ?_, ⟨p, p1, ?_, ?_, fun i m hm => by simp at hm⟩, fun i hi => ⟨fun _ => ?_, fun m hm => by simp at hm⟩, ⟨?_, fun i hi => absurd hi (Nat.not_lt_zero _)⟩, a7⟩, fun k hk => ?_⟩
  · have c13 : jl_s (jl_s (jl_s (jl_s (jl_s m3 1 1 (nI 0)) 0 12 (nI 0)) 0 6 (nI 0)) 21 0 (nI 0)) 21 1 (nI 0) 1 3 = nI q.2.2.1 := by
      rw [js_mk (by omega), js_mk (by omega), js_mk (by omega), js_mk (by omega), js_mj (by omega), hR1]
      exact Q1.2.2.2.1
    have n1 : ¬ 2 ≤ 0 := by omega
    have n2 : ¬ 2 ≤ 1 := by omega
    simp only [eX4_chime, eX4_chime_0, eX4_chime_1]
    rw [eX4_chime_4 e1]
    simp only [eX4_chime_7, eX4_chime_8, eX4_chime_9, eX4_chime_10, eX4_chime_18, eX4_chime_19, eX4_chime_22, eX4_chime_23, eX4_chime_26, if_true]
    rw [eX4_chime_29 e2]
    simp only [eX4_chime_32, eX4_chime_33]
    rw [eX4_chime_36 e3]
    simp (disch := first | assumption | omega) only [eX4_chime_39, eX4_chime_40, eX4_chime_43, eX4_chime_44, eX4_chime_47, eX4_chime_48, eX4_chime_49, eX4_chime_52, eX4_chime_53, eX4_chime_54, eX4_chime_57, eX4_chime_58, eX4_chime_59, eX4_chime_60, eX4_chime_61, eX4_chime_64, eX4_chime_65, eX4_chime_68, eX4_chime_69, eX4_chime_70_0, eX4_chime_70_1, eX4_chime_71, nI_leI, n1, if_false, nI_add, Nat.reduceAdd]
    rw [eX4_chime_74]
    simp (disch := first | assumption | omega) only [eX4_chime_59, eX4_chime_60, eX4_chime_61, eX4_chime_64, eX4_chime_65, eX4_chime_68, eX4_chime_69, eX4_chime_70_0, eX4_chime_70_1, eX4_chime_71, nI_leI, n2, if_false, nI_add, Nat.reduceAdd]
    rw [eX4_chime_74]
    simp (disch := first | assumption | omega) only [eX4_chime_59, eX4_chime_60, eX4_chime_61, eX4_chime_77, eX4_chime_78, eX4_chime_81, eX4_chime_84, nI_leI, Nat.le_refl, if_true, c13]
  · rw [js_mk (by omega), js_mk (by omega), js_mk (by omega), js_mk (by omega), js_hit]
  · rw [hrow _ (by omega) (by omega) (by omega), f3 _ (by omega)]
  · rw [hrow _ (by omega) (by omega) (by omega), f3 _ (by omega)]
  · rw [hrow _ (by omega) (by omega) (by omega), f3 _ (by omega)]
  · rw [hrow _ (by omega) (by omega) (by omega), f3 _ (by omega)]
  · rw [hrow _ (by omega) (by omega) (by omega)]
  · rw [hrow _ (by omega) (by omega) (by omega)]
  · rw [hrow _ (by omega) (by omega) (by omega)]
  · rw [js_mk (by omega), js_mk (by omega), js_mj (by omega), js_mj (by omega), js_mk (by omega), hR 0 (by omega) (by omega), p2]
  · rw [js_mk (by omega), js_mk (by omega), js_hit]; rfl
  · by_cases e : i = 1
    · rw [e, js_hit]
    · have e0 : i = 0 := by omega
      rw [js_mj (by omega), e0, js_hit]
  · rw [js_mk (by omega), js_mk (by omega), js_mj (by omega), js_hit]
  · rw [hrow _ (by omega) (by omega) (by omega), hR _ (by omega) (by omega)]
end XM

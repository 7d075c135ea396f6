/-! ===== the reference reads a text ===== -/
def jp_B (tx : jq_X) (i : Nat) : Prop := jp_d tx i = true → 0 < i → jp_d tx (i - 1) = false
abbrev jp_T (tx : jq_X) (i : Nat) (q : jp_Q) : Nat ⊕ jp_Q := jp_R tx (tx.1 - i) i q
theorem jp_dI {tx : jq_X} {i : Nat} : jp_d tx i = true ↔ i < tx.1 ∧ 48 ≤ tx.2 i ∧ tx.2 i ≤ 57 := by unfold jp_d; simp
theorem jp_T_s {tx : jq_X} {i : Nat} {q : jp_Q} (hi : i < tx.1) : jp_T tx i q = if jp_st tx i = true then (if (jp_tok tx q i).1 = 6 then .inl i else jp_T tx (i + 1) (jp_tok tx q i)) else jp_T tx (i + 1) q := by
  unfold jp_T
  rw [show tx.1 - i = (tx.1 - (i + 1)) + 1 by omega]
  rfl
theorem jp_T_b {tx : jq_X} {i : Nat} {q : jp_Q} (hi : i < tx.1) (h : tx.2 i = 32) : jp_T tx i q = jp_T tx (i + 1) q := by
  rw [jp_T_s hi, if_neg]
  unfold jp_st
  simp [h]
theorem jp_T_d {tx : jq_X} {i : Nat} {q : jp_Q} (hi : jp_d tx i = true) (h0 : 0 < i) (h : jp_d tx (i - 1) = true) : jp_T tx i q = jp_T tx (i + 1) q := by
  rw [jp_T_s (jp_dI.mp hi).1, if_neg]
  unfold jp_st
  simp [hi, h, h0]
theorem jp_T_t {tx : jq_X} {i : Nat} {q : jp_Q} (hi : i < tx.1) (hb : jp_B tx i) (h : tx.2 i ≠ 32) : jp_T tx i q = if (jp_tok tx q i).1 = 6 then .inl i else jp_T tx (i + 1) (jp_tok tx q i) := by
  rw [jp_T_s hi, if_pos]
  unfold jp_st
  by_cases hd : jp_d tx i = true
  · by_cases h0 : 0 < i
    · simp [h, hb hd h0]
    · simp [h, h0]
  · simp [h, hd]
theorem jp_T_e {tx : jq_X} {q : jp_Q} : jp_T tx tx.1 q = jp_end tx q := by
  unfold jp_T
  rw [Nat.sub_self]
  rfl
def jl_av (mem mem' : jl_M) : Prop := (∀ k, k ≠ 62 → mem' k = mem k) ∧ ∀ j, j ≠ 4 → j ≠ 5 → j ≠ 6 → j ≠ 7 → mem' 62 j = mem 62 j
theorem jl_av.rf {m : jl_M} : jl_av m m := ⟨fun _ _ => rfl, fun _ _ _ _ _ => rfl⟩
theorem jl_av.tr {a b c : jl_M} (h1 : jl_av a b) (h2 : jl_av b c) : jl_av a c := ⟨fun k x => (h2.1 k x).trans (h1.1 k x), fun j x y z w => (h2.2 j x y z w).trans (h1.2 j x y z w)⟩
theorem jl_av.f {m : jl_M} {j : Nat} {x : Int32} (h : j = 4 ∨ j = 5 ∨ j = 6 ∨ j = 7) : jl_av m (jl_s m 62 j x) := ⟨fun k y => js_ne y, fun i _ _ _ _ => js_mj (by omega)⟩
theorem jY_T.a {mem mem' : jl_M} {tx : jq_X} (h : jY_T mem tx) (f : jl_av mem mem') : jY_T mem' tx := h.keep (f.2 3 (by omega) (by omega) (by omega) (by omega)) (f.1 63 (by omega))
section YT
variable {mem : jl_M} {lm : jl_L} {tx : jq_X}
theorem Y_letter {i : Nat} (h : jY_T mem tx) (hL : tx.1 ≤ 120) (hi : i ≤ 1000) : xX5_letterAt [.ref 62, .int (nI i)] (jl_w mem lm) = some (some (.int (if i < tx.1 then nI (tx.2 i) else -1)), jl_w mem lm) := by
  by_cases h1 : i < tx.1
  · have e : ¬ tx.1 ≤ i := by omega
    have e2 := h.2 i h1
    have e3 : i < 120 := by omega
    rw [if_pos h1]
    simp (disch := first | assumption | omega) only [eX5_letterAt, eX5_letterAt_0, eX5_letterAt_1, eX5_letterAt_2, eX5_letterAt_5, eX5_letterAt_8, eX5_letterAt_9, eX5_letterAt_12, eX5_letterAt_13, eX5_letterAt_14, eX5_letterAt_17, eX5_letterAt_18, h.1, nI_leI, e, if_false, e2]
  · have e : tx.1 ≤ i := by omega
    rw [if_neg h1]
    simp (disch := first | assumption | omega) only [eX5_letterAt, eX5_letterAt_0, eX5_letterAt_1, eX5_letterAt_2, eX5_letterAt_5, eX5_letterAt_8, eX5_letterAt_9, eX5_letterAt_12, eX5_letterAt_13, eX5_letterAt_14, eX5_letterAt_17, eX5_letterAt_18, h.1, nI_leI, e, if_true]
theorem Y_dig {i : Nat} (hL : ∀ i, i < tx.1 → tx.2 i ≤ 255) : xX5_in [.int (if i < tx.1 then nI (tx.2 i) else -1), .int (nI 48), .int (nI 57)] (jl_w mem lm) = some (some (.int (nI (if jp_d tx i = true then 1 else 0))), jl_w mem lm) := by
  by_cases h1 : i < tx.1
  · have h2 := hL i h1
    rw [if_pos h1]
    by_cases hd : jp_d tx i = true
    · have hd' := jp_dI.mp hd
      rw [if_pos hd]
      exact Y_in hd'.2.1 hd'.2.2 (by omega)
    · rw [if_neg hd]
      refine Y_inn ?_
      by_cases h3 : tx.2 i < 48
      · exact Or.inl ((nI_ltI (by omega) (by omega)).mpr h3)
      · refine Or.inr ((nI_ltI (by omega) (by omega)).mpr ?_)
        rcases Nat.lt_or_ge 57 (tx.2 i) with q | q
        · exact q
        · exact absurd (jp_dI.mpr ⟨h1, by omega, q⟩) hd
  · rw [if_neg h1, if_neg (fun q => h1 (jp_dI.mp q).1)]
    exact Y_inn (Or.inl (by decide))
theorem Y_skip {v : Value} (hL : tx.1 ≤ 120 ∧ ∀ i, i < tx.1 → tx.2 i ≤ 255) : ∀ k i (m : jl_M), i + k = tx.1 → m 62 4 = nI i → jY_T m tx → jp_B tx i → ∃ p m', jr_ev pX5_advances 0 [.ref 62, v] [] (jl_w m lm) = jr_ev pX5_advances 26 [.ref 62, v] [] (jl_w m' lm) ∧ m' 62 4 = nI p ∧ i ≤ p ∧ p ≤ tx.1 ∧ jp_B tx p ∧ (p < tx.1 → tx.2 p ≠ 32) ∧ (∀ q, jp_T tx i q = jp_T tx p q) ∧ jl_av m m' := by
  intro k
  induction k with
  | zero =>
    intro i m hi h4 hT hB
    have e : ¬ i < tx.1 := by omega
    have hl := Y_letter (lm := lm) hT hL.1 (show i ≤ 1000 by omega)
    rw [if_neg e] at hl
    have n32 : ¬ (-1 : Int32) = nI 32 := by decide
    refine ⟨i, m, ?_, h4, Nat.le_refl _, by omega, hB, fun h => absurd h e, fun _ => rfl, jl_av.rf⟩
    simp only [eX5_advances_0, eX5_advances_1, eX5_advances_2, h4]
    rw [eX5_advances_5 hl]
    simp only [eX5_advances_8, eX5_advances_10, n32, if_false]
  | succ k ih =>
    intro i m hi h4 hT hB
    have e : i < tx.1 := by omega
    have hl := Y_letter (lm := lm) hT hL.1 (show i ≤ 1000 by omega)
    rw [if_pos e] at hl
    have h255 := hL.2 i e
    by_cases h32 : tx.2 i = 32
    · have nd : jp_d tx i = false := by
        cases hd : jp_d tx i with
        | false => rfl
        | true => have := jp_dI.mp hd; omega
      obtain ⟨p, m', g1, g2, g3, g4, g5, g6, g7, g8⟩ := ih (i + 1) (jl_s m 62 4 (nI (i + 1))) (by omega) js_hit (hT.a (jl_av.f (Or.inl rfl))) (fun _ _ => nd)
      refine ⟨p, m', ?_, g2, by omega, g4, g5, g6, fun q => (jp_T_b e h32).trans (g7 q), (jl_av.f (Or.inl rfl)).tr g8⟩
      simp only [eX5_advances_0, eX5_advances_1, eX5_advances_2, h4]
      rw [eX5_advances_5 hl]
      rw [h32]
      simp only [eX5_advances_8, eX5_advances_10, eX5_advances_13, eX5_advances_14, eX5_advances_15, eX5_advances_18, eX5_advances_19, eX5_advances_20, if_true, h4, nI_add]
      rw [eX5_advances_23]
      exact g1
    · refine ⟨i, m, ?_, h4, Nat.le_refl _, by omega, hB, fun _ => h32, fun _ => rfl, jl_av.rf⟩
      simp only [eX5_advances_0, eX5_advances_1, eX5_advances_2, h4]
      rw [eX5_advances_5 hl]
      simp (disch := first | assumption | omega) only [eX5_advances_8, eX5_advances_10, nI_eq, h32, if_false]
/-- digits p .. i are read, their number so far is v -/
def jp_V (tx : jq_X) (p i v : Nat) : Prop := v ≤ 999 ∧ (i = p → v = 0) ∧ (i = p + 1 → v = tx.2 p - 48) ∧ (i = p + 2 → v = 10 * (tx.2 p - 48) + (tx.2 (p + 1) - 48)) ∧ (p + 3 ≤ i → 49 ≤ tx.2 p → 99 < v) ∧ ∀ j, p ≤ j → j < i → jp_d tx j = true
theorem jp_V_s {tx : jq_X} {p i v : Nat} (hp : p ≤ i) (h : jp_V tx p i v) (hd : jp_d tx i = true) : jp_V tx p (i + 1) (if 99 < v then v else 10 * v + tx.2 i - 48) := by
  obtain ⟨a1, a2, a3, a4, a5, a6⟩ := h
  have hd' := jp_dI.mp hd
  refine ⟨?_, fun e => absurd e (by omega), fun e => ?_, fun e => ?_, fun e1 e2 => ?_, fun j h1 h2 => ?_⟩
  · split <;> omega
  · have : i = p := by omega
    subst this
    rw [a2 rfl, if_neg (by omega)]
    omega
  · have : i = p + 1 := by omega
    subst this
    have hdp := jp_dI.mp (a6 p (by omega) (by omega))
    rw [a3 rfl, if_neg (by omega)]
    omega
  · by_cases h3 : p + 3 ≤ i
    · have := a5 h3 e2
      rw [if_pos this]
      exact this
    · have : i = p + 2 := by omega
      subst this
      have hdp := jp_dI.mp (a6 p (by omega) (by omega))
      have hdp1 := jp_dI.mp (a6 (p + 1) (by omega) (by omega))
      rw [a4 rfl, if_neg (by omega)]
      omega
  · by_cases e : j = i
    · rw [e]; exact hd
    · exact a6 j h1 (by omega)
theorem Y_digits {p : Nat} {v1 : Value} (hL : tx.1 ≤ 120 ∧ ∀ i, i < tx.1 → tx.2 i ≤ 255) : ∀ k i v (m : jl_M), i + k = tx.1 → p ≤ i → m 62 4 = nI i → m 62 7 = nI v → jY_T m tx → jp_V tx p i v → ∃ e u m', jr_ev pX5_advances 71 [.ref 62, v1] [] (jl_w m lm) = jr_ev pX5_advances 141 [.ref 62, v1] [] (jl_w m' lm) ∧ m' 62 4 = nI e ∧ m' 62 7 = nI u ∧ i ≤ e ∧ e ≤ tx.1 ∧ jp_d tx e = false ∧ jp_V tx p e u ∧ ((p < i → ∀ q, jp_T tx i q = jp_T tx e q) ∧ (i < e → ∀ q, jp_T tx (i + 1) q = jp_T tx e q)) ∧ jl_av m m' ∧ m' 62 6 = m 62 6 := by
  intro k
  induction k with
  | zero =>
    intro i v m hi hp h4 h7 hT hV
    have hl := Y_letter (lm := lm) hT hL.1 (show i ≤ 1000 by omega)
    have hg := Y_dig (mem := m) (lm := lm) (i := i) hL.2
    have nd : ¬ jp_d tx i = true := fun q => by have := (jp_dI.mp q).1; omega
    rw [if_neg nd] at hg
    refine ⟨i, v, m, ?_, h4, h7, Nat.le_refl _, by omega, by simpa using nd, hV, ⟨fun _ _ => rfl, fun q => absurd q (by omega)⟩, jl_av.rf, rfl⟩
    simp only [eX5_advances_71, eX5_advances_72, eX5_advances_73, h4]
    rw [eX5_advances_76 hl]
    simp only [eX5_advances_79, eX5_advances_81]
    rw [eX5_advances_83 hg]
    simp only [eX5_advances_86, je0, if_true]
  | succ k ih =>
    intro i v m hi hp h4 h7 hT hV
    have e : i < tx.1 := by omega
    have hl := Y_letter (lm := lm) hT hL.1 (show i ≤ 1000 by omega)
    have hg := Y_dig (mem := m) (lm := lm) (i := i) hL.2
    by_cases hd : jp_d tx i = true
    · rw [if_pos hd] at hg
      have hd' := jp_dI.mp hd
      have hl2 := hl
      rw [if_pos e] at hl2
      have h999 := hV.1
      have V1 := jp_V_s hp hV hd
      have step : jr_ev pX5_advances 71 [.ref 62, v1] [] (jl_w m lm) = jr_ev pX5_advances 71 [.ref 62, v1] [] (jl_w (jl_s (jl_s m 62 7 (nI (if 99 < v then v else 10 * v + tx.2 i - 48))) 62 4 (nI (i + 1))) lm) := by
        have h4' : ∀ x, jl_s m 62 7 x 62 4 = nI i := fun x => by rw [js_mj (by omega), h4]
        refine Eq.trans ?_ eX5_advances_138
        simp only [eX5_advances_71, eX5_advances_72, eX5_advances_73, h4]
        rw [eX5_advances_76 hl]
        simp only [eX5_advances_79, eX5_advances_81]
        rw [eX5_advances_83 hg]
        by_cases h99 : v ≤ 99
        · have n99 : ¬ 99 < v := by omega
          have hm : nI 10 * nI v = nI (10 * v) := pk_mul _ _
          have hs : nI (10 * v + tx.2 i) - nI 48 = nI (10 * v + tx.2 i - 48) := pk_sub (by omega)
          rw [if_neg n99]
          simp (disch := first | assumption | omega) only [eX5_advances_86, eX5_advances_89, eX5_advances_90, eX5_advances_91, eX5_advances_94, eX5_advances_96, eX5_advances_99, eX5_advances_100, eX5_advances_103, eX5_advances_106, eX5_advances_108, eX5_advances_109, eX5_advances_112, eX5_advances_113, eX5_advances_114, eX5_advances_115, je1, if_false, h7, nI_leI, h99, if_true, hm, h4]
          rw [eX5_advances_118 hl2]
          simp only [eX5_advances_121, eX5_advances_122, eX5_advances_124, eX5_advances_125, eX5_advances_128, eX5_advances_129, eX5_advances_130, eX5_advances_133, eX5_advances_134, eX5_advances_135, nI_add, hs, h4']
        · have n99 : 99 < v := by omega
          rw [if_pos n99]
          simp (disch := first | assumption | omega) only [eX5_advances_86, eX5_advances_89, eX5_advances_90, eX5_advances_91, eX5_advances_94, eX5_advances_96, eX5_advances_99, eX5_advances_100, eX5_advances_103, eX5_advances_125, eX5_advances_128, eX5_advances_129, eX5_advances_130, eX5_advances_133, eX5_advances_134, eX5_advances_135, je1, if_false, h7, nI_leI, h99, h4', nI_add]
      have fr : jl_av m (jl_s (jl_s m 62 7 (nI (if 99 < v then v else 10 * v + tx.2 i - 48))) 62 4 (nI (i + 1))) := (jl_av.f (Or.inr (Or.inr (Or.inr rfl)))).tr (jl_av.f (Or.inl rfl))
      obtain ⟨e', u, m', g1, g2, g3, g4, g5, g6, g7, g8, g9, g10⟩ := ih (i + 1) _ _ (by omega) (by omega) js_hit (by rw [js_mj (by omega), js_hit]) (hT.a fr) V1
      refine ⟨e', u, m', step.trans g1, g2, g3, by omega, g5, g6, g7, ⟨fun hpi q => ?_, fun _ => g8.1 (by omega)⟩, fr.tr g9, ?_⟩
      · rw [jp_T_d hd (by omega) (hV.2.2.2.2.2 (i - 1) (by omega) (by omega))]
        exact g8.1 (by omega) q
      · rw [g10, js_mj (by omega), js_mj (by omega)]
    · rw [if_neg hd] at hg
      refine ⟨i, v, m, ?_, h4, h7, Nat.le_refl _, by omega, by simpa using hd, hV, ⟨fun _ _ => rfl, fun q => absurd q (by omega)⟩, jl_av.rf, rfl⟩
      simp only [eX5_advances_71, eX5_advances_72, eX5_advances_73, h4]
      rw [eX5_advances_76 hl]
      simp only [eX5_advances_79, eX5_advances_81]
      rw [eX5_advances_83 hg]
      simp only [eX5_advances_86, je0, if_true]
/-- the token that comes next, as the reference holds it -/
def jY_A (mem : jl_M) (tx : jq_X) (i : Nat) : Prop := ∃ p e t v, mem 62 4 = nI e ∧ mem 62 5 = nI t ∧ mem 62 6 = nI p ∧ (t ≠ 0 → mem 62 7 = nI v) ∧ v ≤ 999 ∧ t ≤ 4 ∧ i ≤ p ∧ p ≤ tx.1 ∧ (∀ q, jp_T tx i q = jp_T tx p q) ∧ ((t = 0 ∧ p = tx.1) ∨ (t ≠ 0 ∧ p < tx.1 ∧ p < e ∧ e ≤ tx.1 ∧ jp_B tx e ∧ (∀ q, jp_T tx p q = if (jp_tok tx q p).1 = 6 then .inl p else jp_T tx e (jp_tok tx q p)) ∧ ((jp_d tx p = true ∧ ((t = 2 ∧ jp_n tx p = some v) ∨ (t = 4 ∧ jp_n tx p = none))) ∨ (jp_d tx p = false ∧ v = tx.2 p ∧ t = if v = 59 then 3 else if v = 114 ∨ v = 100 then 1 else 4))))
theorem jp_n_of {p e u : Nat} (hd : jp_d tx p = true) (hp : p < e) (he : jp_d tx e = false) (hV : jp_V tx p e u) : (u ≤ 99 ∧ ¬ (tx.2 p = 48 ∧ p + 1 < e) → jp_n tx p = some u) ∧ (99 < u ∨ (tx.2 p = 48 ∧ p + 1 < e) → jp_n tx p = none) := by
  obtain ⟨a1, a2, a3, a4, a5, a6⟩ := hV
  have hd' := jp_dI.mp hd
  unfold jp_n
  by_cases h1 : e = p + 1
  · subst h1
    rw [if_pos he]
    refine ⟨fun _ => by rw [a3 rfl], fun q => ?_⟩
    have := a3 rfl
    omega
  · have d1 := a6 (p + 1) (by omega) (by omega)
    have d1' := jp_dI.mp d1
    rw [if_neg (by rw [d1]; decide)]
    by_cases h2 : e = p + 2
    · subst h2
      have := a4 rfl
      by_cases h48 : tx.2 p = 48
      · rw [if_pos (Or.inl h48)]
        exact ⟨fun q => absurd ⟨h48, by omega⟩ q.2, fun _ => rfl⟩
      · rw [if_neg (by rw [he]; simp [h48])]
        exact ⟨fun _ => by rw [this], fun q => by omega⟩
    · have d2 := a6 (p + 2) (by omega) (by omega)
      rw [if_pos (Or.inr d2)]
      refine ⟨fun q => ?_, fun _ => rfl⟩
      have := a5 (by omega)
      omega
theorem Y_advances {i : Nat} (hL : tx.1 ≤ 120 ∧ ∀ i, i < tx.1 → tx.2 i ≤ 255) (hT : jY_T mem tx) (hi : i ≤ tx.1) (h4 : mem 62 4 = nI i) (hB : jp_B tx i) : ∃ mem', xX5_advances [.ref 62] (jl_w mem lm) = some (none, jl_w mem' lm) ∧ jY_A mem' tx i ∧ jl_av mem mem' := by
  obtain ⟨p, m1, e1, c4, i1, i2, b1, n32, s1, f1⟩ := Y_skip (lm := lm) (v := .null) hL (tx.1 - i) i mem (by omega) h4 hT hB
  have T1 := hT.a f1
  have f2 : jl_av m1 (jl_s m1 62 6 (nI p)) := jl_av.f (Or.inr (Or.inr (Or.inl rfl)))
  have T2 := T1.a f2
  have hl := Y_letter (lm := lm) T2 hL.1 (show p ≤ 1000 by omega)
  have c4' : jl_s m1 62 6 (nI p) 62 4 = nI p := by rw [js_mj (by omega), c4]
  simp only [eX5_advances]
  rw [e1]
  simp only [eX5_advances_26, eX5_advances_27, eX5_advances_28, eX5_advances_31, eX5_advances_34, eX5_advances_35, eX5_advances_36, c4, c4']
  rw [eX5_advances_39 hl]
  have c6 : jl_s m1 62 6 (nI p) 62 6 = nI p := js_hit
  generalize jl_s m1 62 6 (nI p) = m2 at f2 T2 hl c4' c6 ⊢
  by_cases hp : p < tx.1
  · have h255 := hL.2 p hp
    rw [if_pos hp] at hl ⊢
    have hge : (0 : Int32) ≤ nI (tx.2 p) := nI_pos' (by omega)
    have hg := Y_dig (mem := m2) (lm := lm) (i := p) hL.2
    rw [if_pos hp] at hg
    simp only [eX5_advances_42, eX5_advances_43, eX5_advances_44, eX5_advances_55, eX5_advances_56, eX5_advances_58, hge, if_true]
    rw [eX5_advances_60 hg]
    by_cases hd : jp_d tx p = true
    · rw [if_pos hd]
      have hd' := jp_dI.mp hd
      simp only [eX5_advances_63, eX5_advances_66, eX5_advances_67, eX5_advances_68, je1, if_false]
      have f3 : jl_av m2 (jl_s m2 62 7 (nI 0)) := jl_av.f (Or.inr (Or.inr (Or.inr rfl)))
      obtain ⟨e, u, m3, g1, g2, g3, g4, g5, g6, g7, g8, g9, g10⟩ := Y_digits (lm := lm) (p := p) (v1 := .int (nI (tx.2 p))) hL (tx.1 - p) p 0 (jl_s m2 62 7 (nI 0)) (by omega) (Nat.le_refl _) (by rw [js_mj (by omega), c4']) js_hit (T2.a f3) ⟨by omega, fun _ => rfl, fun q => absurd q (by omega), fun q => absurd q (by omega), fun q => absurd q (by omega), fun j q1 q2 => absurd q2 (by omega)⟩
      have hBe : jp_B tx e := fun q => by rw [g6] at q; cases q
      have g6' : m3 62 6 = nI p := by rw [g10, js_mj (by omega), c6]
      have hpe : p < e := by
        rcases Nat.lt_or_ge p e with q | q
        · exact q
        · have : e = p := by omega
          rw [this, hd] at g6; cases g6
      have hjn := jp_n_of hd hpe g6 g7
      have u999 := g7.1
      have hsub : nI e - nI p = nI (e - p) := pk_sub (by omega)
      have hRp : ∀ q, jp_T tx p q = if (jp_tok tx q p).1 = 6 then .inl p else jp_T tx e (jp_tok tx q p) := fun q => by
        rw [jp_T_t hp b1 (n32 hp)]
        by_cases h6 : (jp_tok tx q p).1 = 6
        · rw [if_pos h6, if_pos h6]
        · rw [if_neg h6, if_neg h6]
          exact g8.2 hpe _
      by_cases hgood : u ≤ 99 ∧ ¬ (tx.2 p = 48 ∧ p + 1 < e)
      · refine ⟨jl_s m3 62 5 (nI 2), ?_, ⟨p, e, 2, u, by rw [js_mj (by omega), g2], js_hit, by rw [js_mj (by omega), g6'], fun _ => by rw [js_mj (by omega), g3], u999, by omega, i1, by omega, s1, Or.inr ⟨by omega, hp, hpe, g5, hBe, hRp, Or.inl ⟨hd, Or.inl ⟨rfl, hjn.1 hgood⟩⟩⟩⟩, (f1.tr f2).tr ((f3.tr g9).tr (jl_av.f (Or.inr (Or.inl rfl))))⟩
        rw [g1]
        have n99 : ¬ 99 < u := by omega
        by_cases h48 : tx.2 p = 48
        · have hle : e - p ≤ 1 := by have := hgood.2; omega
          simp (disch := first | assumption | omega) only [eX5_advances_141, eX5_advances_142, eX5_advances_143, eX5_advances_146, eX5_advances_148, eX5_advances_151, eX5_advances_152, eX5_advances_154, eX5_advances_157, eX5_advances_158, eX5_advances_161, eX5_advances_162, eX5_advances_165, eX5_advances_166, eX5_advances_167, eX5_advances_170, eX5_advances_171, eX5_advances_174, eX5_advances_175, eX5_advances_178, eX5_advances_227, g3, nI_ltI, n99, if_false, nI_eq, h48, if_true, g2, g6', hsub, nI_leI, hle]
        · simp (disch := first | assumption | omega) only [eX5_advances_141, eX5_advances_142, eX5_advances_143, eX5_advances_146, eX5_advances_148, eX5_advances_151, eX5_advances_152, eX5_advances_154, eX5_advances_174, eX5_advances_175, eX5_advances_178, eX5_advances_227, g3, nI_ltI, n99, if_false, nI_eq, h48]
      · have hbad : 99 < u ∨ (tx.2 p = 48 ∧ p + 1 < e) := by
          rcases Nat.lt_or_ge 99 u with q | q
          · exact Or.inl q
          · refine Or.inr ?_
            by_cases q2 : tx.2 p = 48 ∧ p + 1 < e
            · exact q2
            · exact absurd ⟨q, q2⟩ hgood
        refine ⟨jl_s m3 62 5 (nI 4), ?_, ⟨p, e, 4, u, by rw [js_mj (by omega), g2], js_hit, by rw [js_mj (by omega), g6'], fun _ => by rw [js_mj (by omega), g3], u999, by omega, i1, by omega, s1, Or.inr ⟨by omega, hp, hpe, g5, hBe, hRp, Or.inl ⟨hd, Or.inr ⟨rfl, hjn.2 hbad⟩⟩⟩⟩, (f1.tr f2).tr ((f3.tr g9).tr (jl_av.f (Or.inr (Or.inl rfl))))⟩
        rw [g1]
        by_cases h99 : 99 < u
        · simp (disch := first | assumption | omega) only [eX5_advances_141, eX5_advances_142, eX5_advances_143, eX5_advances_146, eX5_advances_148, eX5_advances_170, eX5_advances_171, eX5_advances_174, eX5_advances_175, eX5_advances_178, eX5_advances_227, g3, nI_ltI, h99, if_true]
        · obtain ⟨h48, hlen⟩ := hbad.resolve_left h99
          have hle : ¬ e - p ≤ 1 := by omega
          simp (disch := first | assumption | omega) only [eX5_advances_141, eX5_advances_142, eX5_advances_143, eX5_advances_146, eX5_advances_148, eX5_advances_151, eX5_advances_152, eX5_advances_154, eX5_advances_157, eX5_advances_158, eX5_advances_161, eX5_advances_162, eX5_advances_165, eX5_advances_166, eX5_advances_167, eX5_advances_170, eX5_advances_171, eX5_advances_174, eX5_advances_175, eX5_advances_178, eX5_advances_227, g3, nI_ltI, h99, if_false, nI_eq, h48, if_true, g2, g6', hsub, nI_leI, hle]
    · rw [if_neg hd]
      have hRp : ∀ q, jp_T tx p q = if (jp_tok tx q p).1 = 6 then .inl p else jp_T tx (p + 1) (jp_tok tx q p) := fun q => jp_T_t hp b1 (n32 hp)
      have hd2 : jp_d tx p = false := by simpa using hd
      have hB1 : jp_B tx (p + 1) := fun _ _ => hd2
      have f3 : jl_av m2 (jl_s (jl_s m2 62 4 (nI (p + 1))) 62 7 (nI (tx.2 p))) := (jl_av.f (Or.inl rfl)).tr (jl_av.f (Or.inr (Or.inr (Or.inr rfl))))
      have fin : ∀ t, t ≤ 4 → t ≠ 0 → (t = if tx.2 p = 59 then 3 else if tx.2 p = 114 ∨ tx.2 p = 100 then 1 else 4) → jY_A (jl_s (jl_s (jl_s m2 62 4 (nI (p + 1))) 62 7 (nI (tx.2 p))) 62 5 (nI t)) tx i ∧ jl_av mem (jl_s (jl_s (jl_s m2 62 4 (nI (p + 1))) 62 7 (nI (tx.2 p))) 62 5 (nI t)) := fun t t1 t2 t3 =>
        ⟨⟨p, p + 1, t, tx.2 p, by rw [js_mj (by omega), js_mj (by omega), js_hit], js_hit, by rw [js_mj (by omega), js_mj (by omega), js_mj (by omega), c6], fun _ => by rw [js_mj (by omega), js_hit], by omega, t1, i1, by omega, s1, Or.inr ⟨t2, hp, by omega, by omega, hB1, hRp, Or.inr ⟨hd2, rfl, t3⟩⟩⟩, (f1.tr f2).tr (f3.tr (jl_av.f (Or.inr (Or.inl rfl))))⟩
      simp only [eX5_advances_63, eX5_advances_181, eX5_advances_182, eX5_advances_183, eX5_advances_186, eX5_advances_187, eX5_advances_188, eX5_advances_191, eX5_advances_192, eX5_advances_193, eX5_advances_196, je0, if_true, c4', nI_add]
      by_cases h59 : tx.2 p = 59
      · refine ⟨_, ?_, fin 3 (by omega) (by omega) (by rw [if_pos h59])⟩
        simp (disch := first | assumption | omega) only [eX5_advances_197, eX5_advances_198, eX5_advances_200, eX5_advances_203, eX5_advances_204, eX5_advances_224, eX5_advances_227, nI_eq, h59, if_true]
      · by_cases h114 : tx.2 p = 114
        · refine ⟨_, ?_, fin 1 (by omega) (by omega) (by rw [if_neg h59, if_pos (Or.inl h114)])⟩
          simp (disch := first | assumption | omega) only [eX5_advances_197, eX5_advances_198, eX5_advances_200, eX5_advances_203, eX5_advances_204, eX5_advances_207, eX5_advances_208, eX5_advances_210, eX5_advances_213, eX5_advances_214, eX5_advances_216, eX5_advances_219, eX5_advances_220, eX5_advances_223, eX5_advances_224, eX5_advances_227, nI_eq, h59, h114, if_true, if_false]
          simp
        · by_cases h100 : tx.2 p = 100
          · refine ⟨_, ?_, fin 1 (by omega) (by omega) (by rw [if_neg h59, if_pos (Or.inr h100)])⟩
            have k1 : ¬ (100 : Nat) = 59 := by omega
            have k2 : ¬ (100 : Nat) = 114 := by omega
            simp (disch := first | assumption | omega) only [eX5_advances_197, eX5_advances_198, eX5_advances_200, eX5_advances_203, eX5_advances_204, eX5_advances_207, eX5_advances_208, eX5_advances_210, eX5_advances_213, eX5_advances_214, eX5_advances_216, eX5_advances_219, eX5_advances_220, eX5_advances_223, eX5_advances_224, eX5_advances_227, nI_eq, h100, k1, k2, if_true, if_false]
          · refine ⟨_, ?_, fin 4 (by omega) (by omega) (by rw [if_neg h59, if_neg (fun q => q.elim h114 h100)])⟩
            simp (disch := first | assumption | omega) only [eX5_advances_197, eX5_advances_198, eX5_advances_200, eX5_advances_203, eX5_advances_204, eX5_advances_207, eX5_advances_208, eX5_advances_210, eX5_advances_213, eX5_advances_214, eX5_advances_216, eX5_advances_219, eX5_advances_220, eX5_advances_223, eX5_advances_224, eX5_advances_227, nI_eq, h59, h114, h100, if_false]
  · rw [if_neg hp] at hl ⊢
    have hng : ¬ (0 : Int32) ≤ -1 := by decide
    have ep : p = tx.1 := by omega
    refine ⟨jl_s m2 62 5 (nI 0), ?_, ⟨p, p, 0, 0, by rw [js_mj (by omega), c4'], js_hit, by rw [js_mj (by omega), c6], fun q => absurd rfl q, by omega, by omega, i1, by omega, s1, Or.inl ⟨rfl, ep⟩⟩, (f1.tr f2).tr (jl_av.f (Or.inr (Or.inl rfl)))⟩
    simp only [eX5_advances_42, eX5_advances_43, eX5_advances_44, eX5_advances_47, eX5_advances_48, eX5_advances_49, eX5_advances_52, eX5_advances_227, hng, if_false]
end YT

/-! ===== reading a text ===== -/
def jp_d (tx : jq_X) (i : Nat) : Bool := decide (i < tx.1 ∧ 48 ≤ tx.2 i ∧ tx.2 i ≤ 57)
/-- a token starts at a place -/
def jp_st (tx : jq_X) (i : Nat) : Bool := decide (tx.2 i ≠ 32) && !(jp_d tx i && decide (0 < i) && jp_d tx (i - 1))
/-- the number at a place; none: no number may be written so -/
def jp_n (tx : jq_X) (i : Nat) : Option Nat := if jp_d tx (i + 1) = false then some (tx.2 i - 48) else if tx.2 i = 48 ∨ jp_d tx (i + 2) = true then none else some (10 * (tx.2 i - 48) + (tx.2 (i + 1) - 48))
/-- due, the draft, items, whether the damp was told, the tone and the gap told -/
abbrev jp_Q : Type := Nat × jq_K × Nat × Nat × Nat × Nat
def jp_bad (q : jp_Q) : jp_Q := (6, q.2)
def jp_add (K : jq_K) (t g r : Nat) : jq_K := (K.1 + 1, K.2.1, fun i => if i = K.1 then t else K.2.2.1 i, fun i => if i = K.1 then g else K.2.2.2.1 i, fun i => if i = K.1 then r else K.2.2.2.2 i)
def jp_num (q : jp_Q) (v : Nat) : jp_Q :=
  if q.1 = 1 then (if v ≤ 48 then (2, q.2.1, q.2.2.1, q.2.2.2.1, v, q.2.2.2.2.2) else jp_bad q)
  else if q.1 = 2 then (if 1 ≤ v ∧ v ≤ 9 then (3, q.2.1, q.2.2.1, q.2.2.2.1, q.2.2.2.2.1, v) else jp_bad q)
  else if q.1 = 3 then (if (1 ≤ v ∧ v ≤ 9) ∧ q.2.1.1 < 8 then (5, jp_add q.2.1 q.2.2.2.2.1 q.2.2.2.2.2 v, q.2.2) else jp_bad q)
  else if q.1 = 4 then (if 1 ≤ v ∧ v ≤ 3 then (5, (q.2.1.1, v, q.2.1.2.2), q.2.2) else jp_bad q)
  else jp_bad q
def jp_let (q : jp_Q) (c : Nat) : jp_Q :=
  if c = 59 ∧ q.1 = 5 then (0, q.2.1, q.2.2.1 + 1, q.2.2.2)
  else if c = 114 ∧ q.1 = 0 ∧ q.2.1.1 < 8 then (1, q.2)
  else if c = 100 ∧ q.1 = 0 ∧ q.2.2.2.1 = 0 then (4, q.2.1, q.2.2.1, 1, q.2.2.2.2)
  else jp_bad q
def jp_tok (tx : jq_X) (q : jp_Q) (i : Nat) : jp_Q := if jp_d tx i = true then (match jp_n tx i with
  | none => jp_bad q
  | some v => jp_num q v) else jp_let q (tx.2 i)
def jp_end (tx : jq_X) (q : jp_Q) : Nat ⊕ jp_Q := if q.1 = 0 ∧ 3 ≤ q.2.1.1 then .inr q else .inl tx.1
def jp_R (tx : jq_X) : Nat → Nat → jp_Q → Nat ⊕ jp_Q
  | 0, _, q => jp_end tx q
  | k + 1, i, q => if jp_st tx i = true then (if (jp_tok tx q i).1 = 6 then .inl i else jp_R tx k (i + 1) (jp_tok tx q i)) else jp_R tx k (i + 1) q
def jp_q0 (K : jq_K) (t g : Nat) : jp_Q := (0, (0, 1, K.2.2), 0, 0, t, g)
/-- what stays true of the reading -/
def jp_W (q : jp_Q) : Prop := q.1 ≤ 6 ∧ q.2.1.1 ≤ 8 ∧ (1 ≤ q.2.1.2.1 ∧ q.2.1.2.1 ≤ 3) ∧ (∀ r, r < q.2.1.1 → q.2.1.2.2.1 r ≤ 48 ∧ (1 ≤ q.2.1.2.2.2.1 r ∧ q.2.1.2.2.2.1 r ≤ 9) ∧ (1 ≤ q.2.1.2.2.2.2 r ∧ q.2.1.2.2.2.2 r ≤ 9)) ∧ q.2.2.2.1 ≤ 1 ∧ (q.1 = 2 → q.2.2.2.2.1 ≤ 48) ∧ (q.1 = 3 → q.2.2.2.2.1 ≤ 48 ∧ 1 ≤ q.2.2.2.2.2 ∧ q.2.2.2.2.2 ≤ 9) ∧ (1 ≤ q.1 → q.1 ≤ 3 → q.2.1.1 < 8)
theorem jp_W_bad {q : jp_Q} (h : jp_W q) : jp_W (jp_bad q) := by
  obtain ⟨a1, a2, a3, a4, a5, a6, a7, a8⟩ := h
  exact ⟨Nat.le_refl _, a2, a3, a4, a5, fun e => (by simp [jp_bad] at e), fun e => (by simp [jp_bad] at e), fun _ e => (by simp [jp_bad] at e)⟩
theorem jp_W_tok {tx : jq_X} {q : jp_Q} {i : Nat} (h : jp_W q) : jp_W (jp_tok tx q i) := by
  have hb := jp_W_bad h
  obtain ⟨a1, a2, a3, a4, a5, a6, a7, a8⟩ := id h
  unfold jp_tok
  split
  · split
    · exact hb
    · rename_i v hv
      unfold jp_num
      split
      · rename_i h1
        split
        · rename_i h2
          exact ⟨by show 2 ≤ 6; omega, a2, a3, a4, a5, fun _ => h2, fun e => (by simp [jp_bad] at e), fun _ _ => a8 (by omega) (by omega)⟩
        · exact hb
      · split
        · rename_i h0 h1
          split
          · rename_i h2
            exact ⟨by show 3 ≤ 6; omega, a2, a3, a4, a5, fun e => (by simp [jp_bad] at e), fun _ => ⟨a6 h1, h2⟩, fun _ _ => a8 (by omega) (by omega)⟩
          · exact hb
        · split
          · rename_i h0 h1 h3
            split
            · rename_i h2
              refine ⟨by show 5 ≤ 6; omega, ?_, a3, fun r hr => ?_, a5, fun e => (by simp [jp_bad] at e), fun e => (by simp [jp_bad] at e), fun _ e => (by simp [jp_bad] at e)⟩
              · show q.2.1.1 + 1 ≤ 8
                omega
              · have hr : r < q.2.1.1 + 1 := hr
                show (if r = q.2.1.1 then _ else _) ≤ 48 ∧ (1 ≤ (if r = q.2.1.1 then _ else _) ∧ (if r = q.2.1.1 then _ else _) ≤ 9) ∧ (1 ≤ (if r = q.2.1.1 then v else _) ∧ (if r = q.2.1.1 then v else _) ≤ 9)
                by_cases e : r = q.2.1.1
                · rw [if_pos e, if_pos e, if_pos e]
                  obtain ⟨b1, b2, b3⟩ := a7 h3
                  exact ⟨b1, ⟨b2, b3⟩, h2.1⟩
                · rw [if_neg e, if_neg e, if_neg e]
                  exact a4 r (by omega)
            · exact hb
          · split
            · split
              · rename_i h2
                exact ⟨by show 5 ≤ 6; omega, a2, h2, a4, a5, fun e => (by simp [jp_bad] at e), fun e => (by simp [jp_bad] at e), fun _ e => (by simp [jp_bad] at e)⟩
              · exact hb
            · exact hb
  · unfold jp_let
    split
    · exact ⟨by show 0 ≤ 6; omega, a2, a3, a4, a5, fun e => (by simp [jp_bad] at e), fun e => (by simp [jp_bad] at e), fun e _ => (by simp [jp_bad] at e)⟩
    · split
      · rename_i h2
        exact ⟨by show 1 ≤ 6; omega, a2, a3, a4, a5, fun e => (by simp [jp_bad] at e), fun e => (by simp [jp_bad] at e), fun _ _ => h2.2.2⟩
      · split
        · exact ⟨by show 4 ≤ 6; omega, a2, a3, a4, Nat.le_refl _, fun e => (by simp [jp_bad] at e), fun e => (by simp [jp_bad] at e), fun _ e => (by simp [jp_bad] at e)⟩
        · exact hb
/-- the cells of the reader -/
def jX_Q (mem : jl_M) (q : jp_Q) : Prop := mem 3 0 = nI q.2.1.1 ∧ mem 3 1 = nI q.2.1.2.1 ∧ (∀ r, r < q.2.1.1 → mem 4 r = nI (q.2.1.2.2.1 r) ∧ mem 5 r = nI (q.2.1.2.2.2.1 r) ∧ mem 6 r = nI (q.2.1.2.2.2.2 r)) ∧ mem 1 3 = nI q.2.2.1 ∧ mem 1 4 = nI q.2.2.2.1 ∧ (q.1 = 2 ∨ q.1 = 3 → mem 1 5 = nI q.2.2.2.2.1) ∧ (q.1 = 3 → mem 1 6 = nI q.2.2.2.2.2)
/-- what reading may change -/
def jl_rd (mem mem' : jl_M) : Prop := (∀ k, k ≠ 1 → ¬ (3 ≤ k ∧ k ≤ 6) → mem' k = mem k) ∧ mem' 1 1 = mem 1 1
theorem jl_rd.tr {a b c : jl_M} (h1 : jl_rd a b) (h2 : jl_rd b c) : jl_rd a c := ⟨fun k x y => (h2.1 k x y).trans (h1.1 k x y), h2.2.trans h1.2⟩
theorem jX_T.rd {mem mem' : jl_M} {tx : jq_X} (h : jX_T mem tx) (hr : jl_rd mem mem') : jX_T mem' tx := h.keep hr.2 (hr.1 2 (by omega) (by omega))
section XR
variable {mem : jl_M} {lm : jl_L} {tx : jq_X}
theorem X_isd {i : Nat} (h : jX_T mem tx) (hL : tx.1 ≤ 120 ∧ ∀ i, i < tx.1 → tx.2 i ≤ 255) (hi : i ≤ 1000) : xX3_isDigit [.ref 1, .int (nI i)] (jl_w mem lm) = some (some (.int (nI (if jp_d tx i = true then 1 else 0))), jl_w mem lm) := by
  have e0 : ¬ nI i < 0 := nI_pos (by omega)
  unfold jp_d
  by_cases h1 : i < tx.1
  · have hl := h.2 i h1
    have hc := hL.2 i h1
    have e1 : ¬ tx.1 ≤ i := by omega
    by_cases h2 : tx.2 i < 48
    · rw [if_neg (by simp; omega)]
      simp (disch := first | assumption | omega) only [eX3_isDigit, eX3_isDigit_0, eX3_isDigit_1, eX3_isDigit_4, eX3_isDigit_5, eX3_isDigit_6, eX3_isDigit_9, eX3_isDigit_12, eX3_isDigit_13, eX3_isDigit_16, eX3_isDigit_17, eX3_isDigit_18, eX3_isDigit_20, eX3_isDigit_23, eX3_isDigit_24, eX3_isDigit_27, eX3_isDigit_28, eX3_isDigit_29, eX3_isDigit_31, eX3_isDigit_34, eX3_isDigit_35, eX3_isDigit_38, eX3_isDigit_39_0, eX3_isDigit_39_1, e0, if_false, h.1, nI_leI, e1, hl, nI_ltI, h2, if_true]
    · by_cases h3 : 57 < tx.2 i
      · rw [if_neg (by simp; omega)]
        simp (disch := first | assumption | omega) only [eX3_isDigit, eX3_isDigit_0, eX3_isDigit_1, eX3_isDigit_4, eX3_isDigit_5, eX3_isDigit_6, eX3_isDigit_9, eX3_isDigit_12, eX3_isDigit_13, eX3_isDigit_16, eX3_isDigit_17, eX3_isDigit_18, eX3_isDigit_20, eX3_isDigit_23, eX3_isDigit_24, eX3_isDigit_27, eX3_isDigit_28, eX3_isDigit_29, eX3_isDigit_31, eX3_isDigit_34, eX3_isDigit_35, eX3_isDigit_38, eX3_isDigit_39_0, eX3_isDigit_39_1, e0, if_false, h.1, nI_leI, e1, hl, nI_ltI, h2, h3, if_true]
      · rw [if_pos (by simp; omega)]
        simp (disch := first | assumption | omega) only [eX3_isDigit, eX3_isDigit_0, eX3_isDigit_1, eX3_isDigit_4, eX3_isDigit_5, eX3_isDigit_6, eX3_isDigit_9, eX3_isDigit_12, eX3_isDigit_13, eX3_isDigit_16, eX3_isDigit_17, eX3_isDigit_18, eX3_isDigit_20, eX3_isDigit_23, eX3_isDigit_24, eX3_isDigit_27, eX3_isDigit_28, eX3_isDigit_29, eX3_isDigit_31, eX3_isDigit_34, eX3_isDigit_35, eX3_isDigit_38, eX3_isDigit_39_0, eX3_isDigit_39_1, e0, if_false, h.1, nI_leI, e1, hl, nI_ltI, h2, h3]
  · have e1 : tx.1 ≤ i := by omega
    rw [if_neg (by simp; omega)]
    simp (disch := first | assumption | omega) only [eX3_isDigit, eX3_isDigit_0, eX3_isDigit_1, eX3_isDigit_4, eX3_isDigit_5, eX3_isDigit_6, eX3_isDigit_9, eX3_isDigit_12, eX3_isDigit_13, eX3_isDigit_16, eX3_isDigit_17, eX3_isDigit_18, eX3_isDigit_20, eX3_isDigit_23, eX3_isDigit_24, eX3_isDigit_27, eX3_isDigit_28, eX3_isDigit_29, eX3_isDigit_31, eX3_isDigit_34, eX3_isDigit_35, eX3_isDigit_38, eX3_isDigit_39_0, eX3_isDigit_39_1, e0, if_false, h.1, nI_leI, e1, if_true]
theorem X_isdm : xX3_isDigit [.ref 1, .int (nI 0 - nI 1)] (jl_w mem lm) = some (some (.int (nI 0)), jl_w mem lm) := by
  have e0 : nI 0 - nI 1 < 0 := by decide
  simp only [eX3_isDigit, eX3_isDigit_0, eX3_isDigit_1, eX3_isDigit_4, eX3_isDigit_5, eX3_isDigit_6, eX3_isDigit_9, eX3_isDigit_12, eX3_isDigit_13, eX3_isDigit_16, eX3_isDigit_17, eX3_isDigit_18, eX3_isDigit_20, eX3_isDigit_23, eX3_isDigit_24, eX3_isDigit_27, eX3_isDigit_28, eX3_isDigit_29, eX3_isDigit_31, eX3_isDigit_34, eX3_isDigit_35, eX3_isDigit_38, eX3_isDigit_39_0, eX3_isDigit_39_1, e0, if_true]
theorem X_starts {i : Nat} (h : jX_T mem tx) (hL : tx.1 ≤ 120 ∧ ∀ i, i < tx.1 → tx.2 i ≤ 255) (hi : i < tx.1) : xX3_startsToken [.ref 1, .int (nI i)] (jl_w mem lm) = some (some (.int (nI (if jp_st tx i = true then 1 else 0))), jl_w mem lm) := by
  have hl := h.2 i hi
  have hc := hL.2 i hi
  have hd := X_isd (lm := lm) (i := i) h hL (by omega)
  unfold jp_st
  by_cases h1 : tx.2 i = 32
  · rw [if_neg (by simp [h1])]
    simp (disch := first | assumption | omega) only [eX3_startsToken, eX3_startsToken_0, eX3_startsToken_1, eX3_startsToken_4, eX3_startsToken_5, eX3_startsToken_6, eX3_startsToken_8, eX3_startsToken_33, eX3_startsToken_34_0, eX3_startsToken_34_1, hl, nI_eq, h1, if_true]
  · by_cases h2 : jp_d tx i = true
    · rw [if_pos h2] at hd
      by_cases h0 : i = 0
      · subst h0
        rw [if_pos (by simp [h1])]
        simp (disch := first | assumption | omega) only [eX3_startsToken, eX3_startsToken_0, eX3_startsToken_1, eX3_startsToken_4, eX3_startsToken_5, eX3_startsToken_6, eX3_startsToken_8, eX3_startsToken_11, eX3_startsToken_12, hl, nI_eq, h1, if_false]
        rw [eX3_startsToken_13 hd]
        simp only [eX3_startsToken_16, eX3_startsToken_19, eX3_startsToken_20, eX3_startsToken_21, eX3_startsToken_22, je1, if_false]
        rw [eX3_startsToken_23 X_isdm]
        simp only [eX3_startsToken_26, eX3_startsToken_29, eX3_startsToken_30, eX3_startsToken_33, eX3_startsToken_34_0, eX3_startsToken_34_1, je0, if_true]
      · have hdm := X_isd (lm := lm) (i := i - 1) h hL (by omega)
        have hs : nI i - nI 1 = nI (i - 1) := pk_sub (by omega)
        by_cases h3 : jp_d tx (i - 1) = true
        · rw [if_pos h3] at hdm
          rw [if_neg (by simp [h2, h3]; omega)]
          simp (disch := first | assumption | omega) only [eX3_startsToken, eX3_startsToken_0, eX3_startsToken_1, eX3_startsToken_4, eX3_startsToken_5, eX3_startsToken_6, eX3_startsToken_8, eX3_startsToken_11, eX3_startsToken_12, hl, nI_eq, h1, if_false]
          rw [eX3_startsToken_13 hd]
          simp only [eX3_startsToken_16, eX3_startsToken_19, eX3_startsToken_20, eX3_startsToken_21, eX3_startsToken_22, je1, if_false, hs]
          rw [eX3_startsToken_23 hdm]
          simp only [eX3_startsToken_26, eX3_startsToken_29, eX3_startsToken_30, eX3_startsToken_33, eX3_startsToken_34_0, eX3_startsToken_34_1, je1, if_false]
        · rw [if_neg h3] at hdm
          rw [if_pos (by simp [h1, h3])]
          simp (disch := first | assumption | omega) only [eX3_startsToken, eX3_startsToken_0, eX3_startsToken_1, eX3_startsToken_4, eX3_startsToken_5, eX3_startsToken_6, eX3_startsToken_8, eX3_startsToken_11, eX3_startsToken_12, hl, nI_eq, h1, if_false]
          rw [eX3_startsToken_13 hd]
          simp only [eX3_startsToken_16, eX3_startsToken_19, eX3_startsToken_20, eX3_startsToken_21, eX3_startsToken_22, je1, if_false, hs]
          rw [eX3_startsToken_23 hdm]
          simp only [eX3_startsToken_26, eX3_startsToken_29, eX3_startsToken_30, eX3_startsToken_33, eX3_startsToken_34_0, eX3_startsToken_34_1, je0, if_true]
    · rw [if_neg h2] at hd
      rw [if_pos (by simp [h1, h2])]
      simp (disch := first | assumption | omega) only [eX3_startsToken, eX3_startsToken_0, eX3_startsToken_1, eX3_startsToken_4, eX3_startsToken_5, eX3_startsToken_6, eX3_startsToken_8, eX3_startsToken_11, eX3_startsToken_12, hl, nI_eq, h1, if_false]
      rw [eX3_startsToken_13 hd]
      simp only [eX3_startsToken_16, eX3_startsToken_29, eX3_startsToken_30, eX3_startsToken_33, eX3_startsToken_34_0, eX3_startsToken_34_1, je0, if_true]
theorem jp_d_iff {i : Nat} : jp_d tx i = true ↔ i < tx.1 ∧ 48 ≤ tx.2 i ∧ tx.2 i ≤ 57 := by unfold jp_d; simp
theorem X_numAt {i : Nat} (h : jX_T mem tx) (hL : tx.1 ≤ 120 ∧ ∀ i, i < tx.1 → tx.2 i ≤ 255) (hd : jp_d tx i = true) : xX3_numberAt [.ref 1, .int (nI i)] (jl_w mem lm) = some (some (.int (match jp_n tx i with | none => -1 | some v => nI v)), jl_w mem lm) := by
  obtain ⟨d1, d2, d3⟩ := jp_d_iff.mp hd
  have hl := h.2 i d1
  have hd1 := X_isd (lm := lm) (i := i + 1) h hL (by omega)
  have hd2 := X_isd (lm := lm) (i := i + 2) h hL (by omega)
  unfold jp_n
  simp (disch := first | assumption | omega) only [eX3_numberAt, eX3_numberAt_0, eX3_numberAt_1, eX3_numberAt_4, eX3_numberAt_5, eX3_numberAt_6, eX3_numberAt_8, eX3_numberAt_9, eX3_numberAt_10, eX3_numberAt_11, eX3_numberAt_12, eX3_numberAt_13, hl, pk_sub, nI_add]
  rw [eX3_numberAt_14 hd1]
  by_cases h1 : jp_d tx (i + 1) = true
  · obtain ⟨c1, c2, c3⟩ := jp_d_iff.mp h1
    have hl1 := h.2 (i + 1) c1
    rw [h1, if_pos rfl, if_neg (by decide)]
    by_cases h2 : tx.2 i = 48
    · have e : tx.2 i - 48 = 0 := by omega
      rw [if_pos (Or.inl h2)]
      simp (disch := first | assumption | omega) only [eX3_numberAt_17, eX3_numberAt_20, eX3_numberAt_21, eX3_numberAt_22, eX3_numberAt_23, eX3_numberAt_26, eX3_numberAt_27, eX3_numberAt_28, eX3_numberAt_29, eX3_numberAt_30, eX3_numberAt_33, eX3_numberAt_36, eX3_numberAt_37, je1, if_false, e, je0, if_true]
    · have e : ¬ tx.2 i - 48 = 0 := by omega
      simp (disch := first | assumption | omega) only [eX3_numberAt_17, eX3_numberAt_20, eX3_numberAt_21, eX3_numberAt_22, eX3_numberAt_23, eX3_numberAt_26, eX3_numberAt_27, eX3_numberAt_28, eX3_numberAt_29, je1, if_false, jz_eq, e, nI_add, Nat.one_ne_zero]
      rw [eX3_numberAt_30 hd2]
      by_cases h3 : jp_d tx (i + 2) = true
      · rw [if_pos h3, if_pos (Or.inr h3)]
        simp (disch := first | assumption | omega) only [eX3_numberAt_33, eX3_numberAt_36, eX3_numberAt_37, je1, if_false]
      · rw [if_neg h3, if_neg (by simp [h2, h3])]
        have e2 : 10 * (tx.2 i - 48) + tx.2 (i + 1) - 48 = 10 * (tx.2 i - 48) + (tx.2 (i + 1) - 48) := by omega
        simp (disch := first | assumption | omega) only [eX3_numberAt_33, eX3_numberAt_38, eX3_numberAt_40, eX3_numberAt_41, eX3_numberAt_42, eX3_numberAt_43, eX3_numberAt_46, eX3_numberAt_47, eX3_numberAt_48, eX3_numberAt_49, eX3_numberAt_50, eX3_numberAt_51, eX3_numberAt_53, eX3_numberAt_54, je0, if_true, pk_mul, nI_add, hl1, pk_sub, e2]
  · have h1f : jp_d tx (i + 1) = false := by simpa using h1
    rw [h1f, if_neg (by decide), if_pos rfl]
    simp only [eX3_numberAt_17, eX3_numberAt_20, eX3_numberAt_21, je0, if_true]
end XR

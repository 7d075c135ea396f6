/-! ===== numbers that a call is given ===== -/
theorem jq_rng (x : Int32) {a b : Nat} (hab : a ≤ b) (hb : b < 2 ^ 31) : (∃ v, a ≤ v ∧ v ≤ b ∧ x = nI v) ∨ (x < nI a ∨ nI b < x) := by
  by_cases h1 : x < nI a
  · exact Or.inr (Or.inl h1)
  by_cases h2 : nI b < x
  · exact Or.inr (Or.inr h2)
  by_cases h0 : x < 0
  · have h3 : (0 : Int32) ≤ nI a := nI_pos' (by omega)
    exact absurd (Int32.lt_of_lt_of_le h0 h3) h1
  obtain ⟨j, hj, rfl⟩ := nI_of h0
  have e1 : a ≤ j := by
    rcases Nat.lt_or_ge j a with q | q
    · exact absurd (nI_lt q (by omega)) h1
    · exact q
  have e2 : j ≤ b := by
    rcases Nat.lt_or_ge b j with q | q
    · exact absurd (nI_lt q hj) h2
    · exact q
  exact Or.inl ⟨j, e1, e2, rfl⟩
theorem jm_win {a b v : Nat} {mem : jl_M} {lm : jl_L} (h1 : a ≤ v) (h2 : v ≤ b) (hb : b < 2 ^ 31) : xX4_isWithin [.int (nI v), .int (nI a), .int (nI b)] (jl_w mem lm) = some (some (.int (nI 1)), jl_w mem lm) := by
  have e1 : ¬ v < a := by omega
  have e2 : ¬ b < v := by omega
  simp (disch := first | assumption | omega) only [eX4_isWithin, eX4_isWithin_0, eX4_isWithin_1, eX4_isWithin_2, eX4_isWithin_5, eX4_isWithin_6, eX4_isWithin_7, eX4_isWithin_10, eX4_isWithin_11, eX4_isWithin_14, eX4_isWithin_15_0, eX4_isWithin_15_1, nI_ltI, e1, e2, if_false]
theorem jm_winn {a b : Nat} {x : Int32} {mem : jl_M} {lm : jl_L} (h : x < nI a ∨ nI b < x) : xX4_isWithin [.int x, .int (nI a), .int (nI b)] (jl_w mem lm) = some (some (.int (nI 0)), jl_w mem lm) := by
  by_cases h1 : x < nI a
  · simp only [eX4_isWithin, eX4_isWithin_0, eX4_isWithin_1, eX4_isWithin_2, eX4_isWithin_5, eX4_isWithin_6, eX4_isWithin_7, eX4_isWithin_10, eX4_isWithin_11, eX4_isWithin_14, eX4_isWithin_15_0, eX4_isWithin_15_1, h1, if_true]
  · have h2 := h.resolve_left h1
    simp only [eX4_isWithin, eX4_isWithin_0, eX4_isWithin_1, eX4_isWithin_2, eX4_isWithin_5, eX4_isWithin_6, eX4_isWithin_7, eX4_isWithin_10, eX4_isWithin_11, eX4_isWithin_14, eX4_isWithin_15_0, eX4_isWithin_15_1, h1, h2, if_true, if_false]
theorem jm_str {v : Nat} {mem : jl_M} {lm : jl_L} (h1 : 1 ≤ v) (h2 : v ≤ 9) : xX4_isStrength [.int (nI v)] (jl_w mem lm) = some (some (.int (nI 1)), jl_w mem lm) := by
  simp only [eX4_isStrength, eX4_isStrength_0, eX4_isStrength_1, eX4_isStrength_2]
  rw [eX4_isStrength_4 (jm_win h1 h2 (by omega))]
  simp only [eX4_isStrength_7_0, eX4_isStrength_7_1]
theorem jm_strn {x : Int32} {mem : jl_M} {lm : jl_L} (h : x < nI 1 ∨ nI 9 < x) : xX4_isStrength [.int x] (jl_w mem lm) = some (some (.int (nI 0)), jl_w mem lm) := by
  simp only [eX4_isStrength, eX4_isStrength_0, eX4_isStrength_1, eX4_isStrength_2]
  rw [eX4_isStrength_4 (jm_winn h)]
  simp only [eX4_isStrength_7_0, eX4_isStrength_7_1]
theorem jm_cal {v : Nat} {mem : jl_M} {lm : jl_L} (h2 : v ≤ 20) : xX4_areCalms [.int (nI v)] (jl_w mem lm) = some (some (.int (nI 1)), jl_w mem lm) := by
  simp only [eX4_areCalms, eX4_areCalms_0, eX4_areCalms_1, eX4_areCalms_2]
  rw [eX4_areCalms_4 (jm_win (Nat.zero_le _) h2 (by omega))]
  simp only [eX4_areCalms_7_0, eX4_areCalms_7_1]
theorem jm_caln {x : Int32} {mem : jl_M} {lm : jl_L} (h : x < nI 0 ∨ nI 20 < x) : xX4_areCalms [.int x] (jl_w mem lm) = some (some (.int (nI 0)), jl_w mem lm) := by
  simp only [eX4_areCalms, eX4_areCalms_0, eX4_areCalms_1, eX4_areCalms_2]
  rw [eX4_areCalms_4 (jm_winn h)]
  simp only [eX4_areCalms_7_0, eX4_areCalms_7_1]
theorem jm_side {n r : Nat} {mem : jl_M} {lm : jl_L} (hn : mem 7 0 = nI n) (hn8 : n ≤ 8) (hr : r < n) : xX4_isSide [.ref 0, .int (nI r)] (jl_w mem lm) = some (some (.int (nI 1)), jl_w mem lm) := by
  simp only [eX4_isSide, eX4_isSide_0, eX4_isSide_1, eX4_isSide_4]
  rw [eX4_isSide_5 (jm_has hn hn8 hr)]
  simp only [eX4_isSide_8_0, eX4_isSide_8_1]
theorem jm_siden {n : Nat} {x : Int32} {mem : jl_M} {lm : jl_L} (hn : mem 7 0 = nI n) (hx : x < 0 ∨ nI n ≤ x) : xX4_isSide [.ref 0, .int x] (jl_w mem lm) = some (some (.int (nI 0)), jl_w mem lm) := by
  simp only [eX4_isSide, eX4_isSide_0, eX4_isSide_1, eX4_isSide_4]
  rw [eX4_isSide_5 (jm_hasn hn hx)]
  simp only [eX4_isSide_8_0, eX4_isSide_8_1]
theorem jm_gno {s g : Nat} {mem : jl_M} {lm : jl_L} : xX4_gustNumber [.int (nI s), .int (nI g)] (jl_w mem lm) = some (some (.int (nI (10 * s + g))), jl_w mem lm) := by
  simp only [eX4_gustNumber, eX4_gustNumber_0, eX4_gustNumber_2, eX4_gustNumber_3, eX4_gustNumber_4, eX4_gustNumber_5, eX4_gustNumber_6, pk_mul, nI_add]
theorem je1 : ¬ nI 1 = (0 : Int32) := by decide
theorem je0 : (nI 0 = (0 : Int32)) = True := propext ⟨fun _ => trivial, fun _ => rfl⟩
/-! ===== the class's state ===== -/
abbrev jq_X : Type := Nat × (Nat → Nat)
abbrev jq_H : Type := Nat × (Nat → Nat) × (Nat → Nat) × (Nat → Nat)
def jX_T (mem : jl_M) (tx : jq_X) : Prop := mem 1 1 = nI tx.1 ∧ ∀ i, i < tx.1 → mem 2 i = nI (tx.2 i)
def jX_U (mem : jl_M) (un : List jq_M) : Prop := ∃ p, p < 10 ∧ mem 0 5 = nI p ∧ mem 0 6 = nI un.length ∧ ∀ (i : Nat) (m : jq_M), un[i]? = some m → jx_M mem (26 + 3 * ((p + 9 - i) % 10)) m
def jX_I (mem : jl_M) (im : Nat → Option jq_M) : Prop := ∀ i, i < 2 → (im i = none → mem 21 i = nI 0) ∧ ∀ m, im i = some m → mem 21 i = nI 1 ∧ jx_M mem (56 + 3 * i) m
def jX_H (mem : jl_M) (hd : jq_H) : Prop := mem 0 12 = nI hd.1 ∧ ∀ i, i < hd.1 → mem 22 i = nI (hd.2.1 i) ∧ mem 23 i = nI (hd.2.2.1 i) ∧ mem 24 i = nI (hd.2.2.2 i)
def jX (mem : jl_M) (lm : jl_L) (tx : jq_X) (K : jq_K) (mo : jq_M) (un : List jq_M) (im : Nat → Option jq_M) (hd : jq_H) (tr : Int64) : Prop := jX_T mem tx ∧ jx_K mem K ∧ jx_M mem 11 mo ∧ jX_U mem un ∧ jX_I mem im ∧ jX_H mem hd ∧ lm 0 14 = tr
/-- what is true of every state -/
def jW (tx : jq_X) (K : jq_K) (mo : jq_M) (un : List jq_M) (im : Nat → Option jq_M) (hd : jq_H) : Prop :=
  (tx.1 ≤ 120 ∧ ∀ i, i < tx.1 → tx.2 i ≤ 255) ∧ jq_WK K ∧ (jq_WM K.1 mo ∧ mo 0 ≤ 999) ∧ (un.length ≤ 10 ∧ ∀ m ∈ un, jq_WM K.1 m ∧ m 0 ≤ 999) ∧ (∀ i m, i < 2 → im i = some m → jq_WM K.1 m ∧ m 0 ≤ 999) ∧ (hd.1 ≤ 6 ∧ ∀ i, i < hd.1 → hd.2.1 i < K.1 ∧ hd.2.2.1 i ≤ 20 ∧ hd.2.2.2 i ≤ 1)
theorem jX_T.keep {mem mem' : jl_M} {tx : jq_X} (h : jX_T mem tx) (h1 : mem' 1 1 = mem 1 1) (h2 : mem' 2 = mem 2) : jX_T mem' tx := by
  unfold jX_T
  rw [h1, h2]
  exact h
theorem jX_U.keep {mem mem' : jl_M} {un : List jq_M} (h : jX_U mem un) (h5 : mem' 0 5 = mem 0 5) (h6 : mem' 0 6 = mem 0 6) (hr : ∀ k, 26 ≤ k → k ≤ 55 → mem' k = mem k) : jX_U mem' un := by
  obtain ⟨p, p1, p2, p3, p4⟩ := h
  refine ⟨p, p1, by rw [h5]; exact p2, by rw [h6]; exact p3, fun i m hm => ?_⟩
  have hlt : (p + 9 - i) % 10 < 10 := Nat.mod_lt _ (by omega)
  exact (p4 i m hm).keep (hr _ (by omega) (by omega)) (hr _ (by omega) (by omega)) (hr _ (by omega) (by omega))
theorem jX_I.keep {mem mem' : jl_M} {im : Nat → Option jq_M} (h : jX_I mem im) (h21 : mem' 21 = mem 21) (hr : ∀ k, 56 ≤ k → k ≤ 61 → mem' k = mem k) : jX_I mem' im := by
  intro i hi
  rw [h21]
  refine ⟨(h i hi).1, fun m hm => ⟨((h i hi).2 m hm).1, ((h i hi).2 m hm).2.keep (hr _ (by omega) (by omega)) (hr _ (by omega) (by omega)) (hr _ (by omega) (by omega))⟩⟩
theorem jX_H.keep {mem mem' : jl_M} {hd : jq_H} (h : jX_H mem hd) (h12 : mem' 0 12 = mem 0 12) (h2 : mem' 22 = mem 22) (h3 : mem' 23 = mem 23) (h4 : mem' 24 = mem 24) : jX_H mem' hd := by
  unfold jX_H
  rw [h12, h2, h3, h4]
  exact h
/-- rows that hold nothing lasting -/
abbrev jl_sc : Nat → Prop := fun k => (14 ≤ k ∧ k ≤ 18) ∨ k = 25 ∨ (3 ≤ k ∧ k ≤ 6)
theorem jX.keep {mem mem' : jl_M} {lm : jl_L} {tx : jq_X} {K : jq_K} {mo : jq_M} {un : List jq_M} {im : Nat → Option jq_M} {hd : jq_H} {tr : Int64} (h : jX mem lm tx K mo un im hd tr) (hF : jl_F jl_sc mem mem') : jX mem' lm tx K mo un im hd tr := by
  obtain ⟨a1, a2, a3, a4, a5, a6, a7⟩ := h
  refine ⟨a1.keep (by rw [hF 1 (by omega)]) (hF 2 (by omega)), a2.keep (hF 7 (by omega)) (hF 8 (by omega)) (hF 9 (by omega)) (hF 10 (by omega)), a3.keep (hF 11 (by omega)) (hF 12 (by omega)) (hF 13 (by omega)), a4.keep (by rw [hF 0 (by omega)]) (by rw [hF 0 (by omega)]) (fun k h1 h2 => hF k (by omega)), a5.keep (hF 21 (by omega)) (fun k h1 h2 => hF k (by omega)), a6.keep (by rw [hF 0 (by omega)]) (hF 22 (by omega)) (hF 23 (by omega)) (hF 24 (by omega)), a7⟩
/-- the other object's rows stay -/
abbrev jl_hi (mem mem' : jl_M) : Prop := ∀ k, 62 ≤ k → mem' k = mem k
section XM
variable {mem : jl_M} {lm : jl_L} {tx : jq_X} {K : jq_K} {mo : jq_M} {un : List jq_M} {im : Nat → Option jq_M} {hd : jq_H} {tr : Int64}
theorem X_type_b {x : Int32} (h : x < nI 0 ∨ nI 255 < x) : xX4_type [.ref 0, .int x] (jl_w mem lm) = some (some (.int (-1)), jl_w mem lm) := by
  simp only [eX4_type, eX4_type_0, eX4_type_1, eX4_type_2]
  rw [eX4_type_5 (jm_winn h)]
  simp only [eX4_type_8, eX4_type_11, eX4_type_12, je0, if_true]
theorem X_type_f {v : Nat} (hv : v ≤ 255) (h : jX_T mem tx) (hf : tx.1 = 120) : xX4_type [.ref 0, .int (nI v)] (jl_w mem lm) = some (some (.int (-3)), jl_w mem lm) := by
  have e : ¬ 120 < 120 := by omega
  have ha : xX3_add [.ref 1, .int (nI v)] (jl_w mem lm) = some (some (.int (nI 0)), jl_w mem lm) := by
    simp (disch := first | assumption | omega) only [eX3_add, eX3_add_0, eX3_add_1, eX3_add_4, eX3_add_6, eX3_add_9, eX3_add_10_0, eX3_add_10_1, h.1, hf, nI_ltI, e, if_false]
  simp only [eX4_type, eX4_type_0, eX4_type_1, eX4_type_2]
  rw [eX4_type_5 (jm_win (Nat.zero_le _) hv (by omega))]
  simp only [eX4_type_8, eX4_type_11, eX4_type_12, eX4_type_13, eX4_type_14, eX4_type_17, je1, if_false]
  rw [eX4_type_18 ha]
  simp only [eX4_type_21, eX4_type_24, eX4_type_25, eX4_type_28, eX4_type_31, eX4_type_34, eX4_type_36, je0, if_true]
theorem X_type_o {v : Nat} (hv : v ≤ 255) (h : jX mem lm tx K mo un im hd tr) (hf : tx.1 < 120) : ∃ mem', xX4_type [.ref 0, .int (nI v)] (jl_w mem lm) = some (some (.int (nI (tx.1 + 1))), jl_w mem' lm) ∧ jX mem' lm (tx.1 + 1, fun i => if i = tx.1 then v else tx.2 i) K mo un im hd tr ∧ jl_hi mem mem' := by
  obtain ⟨a1, a2, a3, a4, a5, a6, a7⟩ := h
  have q1 : ∀ x, jl_s mem 2 tx.1 x 1 1 = nI tx.1 := fun x => by rw [js_mk (by omega), a1.1]
  have ha : xX3_add [.ref 1, .int (nI v)] (jl_w mem lm) = some (some (.int (nI 1)), jl_w (jl_s (jl_s mem 2 tx.1 (nI v)) 1 1 (nI (tx.1 + 1))) lm) := by
    simp (disch := first | assumption | omega) only [eX3_add, eX3_add_0, eX3_add_1, eX3_add_4, eX3_add_6, eX3_add_9, eX3_add_10_0, eX3_add_10_1, eX3_add_11, eX3_add_12, eX3_add_15, eX3_add_16, eX3_add_19, eX3_add_20, eX3_add_21, eX3_add_22, eX3_add_23, eX3_add_26, eX3_add_27, eX3_add_28, eX3_add_31, eX3_add_32_0, eX3_add_32_1, a1.1, nI_ltI, hf, if_true, q1, nI_add]
  refine ⟨jl_s (jl_s mem 2 tx.1 (nI v)) 1 1 (nI (tx.1 + 1)), ?_, ⟨⟨?_, fun i hi => ?_⟩, a2.keep ?_ ?_ ?_ ?_, a3.keep ?_ ?_ ?_, a4.keep ?_ ?_ (fun k h1 h2 => ?_), a5.keep ?_ (fun k h1 h2 => ?_), a6.keep ?_ ?_ ?_ ?_, a7⟩, fun k hk => ?_⟩
  · simp only [eX4_type, eX4_type_0, eX4_type_1, eX4_type_2]
    rw [eX4_type_5 (jm_win (Nat.zero_le _) hv (by omega))]
    simp only [eX4_type_8, eX4_type_11, eX4_type_12, eX4_type_13, eX4_type_14, eX4_type_17, je1, if_false]
    rw [eX4_type_18 ha]
    simp only [eX4_type_21, eX4_type_24, eX4_type_25, eX4_type_28, eX4_type_31, eX4_type_34, eX4_type_36, je1, if_false, js_hit]
  · rw [js_hit]
  · rw [js_mk (by omega)]
    by_cases e : i = tx.1
    · subst e
      rw [js_hit]
      show nI v = nI (if tx.1 = tx.1 then v else _)
      rw [if_pos rfl]
    · rw [js_mj e, a1.2 i (by have : i < tx.1 + 1 := hi; omega)]
      show _ = nI (if i = tx.1 then v else tx.2 i)
      rw [if_neg e]
  all_goals first | rw [js_ne (by omega), js_ne (by omega)] | rw [js_mk (by omega), js_mk (by omega)]
theorem X_clear (h : jX mem lm tx K mo un im hd tr) : ∃ mem', xX4_clear [.ref 0] (jl_w mem lm) = some (some (.int (nI tx.1)), jl_w mem' lm) ∧ jX mem' lm (0, tx.2) K mo un im hd tr ∧ jl_hi mem mem' := by
  obtain ⟨a1, a2, a3, a4, a5, a6, a7⟩ := h
  refine ⟨jl_s mem 1 1 (nI 0), ?_, ⟨⟨by rw [js_hit], fun i hi => absurd hi (by simp)⟩, a2.keep ?_ ?_ ?_ ?_, a3.keep ?_ ?_ ?_, a4.keep ?_ ?_ (fun k h1 h2 => ?_), a5.keep ?_ (fun k h1 h2 => ?_), a6.keep ?_ ?_ ?_ ?_, a7⟩, fun k hk => ?_⟩
  · simp only [eX4_clear, eX4_clear_0, eX4_clear_1, eX4_clear_4, eX4_clear_7, eX4_clear_8, eX4_clear_9, eX4_clear_12, eX4_clear_13, eX4_clear_16, eX4_clear_17, a1.1]
  all_goals first | rw [js_ne (by omega)] | rw [js_mk (by omega)]
theorem X_rod_b {x y : Int32} (hK : jx_K mem K) (h : x < 0 ∨ nI K.1 ≤ x) : xX4_rod [.ref 0, .int x, .int y] (jl_w mem lm) = some (some (.int (-1)), jl_w mem lm) := by
  simp only [eX4_rod, eX4_rod_0, eX4_rod_1, eX4_rod_4]
  rw [eX4_rod_5 (jm_hasn hK.1 h)]
  simp only [eX4_rod_8, eX4_rod_11, eX4_rod_12, je0, if_true]
/-- what is asked of a rod -/
def jq_ask (K : jq_K) (mo : jq_M) (r w : Nat) : Nat := match w with
  | 0 => K.2.2.1 r
  | 1 => K.2.2.2.1 r
  | 2 => K.2.2.2.2 r
  | 3 => mo (3 + r)
  | _ => mo (11 + r)
theorem jq_tsn {x : Int32} {ts : List Nat} {d : Nat} (N : Nat) (hN : ts.length = N + 1) (hl2 : N < 1000) (h : x < nI 0 ∨ nI N < x) : (if x.toInt < 0 then d else (ts[(x.toInt - 0).toNat]?).getD d) = d := by
  rcases h with h | h
  · have : x.toInt < 0 := by rw [Int32.lt_iff_toInt_lt] at h; exact h
    rw [if_pos this]
  · by_cases h0 : x.toInt < 0
    · rw [if_pos h0]
    · rw [if_neg h0]
      have h1 : (nI N).toInt < x.toInt := by rw [Int32.lt_iff_toInt_lt] at h; exact h
      rw [nI_toInt (by omega)] at h1
      rw [List.getElem?_eq_none (by omega)]
      rfl
theorem X_rod_w {r : Nat} {y : Int32} (hK : jx_K mem K) (hk : jq_WK K) (hr : r < K.1) (hy : y < nI 0 ∨ nI 4 < y) : xX4_rod [.ref 0, .int (nI r), .int y] (jl_w mem lm) = some (some (.int (-1)), jl_w mem lm) := by
  simp only [eX4_rod, eX4_rod_0, eX4_rod_1, eX4_rod_4]
  rw [eX4_rod_5 (jm_has hK.1 hk.1 hr)]
  simp only [eX4_rod_8, eX4_rod_11, eX4_rod_12, eX4_rod_13, je1, if_false]
  rw [eX4_rod_14, jq_tsn 4 rfl (by decide) hy]
  simp only [eX4_rod_98, eX4_rod_99]
theorem X_rod_o {r w : Nat} (hK : jx_K mem K) (hM : jx_M mem 11 mo) (hk : jq_WK K) (hr : r < K.1) (hw : w ≤ 4) : xX4_rod [.ref 0, .int (nI r), .int (nI w)] (jl_w mem lm) = some (some (.int (nI (jq_ask K mo r w))), jl_w mem lm) := by
  have h8 := hk.1
  obtain ⟨g1, g2, g3⟩ := hK.2.2 r hr
  have g4 := hM.2.2.2.1 r (by omega)
  have g5 := hM.2.2.2.2 r (by omega)
  have h5 : jl_K 7 = 5 := rfl
  simp only [eX4_rod, eX4_rod_0, eX4_rod_1, eX4_rod_4]
  rw [eX4_rod_5 (jm_has hK.1 hk.1 hr)]
  simp only [eX4_rod_8, eX4_rod_11, eX4_rod_12, eX4_rod_13, je1, if_false]
  rw [eX4_rod_14]
  match w, hw with
  | 0, _ => rw [show (if (nI 0).toInt < 0 then 98 else (([48, 58, 68, 78, 88] : List Nat)[((nI 0).toInt - 0).toNat]?).getD 98) = 48 from by decide +kernel]; simp (disch := first | assumption | omega) only [eX4_rod_48, eX4_rod_49, eX4_rod_52, eX4_rod_55, eX4_rod_56, eX4_rod_57, g1]; rfl
  | 1, _ => rw [show (if (nI 1).toInt < 0 then 98 else (([48, 58, 68, 78, 88] : List Nat)[((nI 1).toInt - 0).toNat]?).getD 98) = 58 from by decide +kernel]; simp (disch := first | assumption | omega) only [eX4_rod_58, eX4_rod_59, eX4_rod_62, eX4_rod_65, eX4_rod_66, eX4_rod_67, g2]; rfl
  | 2, _ => rw [show (if (nI 2).toInt < 0 then 98 else (([48, 58, 68, 78, 88] : List Nat)[((nI 2).toInt - 0).toNat]?).getD 98) = 68 from by decide +kernel]; simp (disch := first | assumption | omega) only [eX4_rod_68, eX4_rod_69, eX4_rod_72, eX4_rod_75, eX4_rod_76, eX4_rod_77, g3]; rfl
  | 3, _ => rw [show (if (nI 3).toInt < 0 then 98 else (([48, 58, 68, 78, 88] : List Nat)[((nI 3).toInt - 0).toNat]?).getD 98) = 78 from by decide +kernel]; simp (disch := first | assumption | omega) only [eX4_rod_78, eX4_rod_79, eX4_rod_82, eX4_rod_85, eX4_rod_86, eX4_rod_87, g4]; rfl
  | 4, _ => rw [show (if (nI 4).toInt < 0 then 98 else (([48, 58, 68, 78, 88] : List Nat)[((nI 4).toInt - 0).toNat]?).getD 98) = 88 from by decide +kernel]; simp (disch := first | assumption | omega) only [eX4_rod_88, eX4_rod_89, eX4_rod_92, eX4_rod_95, eX4_rod_96, eX4_rod_97, g5]; rfl
theorem X_side_b {x : Int32} (hK : jx_K mem K) (h : x < 0 ∨ nI K.1 ≤ x) : xX4_side [.ref 0, .int x] (jl_w mem lm) = some (some (.int (-1)), jl_w mem lm) := by
  simp only [eX4_side, eX4_side_0, eX4_side_1]
  rw [eX4_side_2 (jm_siden hK.1 h)]
  simp only [eX4_side_5, eX4_side_19, eX4_side_20, je0, if_true]
theorem X_side_o {t : Nat} (hK : jx_K mem K) (hM : jx_M mem 11 mo) (hk : jq_WK K) (hw : jq_WM K.1 mo) (ht : t < K.1) : xX4_side [.ref 0, .int (nI t)] (jl_w mem lm) = some (some (.int (nI (jq_at K.1 mo t))), jl_w mem lm) := by
  have h8 := hk.1
  simp only [eX4_side, eX4_side_0, eX4_side_1]
  rw [eX4_side_2 (jm_side hK.1 h8 ht)]
  simp only [eX4_side_5, eX4_side_8, eX4_side_9, eX4_side_12, je1, if_false]
  rw [eX4_side_13 (jm_at (b := 11) rfl hK hM hk hw ht)]
  simp only [eX4_side_16, eX4_side_20]
end XM

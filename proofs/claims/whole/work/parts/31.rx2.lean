theorem jX.mo {mem mem' : jl_M} {lm : jl_L} {tx : jq_X} {K : jq_K} {mo mo' : jq_M} {un : List jq_M} {im : Nat → Option jq_M} {hd : jq_H} {tr : Int64} (h : jX mem lm tx K mo un im hd tr) (hF : jl_F (fun k => 11 ≤ k ∧ k ≤ 13) mem mem') (hM : jx_M mem' 11 mo') : jX mem' lm tx K mo' un im hd tr := by
  obtain ⟨a1, a2, a3, a4, a5, a6, a7⟩ := h
  exact ⟨a1.keep (by rw [hF 1 (by omega)]) (hF 2 (by omega)), a2.keep (hF 7 (by omega)) (hF 8 (by omega)) (hF 9 (by omega)) (hF 10 (by omega)), hM, a4.keep (by rw [hF 0 (by omega)]) (by rw [hF 0 (by omega)]) (fun k h1 h2 => hF k (by omega)), a5.keep (hF 21 (by omega)) (fun k h1 h2 => hF k (by omega)), a6.keep (by rw [hF 0 (by omega)]) (hF 22 (by omega)) (hF 23 (by omega)) (hF 24 (by omega)), a7⟩
theorem jq_mn {a : Nat} (h : a ≤ 11) : (if nI 10 < nI a then nI 10 else nI a) = nI (min 10 a) := by
  have e := nI_ltI (a := 10) (b := a) (by omega) (by omega)
  by_cases h : 10 < a
  · rw [if_pos (e.mpr h), Nat.min_eq_left (by omega)]
  · rw [if_neg (fun q => h (e.mp q)), Nat.min_eq_right (by omega)]
theorem jl_K26 {p : Nat} (h : p < 10) : jl_K (26 + 3 * p) = 4 := by
  have : ∀ p, p < 10 → jl_K (26 + 3 * p) = 4 := by decide +kernel
  exact this p h
theorem jl_K56 {p : Nat} (h : p < 2) : jl_K (56 + 3 * p) = 4 := by
  have : ∀ p, p < 2 → jl_K (56 + 3 * p) = 4 := by decide +kernel
  exact this p h
section XM
variable {mem : jl_M} {lm : jl_L} {tx : jq_X} {K : jq_K} {mo : jq_M} {un : List jq_M} {im : Nat → Option jq_M} {hd : jq_H} {tr : Int64}
theorem X_remember (h : jX mem lm tx K mo un im hd tr) (hun : un.length ≤ 10) : ∃ mem', xX4_remember [.ref 0] (jl_w mem lm) = some (none, jl_w mem' lm) ∧ jX mem' lm tx K mo (List.take 10 (mo :: un)) im hd tr ∧ jl_hi mem mem' := by
  obtain ⟨a1, a2, a3, ⟨p, p1, p2, p3, p4⟩, a5, a6, a7⟩ := h
  have hb := jl_K26 p1
  obtain ⟨m1, e1, r1, f1⟩ := jm_copy (b := 26 + 3 * p) (c := 11) (lm := lm) hb rfl (by omega) a3
  have c0 : m1 0 = mem 0 := f1 0 (by omega)
  have hmn := jq_mn (a := un.length + 1) (by omega)
  have hlen : (List.take 10 (mo :: un)).length = min 10 (un.length + 1) := by rw [List.length_take]; rfl
  have hp : ∃ p', p' < 10 ∧ (p' = p + 1 ∨ (p = 9 ∧ p' = 0)) ∧ xX4_remember [.ref 0] (jl_w mem lm) = some (none, jl_w (jl_s (jl_s m1 0 5 (nI p')) 0 6 (nI (min 10 (un.length + 1)))) lm) := by
    have q1 : ∀ x, jl_s m1 0 5 x 0 6 = nI un.length := fun x => by rw [js_mj (by omega), c0, p3]
    have q5 : m1 0 5 = nI p := by rw [c0, p2]
    by_cases h9 : 9 ≤ p
    · refine ⟨0, by omega, Or.inr ⟨by omega, rfl⟩, ?_⟩
      simp (disch := first | assumption | omega) only [eX4_remember, eX4_remember_0, eX4_remember_1, eX4_remember_4, eX4_remember_5, eX4_remember_8, eX4_remember_9, eX4_remember_10, p2]
      rw [eX4_remember_13 hb e1]
      simp (disch := first | assumption | omega) only [eX4_remember_16, eX4_remember_17, eX4_remember_18, eX4_remember_21, eX4_remember_23, eX4_remember_26, eX4_remember_27, eX4_remember_30, eX4_remember_31, eX4_remember_32, eX4_remember_35, eX4_remember_36, eX4_remember_39, eX4_remember_40, eX4_remember_41, eX4_remember_44, eX4_remember_45, eX4_remember_46, eX4_remember_48, eX4_remember_51, eX4_remember_54, q5, nI_leI, h9, if_true, q1, nI_add, hmn]
    · refine ⟨p + 1, by omega, Or.inl rfl, ?_⟩
      simp (disch := first | assumption | omega) only [eX4_remember, eX4_remember_0, eX4_remember_1, eX4_remember_4, eX4_remember_5, eX4_remember_8, eX4_remember_9, eX4_remember_10, p2]
      rw [eX4_remember_13 hb e1]
      simp (disch := first | assumption | omega) only [eX4_remember_16, eX4_remember_17, eX4_remember_18, eX4_remember_21, eX4_remember_23, eX4_remember_26, eX4_remember_27, eX4_remember_30, eX4_remember_31, eX4_remember_32, eX4_remember_35, eX4_remember_36, eX4_remember_39, eX4_remember_40, eX4_remember_41, eX4_remember_44, eX4_remember_45, eX4_remember_46, eX4_remember_48, eX4_remember_51, eX4_remember_54, q5, nI_leI, h9, if_false, q1, nI_add, hmn]
  obtain ⟨p', h1, h2, h3⟩ := hp
  have hrow : ∀ k, k ≠ 0 → jl_s (jl_s m1 0 5 (nI p')) 0 6 (nI (min 10 (un.length + 1))) k = m1 k := fun k hk => by rw [js_ne hk, js_ne hk]
  refine ⟨_, h3, ⟨a1.keep ?_ ?_, a2.keep ?_ ?_ ?_ ?_, a3.keep ?_ ?_ ?_, ⟨p', h1, ?_, ?_, fun i m hm => ?_⟩, a5.keep ?_ (fun k h1 h2 => ?_), a6.keep ?_ ?_ ?_ ?_, a7⟩, fun k hk => ?_⟩
  · rw [hrow 1 (by omega), f1 1 (by omega)]
  · rw [hrow 2 (by omega), f1 2 (by omega)]
  · rw [hrow _ (by omega), f1 _ (by omega)]
  · rw [hrow _ (by omega), f1 _ (by omega)]
  · rw [hrow _ (by omega), f1 _ (by omega)]
  · rw [hrow _ (by omega), f1 _ (by omega)]
  · rw [hrow _ (by omega), f1 _ (by omega)]
  · rw [hrow _ (by omega), f1 _ (by omega)]
  · rw [hrow _ (by omega), f1 _ (by omega)]
  · rw [js_mj (by omega), js_hit]
  · rw [js_hit, hlen]
  · cases i with
    | zero =>
      simp at hm
      subst hm
      have e : (p' + 9 - 0) % 10 = p := by omega
      rw [e]
      exact r1.keep (hrow _ (by omega)) (hrow _ (by omega)) (hrow _ (by omega))
    | succ i =>
      have hi : i + 1 < 10 := by
        have := (List.getElem?_eq_some_iff.mp hm).1
        rw [hlen] at this
        omega
      rw [List.getElem?_take_of_lt hi, List.getElem?_cons_succ] at hm
      have e : (p' + 9 - (i + 1)) % 10 = (p + 9 - i) % 10 := by omega
      have hne : (p + 9 - i) % 10 ≠ p := by omega
      rw [e]
      exact (p4 i m hm).keep (by rw [hrow _ (by omega), f1 _ (by omega)]) (by rw [hrow _ (by omega), f1 _ (by omega)]) (by rw [hrow _ (by omega), f1 _ (by omega)])
  · rw [hrow _ (by omega), f1 _ (by omega)]
  · rw [hrow _ (by omega), f1 _ (by omega)]
  · rw [js_mj (by omega), js_mj (by omega), c0]
  · rw [hrow _ (by omega), f1 _ (by omega)]
  · rw [hrow _ (by omega), f1 _ (by omega)]
  · rw [hrow _ (by omega), f1 _ (by omega)]
  · rw [hrow _ (by omega), f1 _ (by omega)]
theorem X_blows_b {x y : Int32} (hK : jx_K mem K) (hk : jq_WK K) (h : (x < 0 ∨ nI K.1 ≤ x) ∨ ((∃ s, s < K.1 ∧ x = nI s) ∧ (y < nI 1 ∨ nI 9 < y))) : xX4_blows [.ref 0, .int x, .int y] (jl_w mem lm) = some (some (.int (-1)), jl_w mem lm) := by
  simp only [eX4_blows, eX4_blows_0, eX4_blows_1]
  rcases h with h | ⟨⟨s, hs, rfl⟩, h⟩
  · rw [eX4_blows_2 (jm_siden hK.1 h)]
    simp only [eX4_blows_5, eX4_blows_15, eX4_blows_16, je0, if_true]
  · rw [eX4_blows_2 (jm_side hK.1 hk.1 hs)]
    simp only [eX4_blows_5, eX4_blows_8, je1, if_false]
    rw [eX4_blows_9 (jm_strn h)]
    simp only [eX4_blows_12, eX4_blows_15, eX4_blows_16, je0, if_true]
theorem X_blows_s {s g : Nat} (hK : jx_K mem K) (hM : jx_M mem 11 mo) (hk : jq_WK K) (hs : s < K.1) (hg : 1 ≤ g ∧ g ≤ 9) (h9 : mo 0 = 999) : xX4_blows [.ref 0, .int (nI s), .int (nI g)] (jl_w mem lm) = some (some (.int (-2)), jl_w mem lm) := by
  have e : ¬ 999 < 999 := by omega
  simp only [eX4_blows, eX4_blows_0, eX4_blows_1]
  rw [eX4_blows_2 (jm_side hK.1 hk.1 hs)]
  simp only [eX4_blows_5, eX4_blows_8, je1, if_false]
  rw [eX4_blows_9 (jm_str hg.1 hg.2)]
  simp (disch := first | assumption | omega) only [eX4_blows_12, eX4_blows_15, eX4_blows_16, eX4_blows_17, eX4_blows_18, eX4_blows_21, eX4_blows_24, eX4_blows_27, eX4_blows_30, eX4_blows_32, je1, if_false, hM.1, h9, nI_ltI, e]
theorem X_blows_o {s g : Nat} (h : jX mem lm tx K mo un im hd tr) (hun : un.length ≤ 10) (hk : jq_WK K) (hw : jq_WM K.1 mo) (hs : s < K.1) (hg : 1 ≤ g ∧ g ≤ 9) (h9 : mo 0 < 999) : ∃ mem', xX4_blows [.ref 0, .int (nI s), .int (nI g)] (jl_w mem lm) = some (some (.int (jq_an (jq_bw K s g mo))), jl_w mem' lm) ∧ jX mem' lm tx K (jq_beat K s g mo) (List.take 10 (mo :: un)) im hd tr ∧ jl_hi mem mem' := by
  obtain ⟨m1, e1, r1, f1⟩ := X_remember h hun
  obtain ⟨m2, e2, r2, f2⟩ := jm_gust (b := 11) (lm := lm) rfl r1.2.1 r1.2.2.1 hk hw hs hg
  refine ⟨m2, ?_, r1.mo (f2.up (fun k hk => by omega)) r2, fun k hk => by rw [f2 k (by omega), f1 k hk]⟩
  simp only [eX4_blows, eX4_blows_0, eX4_blows_1]
  rw [eX4_blows_2 (jm_side h.2.1.1 hk.1 hs)]
  simp only [eX4_blows_5, eX4_blows_8, je1, if_false]
  rw [eX4_blows_9 (jm_str hg.1 hg.2)]
  simp (disch := first | assumption | omega) only [eX4_blows_12, eX4_blows_15, eX4_blows_16, eX4_blows_17, eX4_blows_18, eX4_blows_21, eX4_blows_24, eX4_blows_27, eX4_blows_30, eX4_blows_32, eX4_blows_33, je1, if_false, h.2.2.1.1, h9, nI_ltI, if_true]
  rw [eX4_blows_34 e1]
  simp only [eX4_blows_37, eX4_blows_38, eX4_blows_41, eX4_blows_42]
  rw [eX4_blows_43 e2]
  simp only [eX4_blows_46]
theorem X_calms_s (hK : jx_K mem K) (hM : jx_M mem 11 mo) (hk : jq_WK K) (h9 : K.1 = 0 ∨ mo 0 = 999) : xX4_calms [.ref 0] (jl_w mem lm) = some (some (.int (-2)), jl_w mem lm) := by
  have h8 := hk.1
  have h5 : jl_K 7 = 5 := rfl
  have e : ¬ 999 < 999 := by omega
  by_cases h0 : K.1 = 0
  · simp (disch := first | assumption | omega) only [eX4_calms, eX4_calms_0, eX4_calms_1, eX4_calms_4, eX4_calms_7, eX4_calms_10, eX4_calms_11, eX4_calms_14, eX4_calms_17, eX4_calms_20, eX4_calms_23, eX4_calms_25, hK.1, jz_eq, h0, if_true]
  · have h9 := h9.resolve_left h0
    simp (disch := first | assumption | omega) only [eX4_calms, eX4_calms_0, eX4_calms_1, eX4_calms_4, eX4_calms_7, eX4_calms_10, eX4_calms_11, eX4_calms_14, eX4_calms_17, eX4_calms_20, eX4_calms_23, eX4_calms_25, hK.1, jz_eq, h0, if_false, hM.1, h9, nI_ltI, e]
theorem X_calms_o (h : jX mem lm tx K mo un im hd tr) (hun : un.length ≤ 10) (hk : jq_WK K) (hw : jq_WM K.1 mo) (h0 : 0 < K.1) (h9 : mo 0 < 999) : ∃ mem', xX4_calms [.ref 0] (jl_w mem lm) = some (some (.int (jq_an (jq_bw K 0 0 mo))), jl_w mem' lm) ∧ jX mem' lm tx K (jq_beat K 0 0 mo) (List.take 10 (mo :: un)) im hd tr ∧ jl_hi mem mem' := by
  have h8 := hk.1
  have h5 : jl_K 7 = 5 := rfl
  obtain ⟨m1, e1, r1, f1⟩ := X_remember h hun
  obtain ⟨m2, e2, r2, f2⟩ := jm_calm (b := 11) (lm := lm) rfl r1.2.1 r1.2.2.1 hk hw h0
  refine ⟨m2, ?_, r1.mo (f2.up (fun k hk => by omega)) r2, fun k hk => by rw [f2 k (by omega), f1 k hk]⟩
  have h0' : ¬ K.1 = 0 := by omega
  simp (disch := first | assumption | omega) only [eX4_calms, eX4_calms_0, eX4_calms_1, eX4_calms_4, eX4_calms_7, eX4_calms_10, eX4_calms_11, eX4_calms_14, eX4_calms_17, eX4_calms_20, eX4_calms_23, eX4_calms_25, eX4_calms_26, h.2.1.1, jz_eq, h0', if_false, h.2.2.1.1, h9, nI_ltI, if_true]
  rw [eX4_calms_27 e1]
  simp only [eX4_calms_30, eX4_calms_31]
  rw [eX4_calms_34 e2]
  simp only [eX4_calms_37]
theorem X_changes_b {x y : Int32} (hK : jx_K mem K) (hk : jq_WK K) (h : (x < 0 ∨ nI K.1 ≤ x) ∨ ((∃ s, s < K.1 ∧ x = nI s) ∧ (y < 0 ∨ nI K.1 ≤ y)) ∨ (∃ s, s < K.1 ∧ x = nI s ∧ y = nI s)) : xX4_changes [.ref 0, .int x, .int y] (jl_w mem lm) = some (some (.int (-1)), jl_w mem lm) := by
  simp only [eX4_changes, eX4_changes_0, eX4_changes_1, eX4_changes_4]
  rcases h with h | ⟨⟨s, hs, rfl⟩, h⟩ | ⟨s, hs, rfl, rfl⟩
  · rw [eX4_changes_5 (jm_hasn hK.1 h)]
    simp only [eX4_changes_8, eX4_changes_27, eX4_changes_28, je0, if_true]
  · rw [eX4_changes_5 (jm_has hK.1 hk.1 hs)]
    simp only [eX4_changes_8, eX4_changes_11, eX4_changes_12, eX4_changes_15, je1, if_false]
    rw [eX4_changes_16 (jm_hasn hK.1 h)]
    simp only [eX4_changes_19, eX4_changes_27, eX4_changes_28, je0, if_true]
  · rw [eX4_changes_5 (jm_has hK.1 hk.1 hs)]
    simp only [eX4_changes_8, eX4_changes_11, eX4_changes_12, eX4_changes_15, je1, if_false]
    rw [eX4_changes_16 (jm_has hK.1 hk.1 hs)]
    simp only [eX4_changes_19, eX4_changes_22, eX4_changes_23, eX4_changes_24, eX4_changes_27, eX4_changes_28, je1, if_false, if_true]
theorem X_changes_o {a c : Nat} (h : jX mem lm tx K mo un im hd tr) (hun : un.length ≤ 10) (hk : jq_WK K) (hw : jq_WM K.1 mo) (ha : a < K.1) (hc : c < K.1) (hac : a ≠ c) : ∃ mem', xX4_changes [.ref 0, .int (nI a), .int (nI c)] (jl_w mem lm) = some (some (.int (nI (jq_h K (jq_ex a c mo)))), jl_w mem' lm) ∧ jX mem' lm tx K (jq_ex a c mo) (List.take 10 (mo :: un)) im hd tr ∧ jl_hi mem mem' := by
  have h8 := hk.1
  obtain ⟨m1, e1, r1, f1⟩ := X_remember h hun
  obtain ⟨m2, e2, r2, f2⟩ := jm_exchange (b := 11) (lm := lm) (a := a) (c := c) rfl r1.2.2.1 (by omega) (by omega)
  have w2 := jq_WM_ex hk.1 ha hc hw
  have R2 := r1.mo (f2.up (fun k hk => by omega)) r2
  have hh := jm_harsh (b := 11) (lm := lm) rfl R2.2.1 r2 hk w2
  refine ⟨m2, ?_, R2, fun k hk => by rw [f2 k (by omega), f1 k hk]⟩
  simp only [eX4_changes, eX4_changes_0, eX4_changes_1, eX4_changes_4]
  rw [eX4_changes_5 (jm_has h.2.1.1 hk.1 ha)]
  simp only [eX4_changes_8, eX4_changes_11, eX4_changes_12, eX4_changes_15, je1, if_false]
  rw [eX4_changes_16 (jm_has h.2.1.1 hk.1 hc)]
  simp (disch := first | assumption | omega) only [eX4_changes_19, eX4_changes_22, eX4_changes_23, eX4_changes_24, eX4_changes_27, eX4_changes_28, eX4_changes_29, je1, if_false, nI_eq, hac]
  rw [eX4_changes_30 e1]
  simp only [eX4_changes_33, eX4_changes_34, eX4_changes_37, eX4_changes_38]
  rw [eX4_changes_39 e2]
  simp only [eX4_changes_42, eX4_changes_43]
  rw [eX4_changes_46 hh]
  simp only [eX4_changes_49]
/-- a rod is held -/
def jq_hold (r : Nat) (mo : jq_M) : jq_M := fun j => if j = 11 + r then 0 else mo j
theorem X_holds_b {x : Int32} (hK : jx_K mem K) (h : x < 0 ∨ nI K.1 ≤ x) : xX4_holds [.ref 0, .int x] (jl_w mem lm) = some (some (.int (-1)), jl_w mem lm) := by
  simp only [eX4_holds, eX4_holds_0, eX4_holds_1, eX4_holds_4]
  rw [eX4_holds_5 (jm_hasn hK.1 h)]
  simp only [eX4_holds_8, eX4_holds_11, eX4_holds_12, je0, if_true]
theorem X_holds_s {r : Nat} (hK : jx_K mem K) (hM : jx_M mem 11 mo) (hk : jq_WK K) (hr : r < K.1) (h0 : mo (11 + r) = 0) : xX4_holds [.ref 0, .int (nI r)] (jl_w mem lm) = some (some (.int (-2)), jl_w mem lm) := by
  have h8 := hk.1
  have e := hM.2.2.2.2 r (by omega)
  rw [h0] at e
  have e : mem 13 r = nI 0 := e
  simp only [eX4_holds, eX4_holds_0, eX4_holds_1, eX4_holds_4]
  rw [eX4_holds_5 (jm_has hK.1 hk.1 hr)]
  simp (disch := first | assumption | omega) only [eX4_holds_8, eX4_holds_11, eX4_holds_12, eX4_holds_13, eX4_holds_14, eX4_holds_17, eX4_holds_20, eX4_holds_21, eX4_holds_22, eX4_holds_23, eX4_holds_24, eX4_holds_27, eX4_holds_29, je1, if_false, e, je0, if_true]
theorem X_holds_o {r : Nat} (h : jX mem lm tx K mo un im hd tr) (hun : un.length ≤ 10) (hk : jq_WK K) (hw : jq_WM K.1 mo) (hr : r < K.1) (h0 : mo (11 + r) ≠ 0) : ∃ mem', xX4_holds [.ref 0, .int (nI r)] (jl_w mem lm) = some (some (.int (nI (mo (11 + r)))), jl_w mem' lm) ∧ jX mem' lm tx K (jq_hold r mo) (List.take 10 (mo :: un)) im hd tr ∧ jl_hi mem mem' := by
  have h8 := hk.1
  have e : mem 13 r = nI (mo (11 + r)) := h.2.2.1.2.2.2.2 r (by omega)
  have h9 := (hw.2.2.2.2.1 r (by omega)).2
  obtain ⟨m1, e1, r1, f1⟩ := X_remember h hun
  obtain ⟨q1, q2, q3, q4, q5⟩ := r1.2.2.1
  refine ⟨jl_s m1 13 r (nI 0), ?_, r1.mo (fun k hk => by rw [js_ne (by omega)]) ⟨?_, ?_, ?_, fun q hq => ?_, fun q hq => ?_⟩, fun k hk => by rw [js_ne (by omega), f1 k hk]⟩
  · simp only [eX4_holds, eX4_holds_0, eX4_holds_1, eX4_holds_4]
    rw [eX4_holds_5 (jm_has h.2.1.1 hk.1 hr)]
    simp (disch := first | assumption | omega) only [eX4_holds_8, eX4_holds_11, eX4_holds_12, eX4_holds_13, eX4_holds_14, eX4_holds_17, eX4_holds_20, eX4_holds_21, eX4_holds_22, eX4_holds_23, eX4_holds_24, eX4_holds_27, eX4_holds_29, eX4_holds_30, je1, if_false, e, jz_eq, h0, Nat.one_ne_zero]
    rw [eX4_holds_31 e1]
    simp (disch := first | assumption | omega) only [eX4_holds_34, eX4_holds_35, eX4_holds_38, eX4_holds_41, eX4_holds_42, eX4_holds_43, eX4_holds_44, eX4_holds_45]
  · rw [js_mk (by omega), q1]; unfold jq_hold; rw [if_neg (by omega)]
  · rw [js_mk (by omega), q2]; unfold jq_hold; rw [if_neg (by omega)]
  · rw [js_mk (by omega), q3]; unfold jq_hold; rw [if_neg (by omega)]
  · rw [js_mk (by omega), q4 q hq]; unfold jq_hold; rw [if_neg (by omega)]
  · show jl_s m1 13 r (nI 0) 13 q = _
    unfold jq_hold
    by_cases e : q = r
    · rw [e, js_hit, if_pos rfl]
    · rw [js_mj e, if_neg (by omega)]
      exact q5 q hq
theorem X_undo_s (h : jX_U mem un) (h0 : un = []) : xX4_undo [.ref 0] (jl_w mem lm) = some (some (.int (-2)), jl_w mem lm) := by
  obtain ⟨p, p1, p2, p3, p4⟩ := h
  rw [h0] at p3
  have p3 : mem 0 6 = nI 0 := p3
  simp only [eX4_undo, eX4_undo_0, eX4_undo_1, eX4_undo_4, eX4_undo_7, eX4_undo_9, p3, je0, if_true]
theorem X_undo_o {m0 : jq_M} (h : jX mem lm tx K mo (m0 :: un) im hd tr) (hun : un.length < 10) : ∃ mem', xX4_undo [.ref 0] (jl_w mem lm) = some (some (.int (nI un.length)), jl_w mem' lm) ∧ jX mem' lm tx K m0 un im hd tr ∧ jl_hi mem mem' := by
  obtain ⟨a1, a2, a3, ⟨p, p1, p2, p3, p4⟩, a5, a6, a7⟩ := h
  have p3 : mem 0 6 = nI (un.length + 1) := p3
  have hp : ∃ p', p' < 10 ∧ (p = p' + 1 ∨ (p = 0 ∧ p' = 9)) := by
    rcases Nat.eq_zero_or_pos p with h | h
    · exact ⟨9, by omega, Or.inr ⟨h, rfl⟩⟩
    · exact ⟨p - 1, by omega, Or.inl (by omega)⟩
  obtain ⟨p', h1, h2⟩ := hp
  have hrow : ∀ k, k ≠ 0 → jl_s (jl_s mem 0 6 (nI un.length)) 0 5 (nI p') k = mem k := fun k hk => by rw [js_ne hk, js_ne hk]
  have hb := jl_K26 h1
  have r0 := p4 0 m0 rfl
  have e0 : (p + 9 - 0) % 10 = p' := by omega
  rw [e0] at r0
  have r0' := r0.keep (hrow _ (by omega)) (hrow _ (by omega)) (hrow _ (by omega))
  obtain ⟨m1, e1, r1, f1⟩ := jm_copy (b := 11) (c := 26 + 3 * p') (lm := lm) rfl hb (by omega) r0'
  have c0 : m1 0 = jl_s (jl_s mem 0 6 (nI un.length)) 0 5 (nI p') 0 := f1 0 (by omega)
  refine ⟨m1, ?_, ⟨a1.keep ?_ ?_, a2.keep ?_ ?_ ?_ ?_, r1, ⟨p', h1, ?_, ?_, fun i m hm => ?_⟩, a5.keep ?_ (fun k h1 h2 => ?_), a6.keep ?_ ?_ ?_ ?_, a7⟩, fun k hk => ?_⟩
  · have n1 : ¬ un.length + 1 = 0 := by omega
    have hs6 : nI (un.length + 1) - nI 1 = nI un.length := nI_pred _
    have q5 : ∀ x, jl_s mem 0 6 x 0 5 = nI p := fun x => by rw [js_mj (by omega), p2]
    have q6 : m1 0 6 = nI un.length := by rw [c0, js_mj (by omega), js_hit]
    rcases Nat.eq_zero_or_pos p with hz | hz
    · have hp' : p' = 9 := by omega
      have hz' : nI p ≤ 0 := by rw [hz]; decide
      simp (disch := first | assumption | omega) only [eX4_undo, eX4_undo_0, eX4_undo_1, eX4_undo_4, eX4_undo_7, eX4_undo_9, eX4_undo_10, eX4_undo_11, eX4_undo_12, eX4_undo_15, eX4_undo_16, eX4_undo_17, eX4_undo_20, eX4_undo_21, eX4_undo_22, eX4_undo_25, eX4_undo_28, eX4_undo_29, eX4_undo_32, eX4_undo_33, eX4_undo_34, eX4_undo_37, eX4_undo_39, p3, jz_eq, n1, if_false, hs6, q5, hz', if_true]
      rw [← hp']
      simp (disch := first | assumption | omega) only [eX4_undo_42, eX4_undo_43, eX4_undo_46, eX4_undo_47, eX4_undo_50, eX4_undo_51, eX4_undo_54, js_hit]
      rw [eX4_undo_55 e1]
      simp only [eX4_undo_58, eX4_undo_59, eX4_undo_62, q6]
    · have hp' : p = p' + 1 := by omega
      have hz' : ¬ nI p ≤ 0 := nI_nle hz (by omega)
      have hs : nI p - nI 1 = nI p' := by rw [hp']; exact nI_pred p'
      simp (disch := first | assumption | omega) only [eX4_undo, eX4_undo_0, eX4_undo_1, eX4_undo_4, eX4_undo_7, eX4_undo_9, eX4_undo_10, eX4_undo_11, eX4_undo_12, eX4_undo_15, eX4_undo_16, eX4_undo_17, eX4_undo_20, eX4_undo_21, eX4_undo_22, eX4_undo_25, eX4_undo_28, eX4_undo_29, eX4_undo_32, eX4_undo_33, eX4_undo_34, eX4_undo_37, eX4_undo_39, p3, jz_eq, n1, if_false, hs6, q5, hz', hs]
      simp (disch := first | assumption | omega) only [eX4_undo_42, eX4_undo_43, eX4_undo_46, eX4_undo_47, eX4_undo_50, eX4_undo_51, eX4_undo_54, js_hit]
      rw [eX4_undo_55 e1]
      simp only [eX4_undo_58, eX4_undo_59, eX4_undo_62, q6]
  · rw [f1 _ (by omega), hrow _ (by omega)]
  · rw [f1 _ (by omega), hrow _ (by omega)]
  · rw [f1 _ (by omega), hrow _ (by omega)]
  · rw [f1 _ (by omega), hrow _ (by omega)]
  · rw [f1 _ (by omega), hrow _ (by omega)]
  · rw [f1 _ (by omega), hrow _ (by omega)]
  · rw [c0, js_hit]
  · rw [c0, js_mj (by omega), js_hit]
  · have e : (p' + 9 - i) % 10 = (p + 9 - (i + 1)) % 10 := by
      have : i < un.length := (List.getElem?_eq_some_iff.mp hm).1
      omega
    have hlt : (p + 9 - (i + 1)) % 10 < 10 := Nat.mod_lt _ (by omega)
    rw [e]
    exact (p4 (i + 1) m hm).keep (by rw [f1 _ (by omega), hrow _ (by omega)]) (by rw [f1 _ (by omega), hrow _ (by omega)]) (by rw [f1 _ (by omega), hrow _ (by omega)])
  · rw [f1 _ (by omega), hrow _ (by omega)]
  · rw [f1 _ (by omega), hrow _ (by omega)]
  · rw [c0, js_mj (by omega), js_mj (by omega)]
  · rw [f1 _ (by omega), hrow _ (by omega)]
  · rw [f1 _ (by omega), hrow _ (by omega)]
  · rw [f1 _ (by omega), hrow _ (by omega)]
  · rw [f1 _ (by omega), hrow _ (by omega)]
end XM

section YM
variable {mem : jl_M} {lm : jl_L} {tx : jq_X} {K : jq_K} {mo : jq_M} {un : List jq_M} {im : Nat → Option jq_M} {hd : jq_H} {tr : Int64}
theorem Y_notes2 {u : Nat} {v : Value} {m1 : jl_M} (hM : jy_M m1 67 mo) (hu : u ≤ 9) (h22 : m1 62 22 = nI u) : ∃ mem', jr_ev pX5_notes 45 [.ref 62, v] [] (jl_w m1 lm) = some (none, jl_w mem' lm) ∧ mem' 62 22 = nI (u + 1) ∧ (∀ j, j ≠ 22 → mem' 62 j = m1 62 j) ∧ (∀ k, k ≠ 62 → k ≠ 71 → mem' k = m1 k) ∧ (∀ j, j < 19 → mem' 71 (19 * u + j) = nI (mo j)) ∧ ∀ q, q < 19 * u → mem' 71 q = m1 71 q := by
  obtain ⟨ls', mem', hI, he⟩ := jr_loop (P := pX5_notes) (pc := 47) (lm := lm) (fun i ls m => ls = [.ref 62, .int (nI i)] ∧ (∀ k, k ≠ 71 → m k = m1 k) ∧ (∀ j, j < i → m 71 (19 * u + j) = nI (mo j)) ∧ ∀ q, q < 19 * u → m 71 q = m1 71 q) 19 (by
    intro i ls m hi ⟨hl, q1, q2, q3⟩
    subst hl
    have e3 : ¬ 19 ≤ i := by omega
    have e4 : m 67 i = nI (mo i) := by rw [q1 67 (by omega)]; exact hM i hi
    have e5 : m 62 22 = nI u := by rw [q1 62 (by omega)]; exact h22
    have e6 : nI 19 * nI u = nI (19 * u) := pk_mul _ _
    refine ⟨[.ref 62, .int (nI (i + 1))], jl_s m 71 (19 * u + i) (nI (mo i)), ⟨rfl, fun k hk => by rw [js_ne hk, q1 k hk], fun j hj => ?_, fun q hq => by rw [js_mj (by omega), q3 q hq]⟩, ?_⟩
    · by_cases e : j = i
      · subst e; rw [js_hit]
      · rw [js_mj (by omega), q2 j (by omega)]
    · refine Eq.trans ?_ eX5_notes_76
      simp (disch := first | assumption | omega) only [eX5_notes_47, eX5_notes_48, eX5_notes_50, eX5_notes_53, eX5_notes_54, eX5_notes_57, eX5_notes_59, eX5_notes_60, eX5_notes_63, eX5_notes_64, eX5_notes_65, eX5_notes_66, eX5_notes_67, eX5_notes_70, eX5_notes_71, eX5_notes_72, eX5_notes_73, nI_leI, e3, if_false, e5, e6, nI_add, e4]) 19 0 [.ref 62, .int (nI 0)] m1 (by omega) ⟨rfl, fun _ _ => rfl, fun j hj => absurd hj (by omega), fun _ _ => rfl⟩
  obtain ⟨rfl, q1, q2, q3⟩ := hI
  have e5 : mem' 62 22 = nI u := by rw [q1 62 (by omega)]; exact h22
  refine ⟨jl_s mem' 62 22 (nI (u + 1)), ?_, by rw [js_hit], fun j hj => by rw [js_mj hj, q1 62 (by omega)], fun k h1 h2 => by rw [js_ne h1, q1 k h2], fun j hj => by rw [js_mk (by omega), q2 j hj], fun q hq => by rw [js_mk (by omega), q3 q hq]⟩
  simp only [eX5_notes_45, eX5_notes_46]
  rw [he]
  simp (disch := first | assumption | omega) only [eX5_notes_47, eX5_notes_48, eX5_notes_50, eX5_notes_79, eX5_notes_80, eX5_notes_81, eX5_notes_84, eX5_notes_85, eX5_notes_86, eX5_notes_89, nI_leI, Nat.le_refl, if_true, e5, nI_add]
theorem Y_notes (h : jY mem lm tx K mo un im hd tr) (hun : un.length ≤ 10) : ∃ mem', xX5_notes [.ref 62] (jl_w mem lm) = some (none, jl_w mem' lm) ∧ jY mem' lm tx K mo (List.take 10 (mo :: un)) im hd tr ∧ jl_lo mem mem' := by
  obtain ⟨a1, a2, a3, a4, a5, a6, a7⟩ := h
  have fin : ∀ (m1 mem' : jl_M) (u : Nat), (∀ j, j ≠ 22 → m1 62 j = mem 62 j) → (∀ k, k ≠ 62 → k ≠ 71 → m1 k = mem k) → (∀ j, j ≠ 22 → mem' 62 j = m1 62 j) → (∀ k, k ≠ 62 → k ≠ 71 → mem' k = m1 k) → jY_U mem' (List.take 10 (mo :: un)) → jY mem' lm tx K mo (List.take 10 (mo :: un)) im hd tr ∧ jl_lo mem mem' := by
    intro m1 mem' u b1 b2 b3 b4 b5
    have c1 : ∀ j, j ≠ 22 → mem' 62 j = mem 62 j := fun j hj => (b3 j hj).trans (b1 j hj)
    have c2 : ∀ k, k ≠ 62 → k ≠ 71 → mem' k = mem k := fun k x y => (b4 k x y).trans (b2 k x y)
    exact ⟨⟨a1.keep (c1 3 (by omega)) (c2 63 (by omega) (by omega)), a2.keep (c1 9 (by omega)) (c1 10 (by omega)) (c2 64 (by omega) (by omega)) (c2 65 (by omega) (by omega)) (c2 66 (by omega) (by omega)), a3.keep (c2 67 (by omega) (by omega)), b5, a5.keep (c2 69 (by omega) (by omega)) (c2 70 (by omega) (by omega)), a6.keep (c1 26 (by omega)) (c2 72 (by omega) (by omega)) (c2 73 (by omega) (by omega)) (c2 74 (by omega) (by omega)), a7⟩, fun k hk => c2 k (by omega) (by omega)⟩
  have g22 := a4.1
  by_cases hl : un.length = 10
  · obtain ⟨ls', m1, hI, he⟩ := jr_loop (P := pX5_notes) (pc := 11) (lm := lm) (fun i ls m => ls = [.ref 62, .int (nI i)] ∧ (∀ k, k ≠ 71 → m k = mem k) ∧ (∀ j, j < i → m 71 j = mem 71 (j + 19)) ∧ ∀ j, i ≤ j → m 71 j = mem 71 j) 171 (by
      intro i ls m hi ⟨hll, q1, q2, q3⟩
      subst hll
      have e3 : ¬ 171 ≤ i := by omega
      refine ⟨[.ref 62, .int (nI (i + 1))], jl_s m 71 i (mem 71 (i + 19)), ⟨rfl, fun k hk => by rw [js_ne hk, q1 k hk], fun j hj => ?_, fun q hq => by rw [js_mj (by omega), q3 q (by omega)]⟩, ?_⟩
      · by_cases e : j = i
        · subst e; rw [js_hit]
        · rw [js_mj (by omega), q2 j (by omega)]
      · refine Eq.trans ?_ eX5_notes_36
        have e4 := q3 (i + 19) (by omega)
        simp (disch := first | assumption | omega) only [eX5_notes_11, eX5_notes_12, eX5_notes_15, eX5_notes_18, eX5_notes_19, eX5_notes_22, eX5_notes_23, eX5_notes_24, eX5_notes_27, eX5_notes_28, eX5_notes_30, eX5_notes_31, eX5_notes_32, eX5_notes_33, nI_leI, e3, if_false, nI_add, e4]) 171 0 [.ref 62, .int (nI 0)] mem (by omega) ⟨rfl, fun _ _ => rfl, fun j hj => absurd hj (by omega), fun _ _ => rfl⟩
    obtain ⟨rfl, q1, q2, q3⟩ := hI
    have t1 : ∀ x, jl_s m1 62 22 x 67 = mem 67 := fun x => by rw [js_ne (by omega), q1 67 (by omega)]
    obtain ⟨mem', e1, f1, f2, f3, f4, f5⟩ := Y_notes2 (lm := lm) (v := .int (nI 171)) (m1 := jl_s m1 62 22 (nI 9)) (u := 9) (a3.keep (t1 _)) (by omega) js_hit
    have g10 : mem 62 22 = nI 10 := by rw [g22, hl]
    refine ⟨mem', ?_, fin (jl_s m1 62 22 (nI 9)) mem' 9 (fun j hj => by rw [js_mj hj, q1 62 (by omega)]) (fun k x y => by rw [js_ne x, q1 k y]) f2 f3 ⟨?_, ?_⟩⟩
    · simp (disch := first | assumption | omega) only [eX5_notes, eX5_notes_0, eX5_notes_1, eX5_notes_4, eX5_notes_6, eX5_notes_9, eX5_notes_10, g10, if_true]
      rw [he]
      simp (disch := first | assumption | omega) only [eX5_notes_11, eX5_notes_12, eX5_notes_15, eX5_notes_39, eX5_notes_40, eX5_notes_42, nI_leI, Nat.le_refl, if_true]
      exact e1
    · rw [f1, List.length_take, List.length_cons, hl]; rfl
    · have hlen : (List.take 10 (mo :: un)).length = 10 := by rw [List.length_take, List.length_cons, hl]; rfl
      rw [hlen]
      intro i m hm j hj
      rw [List.getElem?_take] at hm
      split at hm
      case isFalse => cases hm
      case isTrue hi =>
        cases i with
        | zero =>
          simp only [List.getElem?_cons_zero, Option.some.injEq] at hm
          subst hm
          exact f4 j hj
        | succ i =>
          simp only [List.getElem?_cons_succ] at hm
          have k1 := a4.2 i m hm j hj
          rw [hl] at k1
          rw [f5 _ (by omega), js_mk (by omega), q2 _ (by omega)]
          rw [show 19 * (10 - 1 - (i + 1)) + j + 19 = 19 * (10 - 1 - i) + j from by omega]
          exact k1
  · obtain ⟨mem', e1, f1, f2, f3, f4, f5⟩ := Y_notes2 (lm := lm) (v := .null) (m1 := mem) (u := un.length) a3 (by omega) g22
    have ht : List.take 10 (mo :: un) = mo :: un := List.take_of_length_le (by rw [List.length_cons]; omega)
    have en : ¬ un.length = 10 := hl
    refine ⟨mem', ?_, fin mem mem' 9 (fun _ _ => rfl) (fun _ _ _ => rfl) f2 f3 ?_⟩
    · simp (disch := first | assumption | omega) only [eX5_notes, eX5_notes_0, eX5_notes_1, eX5_notes_4, eX5_notes_6, g22, nI_eq, en, if_false]
      exact e1
    · rw [ht]
      refine ⟨by rw [f1, List.length_cons], ?_⟩
      intro i m hm j hj
      cases i with
      | zero =>
        simp only [List.getElem?_cons_zero, Option.some.injEq] at hm
        subst hm
        exact f4 j hj
      | succ i =>
        simp only [List.getElem?_cons_succ] at hm
        have hi : i < un.length := by
          rcases Nat.lt_or_ge i un.length with q | q
          · exact q
          · rw [List.getElem?_eq_none q] at hm; cases hm
        have k1 := a4.2 i m hm j hj
        rw [List.length_cons, show un.length + 1 - 1 - (i + 1) = un.length - 1 - i from by omega, f5 _ (by omega)]
        exact k1
theorem jY.mo1 {mem' : jl_M} {mo' : jq_M} (h : jY mem lm tx K mo un im hd tr) (hF : jl_F (fun k => k = 67) mem mem') (hM : jy_M mem' 67 mo') : jY mem' lm tx K mo' un im hd tr :=
  ⟨h.1.keep (by rw [hF 62 (by omega)]) (hF 63 (by omega)), h.2.1.keep (by rw [hF 62 (by omega)]) (by rw [hF 62 (by omega)]) (hF 64 (by omega)) (hF 65 (by omega)) (hF 66 (by omega)), hM, h.2.2.2.1.keep (by rw [hF 62 (by omega)]) (hF 71 (by omega)), h.2.2.2.2.1.keep (hF 69 (by omega)) (hF 70 (by omega)), h.2.2.2.2.2.1.keep (by rw [hF 62 (by omega)]) (hF 72 (by omega)) (hF 73 (by omega)) (hF 74 (by omega)), h.2.2.2.2.2.2⟩
theorem Y_blows_b {x y : Int32} (hK : jy_K mem K) (hk : jq_WK K) (h : (x < 0 ∨ nI K.1 ≤ x) ∨ ((∃ s, s < K.1 ∧ x = nI s) ∧ (y < nI 1 ∨ nI 9 < y))) : xX5_blows [.ref 62, .int x, .int y] (jl_w mem lm) = some (some (.int (-1)), jl_w (jl_s mem 62 0 (nI 0)) lm) := by
  have h0 := hK.V (jl_V.t (x := nI 0))
  simp only [eX5_blows, eX5_blows_0, eX5_blows_1, eX5_blows_2, eX5_blows_5, eX5_blows_6]
  rcases h with h | ⟨⟨s, hs, rfl⟩, h⟩
  · rw [eX5_blows_7 (Y_isRodn h0.1 hk.1 h)]
    simp only [eX5_blows_10, eX5_blows_23, eX5_blows_24, je0, if_true]
  · rw [eX5_blows_7 (Y_isRod h0.1 hk.1 hs)]
    simp only [eX5_blows_10, eX5_blows_13, eX5_blows_14, eX5_blows_15, je1, if_false]
    rw [eX5_blows_17 (Y_inn h)]
    simp only [eX5_blows_20, eX5_blows_23, eX5_blows_24, je0, if_true]
theorem Y_blows_s {s g : Nat} (h : jY mem lm tx K mo un im hd tr) (hk : jq_WK K) (hs : s < K.1) (hg : 1 ≤ g ∧ g ≤ 9) (h9 : mo 0 = 999) : xX5_blows [.ref 62, .int (nI s), .int (nI g)] (jl_w mem lm) = some (some (.int (-2)), jl_w (jl_s mem 62 0 (nI 0)) lm) := by
  have h0 := h.V (jl_V.t (x := nI 0))
  have g0 := h0.2.2.1 0 (by omega)
  rw [h9] at g0
  have i0 : (0 : Nat) < 19 := by omega
  simp only [eX5_blows, eX5_blows_0, eX5_blows_1, eX5_blows_2, eX5_blows_5, eX5_blows_6]
  rw [eX5_blows_7 (Y_isRod h0.2.1.1 hk.1 hs)]
  simp only [eX5_blows_10, eX5_blows_13, eX5_blows_14, eX5_blows_15, je1, if_false]
  rw [eX5_blows_17 (Y_in hg.1 hg.2 (by omega))]
  simp (disch := first | assumption | omega) only [eX5_blows_20, eX5_blows_23, eX5_blows_24, eX5_blows_25, eX5_blows_26, eX5_blows_29, eX5_blows_30, eX5_blows_31, eX5_blows_34, eX5_blows_37, eX5_blows_39, je1, if_false, g0, if_true]
theorem Y_blows_o {s g : Nat} (h : jY mem lm tx K mo un im hd tr) (hun : un.length ≤ 10) (hk : jq_WK K) (hw : jq_WM K.1 mo) (hs : s < K.1) (hg : 1 ≤ g ∧ g ≤ 9) (h9 : mo 0 < 999) : ∃ mem', xX5_blows [.ref 62, .int (nI s), .int (nI g)] (jl_w mem lm) = some (some (.int (jq_an (jq_bw K s g mo))), jl_w mem' lm) ∧ jY mem' lm tx K (jq_beat K s g mo) (List.take 10 (mo :: un)) im hd tr ∧ jl_lo mem mem' := by
  have h0 := h.V (jl_V.t (x := nI 0))
  have l0 := (jl_V.t (m := mem) (x := nI 0)).lo
  have g0 := h0.2.2.1 0 (by omega)
  have i0 : (0 : Nat) < 19 := by omega
  have ne : ¬ mo 0 = 999 := by omega
  obtain ⟨m1, e1, Y1, l1⟩ := Y_notes h0 hun
  obtain ⟨m2, e2, r2, f2⟩ := Y_beats (k := 67) (s := s) (g := g) (lm := lm) ⟨rfl, rfl⟩ (Or.inl rfl) Y1.2.1 Y1.2.2.1 hk hw (by omega) hs hg.2
  refine ⟨m2, ?_, Y1.mo1 f2 r2, fun k hk => by rw [f2 k (by omega), l1 k hk, l0 k hk]⟩
  simp only [eX5_blows, eX5_blows_0, eX5_blows_1, eX5_blows_2, eX5_blows_5, eX5_blows_6]
  rw [eX5_blows_7 (Y_isRod h0.2.1.1 hk.1 hs)]
  simp only [eX5_blows_10, eX5_blows_13, eX5_blows_14, eX5_blows_15, je1, if_false]
  rw [eX5_blows_17 (Y_in hg.1 hg.2 (by omega))]
  simp (disch := first | assumption | omega) only [eX5_blows_20, eX5_blows_23, eX5_blows_24, eX5_blows_25, eX5_blows_26, eX5_blows_29, eX5_blows_30, eX5_blows_31, eX5_blows_34, eX5_blows_37, eX5_blows_39, eX5_blows_40, je1, if_false, g0, nI_eq, ne]
  rw [eX5_blows_41 e1]
  simp only [eX5_blows_44, eX5_blows_45, eX5_blows_46, eX5_blows_49, eX5_blows_50]
  rw [eX5_blows_51 e2]
  simp only [eX5_blows_54]
theorem Y_calms_s (h : jY mem lm tx K mo un im hd tr) (hk : jq_WK K) (h9 : K.1 = 0 ∨ mo 0 = 999) : xX5_calms [.ref 62] (jl_w mem lm) = some (some (.int (-2)), jl_w (jl_s mem 62 0 (nI 0)) lm) := by
  have h0 := h.V (jl_V.t (x := nI 0))
  have g0 := h0.2.2.1 0 (by omega)
  have gk := h0.2.1.1
  have h8 := hk.1
  have i0 : (0 : Nat) < 19 := by omega
  by_cases hz : K.1 = 0
  · rw [hz] at gk
    simp (disch := first | assumption | omega) only [eX5_calms, eX5_calms_0, eX5_calms_1, eX5_calms_2, eX5_calms_5, eX5_calms_6, eX5_calms_9, eX5_calms_24, eX5_calms_26, gk, je0, if_true]
  · have h9' := h9.resolve_left hz
    rw [h9'] at g0
    simp (disch := first | assumption | omega) only [eX5_calms, eX5_calms_0, eX5_calms_1, eX5_calms_2, eX5_calms_5, eX5_calms_6, eX5_calms_9, eX5_calms_12, eX5_calms_13, eX5_calms_16, eX5_calms_17, eX5_calms_18, eX5_calms_21, eX5_calms_24, eX5_calms_26, gk, jz_eq, hz, if_false, g0, if_true]
theorem Y_calms_o (h : jY mem lm tx K mo un im hd tr) (hun : un.length ≤ 10) (hk : jq_WK K) (hw : jq_WM K.1 mo) (h0p : 0 < K.1) (h9 : mo 0 < 999) : ∃ mem', xX5_calms [.ref 62] (jl_w mem lm) = some (some (.int (jq_an (jq_bw K 0 0 mo))), jl_w mem' lm) ∧ jY mem' lm tx K (jq_beat K 0 0 mo) (List.take 10 (mo :: un)) im hd tr ∧ jl_lo mem mem' := by
  have h0 := h.V (jl_V.t (x := nI 0))
  have l0 := (jl_V.t (m := mem) (x := nI 0)).lo
  have g0 := h0.2.2.1 0 (by omega)
  have gk := h0.2.1.1
  have h8 := hk.1
  have i0 : (0 : Nat) < 19 := by omega
  have ne : ¬ mo 0 = 999 := by omega
  have hz : ¬ K.1 = 0 := by omega
  obtain ⟨m1, e1, Y1, l1⟩ := Y_notes h0 hun
  obtain ⟨m2, e2, r2, f2⟩ := Y_beats (k := 67) (s := 0) (g := 0) (lm := lm) ⟨rfl, rfl⟩ (Or.inl rfl) Y1.2.1 Y1.2.2.1 hk hw (by omega) h0p (by omega)
  refine ⟨m2, ?_, Y1.mo1 f2 r2, fun k hk => by rw [f2 k (by omega), l1 k hk, l0 k hk]⟩
  simp (disch := first | assumption | omega) only [eX5_calms, eX5_calms_0, eX5_calms_1, eX5_calms_2, eX5_calms_5, eX5_calms_6, eX5_calms_9, eX5_calms_12, eX5_calms_13, eX5_calms_16, eX5_calms_17, eX5_calms_18, eX5_calms_21, eX5_calms_24, eX5_calms_26, eX5_calms_27, gk, jz_eq, hz, if_false, g0, nI_eq, ne]
  rw [eX5_calms_28 e1]
  simp only [eX5_calms_31, eX5_calms_32, eX5_calms_33, eX5_calms_36, eX5_calms_37]
  rw [eX5_calms_38 e2]
  simp only [eX5_calms_41]
theorem Y_trades {a c : Nat} (hM : jy_M mem 67 mo) (ha : a < 8) (hc : c < 8) : ∃ mem', xX5_trades [.ref 62, .ref 67, .int (nI a), .int (nI c)] (jl_w mem lm) = some (none, jl_w mem' lm) ∧ jy_M mem' 67 (jq_ex a c mo) ∧ jl_F (fun k => k = 67) mem mem' := by
  have g1 := hM (3 + a) (by omega)
  have g2 := hM (3 + c) (by omega)
  refine ⟨jl_s (jl_s mem 67 (3 + a) (nI (mo (3 + c)))) 67 (3 + c) (nI (mo (3 + a))), ?_, ?_, fun k hk => by rw [js_ne hk, js_ne hk]⟩
  · have A : jl_A 67 19 := ⟨rfl, rfl⟩
    simp (disch := first | assumption | omega) only [eX5_trades, eX5_trades_0, eX5_trades_1, eX5_trades_2, eX5_trades_3, eX5_trades_4, eX5_trades_5, eX5_trades_7, eX5_trades_8, eX5_trades_9, eX5_trades_10, eX5_trades_11, eX5_trades_12, eX5_trades_13, eX5_trades_14, eX5_trades_15, eX5_trades_16, eX5_trades_17, eX5_trades_18, eX5_trades_19, eX5_trades_20, eX5_trades_21, eX5_trades_23, eX5_trades_24, nI_add, g1, g2]
  · intro j hj
    unfold jq_ex
    by_cases e1 : j = 3 + c
    · rw [e1, js_hit]
      by_cases e2 : c = a
      · subst e2; rw [if_pos rfl]
      · rw [if_neg (by omega), if_pos rfl]
    · rw [js_mj e1]
      by_cases e2 : j = 3 + a
      · rw [e2, js_hit, if_pos rfl]
      · rw [js_mj e2, if_neg e2, if_neg e1]
        exact hM j hj
theorem Y_changes_b {x y : Int32} (hK : jy_K mem K) (hk : jq_WK K) (h : (x < 0 ∨ nI K.1 ≤ x) ∨ ((∃ s, s < K.1 ∧ x = nI s) ∧ (y < 0 ∨ nI K.1 ≤ y)) ∨ (∃ s, s < K.1 ∧ x = nI s ∧ y = nI s)) : xX5_changes [.ref 62, .int x, .int y] (jl_w mem lm) = some (some (.int (-1)), jl_w (jl_s mem 62 0 (nI 0)) lm) := by
  have h0 := hK.V (jl_V.t (x := nI 0))
  simp only [eX5_changes, eX5_changes_0, eX5_changes_1, eX5_changes_2, eX5_changes_5, eX5_changes_6]
  rcases h with h | ⟨⟨s, hs, rfl⟩, h⟩ | ⟨s, hs, rfl, rfl⟩
  · rw [eX5_changes_7 (Y_isRodn h0.1 hk.1 h)]
    simp only [eX5_changes_10, eX5_changes_26, eX5_changes_27, je0, if_true]
  · rw [eX5_changes_7 (Y_isRod h0.1 hk.1 hs)]
    simp only [eX5_changes_10, eX5_changes_13, eX5_changes_14, je1, if_false]
    rw [eX5_changes_15 (Y_isRodn h0.1 hk.1 h)]
    simp only [eX5_changes_18, eX5_changes_26, eX5_changes_27, je0, if_true]
  · rw [eX5_changes_7 (Y_isRod h0.1 hk.1 hs)]
    simp only [eX5_changes_10, eX5_changes_13, eX5_changes_14, je1, if_false]
    rw [eX5_changes_15 (Y_isRod h0.1 hk.1 hs)]
    simp only [eX5_changes_18, eX5_changes_21, eX5_changes_22, eX5_changes_23, eX5_changes_26, eX5_changes_27, je1, if_false, if_true]
theorem Y_changes_o {a c : Nat} (h : jY mem lm tx K mo un im hd tr) (hun : un.length ≤ 10) (hk : jq_WK K) (hw : jq_WM K.1 mo) (ha : a < K.1) (hc : c < K.1) (hac : a ≠ c) : ∃ mem', xX5_changes [.ref 62, .int (nI a), .int (nI c)] (jl_w mem lm) = some (some (.int (nI (jq_h K (jq_ex a c mo)))), jl_w mem' lm) ∧ jY mem' lm tx K (jq_ex a c mo) (List.take 10 (mo :: un)) im hd tr ∧ jl_lo mem mem' := by
  have h0 := h.V (jl_V.t (x := nI 0))
  have l0 := (jl_V.t (m := mem) (x := nI 0)).lo
  have h8 := hk.1
  obtain ⟨m1, e1, Y1, l1⟩ := Y_notes h0 hun
  obtain ⟨m2, e2, r2, f2⟩ := Y_trades (lm := lm) Y1.2.2.1 (a := a) (c := c) (by omega) (by omega)
  have Y2 := Y1.mo1 f2 r2
  have hw2 := jq_WM_ex h8 ha hc hw
  refine ⟨m2, ?_, Y2, fun k hk => by rw [f2 k (by omega), l1 k hk, l0 k hk]⟩
  simp only [eX5_changes, eX5_changes_0, eX5_changes_1, eX5_changes_2, eX5_changes_5, eX5_changes_6]
  rw [eX5_changes_7 (Y_isRod h0.2.1.1 hk.1 ha)]
  simp only [eX5_changes_10, eX5_changes_13, eX5_changes_14, je1, if_false]
  rw [eX5_changes_15 (Y_isRod h0.2.1.1 hk.1 hc)]
  simp (disch := first | assumption | omega) only [eX5_changes_18, eX5_changes_21, eX5_changes_22, eX5_changes_23, eX5_changes_26, eX5_changes_27, eX5_changes_28, je1, nI_eq, hac, if_false]
  rw [eX5_changes_29 e1]
  simp only [eX5_changes_32, eX5_changes_33, eX5_changes_34, eX5_changes_37, eX5_changes_38]
  rw [eX5_changes_39 e2]
  simp only [eX5_changes_42, eX5_changes_43, eX5_changes_44]
  rw [eX5_changes_47 (Y_harsh (k := 67) ⟨rfl, rfl⟩ Y2.2.1 Y2.2.2.1 hk hw2)]
  simp only [eX5_changes_50]
theorem Y_holds_b {x : Int32} (hK : jy_K mem K) (hk : jq_WK K) (h : x < 0 ∨ nI K.1 ≤ x) : xX5_holds [.ref 62, .int x] (jl_w mem lm) = some (some (.int (-1)), jl_w (jl_s mem 62 0 (nI 0)) lm) := by
  have h0 := hK.V (jl_V.t (x := nI 0))
  simp only [eX5_holds, eX5_holds_0, eX5_holds_1, eX5_holds_2, eX5_holds_5, eX5_holds_6]
  rw [eX5_holds_7 (Y_isRodn h0.1 hk.1 h)]
  simp only [eX5_holds_10, eX5_holds_13, eX5_holds_14, je0, if_true]
theorem Y_holds_s {r : Nat} (h : jY mem lm tx K mo un im hd tr) (hk : jq_WK K) (hr : r < K.1) (hz : mo (11 + r) = 0) : xX5_holds [.ref 62, .int (nI r)] (jl_w mem lm) = some (some (.int (-2)), jl_w (jl_s mem 62 0 (nI 0)) lm) := by
  have h0 := h.V (jl_V.t (x := nI 0))
  have h8 := hk.1
  have g0 := h0.2.2.1 (11 + r) (by omega)
  rw [hz] at g0
  simp only [eX5_holds, eX5_holds_0, eX5_holds_1, eX5_holds_2, eX5_holds_5, eX5_holds_6]
  rw [eX5_holds_7 (Y_isRod h0.2.1.1 hk.1 hr)]
  simp (disch := first | assumption | omega) only [eX5_holds_10, eX5_holds_13, eX5_holds_14, eX5_holds_15, eX5_holds_16, eX5_holds_19, eX5_holds_21, eX5_holds_22, eX5_holds_23, eX5_holds_24, eX5_holds_25, eX5_holds_26, eX5_holds_29, eX5_holds_31, je1, if_false, nI_add, g0, je0, if_true]
theorem Y_holds_o {r : Nat} (h : jY mem lm tx K mo un im hd tr) (hun : un.length ≤ 10) (hk : jq_WK K) (hw : jq_WM K.1 mo) (hr : r < K.1) (hz : mo (11 + r) ≠ 0) : ∃ mem', xX5_holds [.ref 62, .int (nI r)] (jl_w mem lm) = some (some (.int (nI (mo (11 + r)))), jl_w mem' lm) ∧ jY mem' lm tx K (jq_hold r mo) (List.take 10 (mo :: un)) im hd tr ∧ jl_lo mem mem' := by
  have h0 := h.V (jl_V.t (x := nI 0))
  have l0 := (jl_V.t (m := mem) (x := nI 0)).lo
  have h8 := hk.1
  have g0 := h0.2.2.1 (11 + r) (by omega)
  have g9 := (hw.2.2.2.2.1 r (by omega)).2
  have hz' : ¬ nI (mo (11 + r)) = 0 := fun q => hz ((nI_eq (b := 0) (by omega) (by omega)).mp q)
  obtain ⟨m1, e1, Y1, l1⟩ := Y_notes h0 hun
  refine ⟨jl_s m1 67 (11 + r) (nI 0), ?_, Y1.mo1 (fun k hk => by rw [js_ne hk]) ?_, fun k hk => by rw [js_ne (by omega), l1 k hk, l0 k hk]⟩
  · simp only [eX5_holds, eX5_holds_0, eX5_holds_1, eX5_holds_2, eX5_holds_5, eX5_holds_6]
    rw [eX5_holds_7 (Y_isRod h0.2.1.1 hk.1 hr)]
    simp (disch := first | assumption | omega) only [eX5_holds_10, eX5_holds_13, eX5_holds_14, eX5_holds_15, eX5_holds_16, eX5_holds_19, eX5_holds_21, eX5_holds_22, eX5_holds_23, eX5_holds_24, eX5_holds_25, eX5_holds_26, eX5_holds_29, eX5_holds_31, eX5_holds_32, je1, if_false, nI_add, g0, hz']
    rw [eX5_holds_33 e1]
    simp (disch := first | assumption | omega) only [eX5_holds_36, eX5_holds_37, eX5_holds_40, eX5_holds_42, eX5_holds_43, eX5_holds_44, eX5_holds_45, eX5_holds_46, eX5_holds_47, nI_add]
  · exact jy_M_s Y1.2.2.1 (by omega)
theorem Y_undo_s (h : jY_U mem un) (hz : un = []) : xX5_undo [.ref 62] (jl_w mem lm) = some (some (.int (-2)), jl_w (jl_s mem 62 0 (nI 0)) lm) := by
  have g0 : jl_s mem 62 0 (nI 0) 62 22 = nI 0 := by rw [js_mj (by omega), h.1, hz]; rfl
  simp (disch := first | assumption | omega) only [eX5_undo, eX5_undo_0, eX5_undo_1, eX5_undo_2, eX5_undo_5, eX5_undo_6, eX5_undo_9, eX5_undo_12, eX5_undo_14, g0, je0, if_true]
theorem Y_undo_o {m0 : jq_M} (h : jY mem lm tx K mo (m0 :: un) im hd tr) (hun : un.length < 10) : ∃ mem', xX5_undo [.ref 62] (jl_w mem lm) = some (some (.int (nI un.length)), jl_w mem' lm) ∧ jY mem' lm tx K m0 un im hd tr ∧ jl_lo mem mem' := by
  have h0 := h.V (jl_V.t (x := nI 0))
  have l0 := (jl_V.t (m := mem) (x := nI 0)).lo
  simp only [eX5_undo, eX5_undo_0, eX5_undo_1, eX5_undo_2, eX5_undo_5, eX5_undo_6]
  generalize jl_s mem 62 0 (nI 0) = m1 at h0 l0 ⊢
  obtain ⟨a1, a2, a3, a4, a5, a6, a7⟩ := h0
  have g22 : m1 62 22 = nI (un.length + 1) := a4.1
  have hnz : ¬ un.length + 1 = 0 := by omega
  have hs : nI (un.length + 1) - nI 1 = nI un.length := pk_sub (by omega)
  have hmm : ∀ j, j < 19 → m1 71 (19 * un.length + j) = nI (m0 j) := fun j hj => by
    have := a4.2 0 m0 rfl j hj
    rw [List.length_cons, show un.length + 1 - 1 - 0 = un.length from by omega] at this
    exact this
  obtain ⟨ls', m2, hI, he⟩ := jr_loop (P := pX5_undo) (pc := 27) (lm := lm) (fun i ls m => ls = [.ref 62, .int (nI i)] ∧ (∀ k, k ≠ 67 → m k = jl_s m1 62 22 (nI un.length) k) ∧ ∀ j, j < i → m 67 j = nI (m0 j)) 19 (by
    intro i ls m hi ⟨hl, q1, q2⟩
    subst hl
    have e3 : ¬ 19 ≤ i := by omega
    have e5 : m 62 22 = nI un.length := by rw [q1 62 (by omega), js_hit]
    have e6 : nI 19 * nI un.length = nI (19 * un.length) := pk_mul _ _
    have e4 : m 71 (19 * un.length + i) = nI (m0 i) := by rw [q1 71 (by omega), js_mk (by omega)]; exact hmm i hi
    refine ⟨[.ref 62, .int (nI (i + 1))], jl_s m 67 i (nI (m0 i)), ⟨rfl, fun k hk => by rw [js_ne hk, q1 k hk], fun j hj => ?_⟩, ?_⟩
    · by_cases e : j = i
      · subst e; rw [js_hit]
      · rw [js_mj (by omega), q2 j (by omega)]
    · refine Eq.trans ?_ eX5_undo_56
      simp (disch := first | assumption | omega) only [eX5_undo_27, eX5_undo_28, eX5_undo_30, eX5_undo_33, eX5_undo_34, eX5_undo_37, eX5_undo_38, eX5_undo_39, eX5_undo_42, eX5_undo_44, eX5_undo_45, eX5_undo_48, eX5_undo_49, eX5_undo_50, eX5_undo_51, eX5_undo_52, eX5_undo_53, nI_leI, e3, if_false, e5, e6, nI_add, e4]) 19 0 [.ref 62, .int (nI 0)] (jl_s m1 62 22 (nI un.length)) (by omega) ⟨rfl, fun _ _ => rfl, fun j hj => absurd hj (by omega)⟩
  obtain ⟨rfl, q1, q2⟩ := hI
  have e5 : m2 62 22 = nI un.length := by rw [q1 62 (by omega), js_hit]
  have c1 : ∀ j, j ≠ 22 → m2 62 j = m1 62 j := fun j hj => by rw [q1 62 (by omega), js_mj hj]
  have c2 : ∀ k, k ≠ 62 → k ≠ 67 → m2 k = m1 k := fun k x y => by rw [q1 k y, js_ne x]
  refine ⟨m2, ?_, ⟨a1.keep (c1 3 (by omega)) (c2 63 (by omega) (by omega)), a2.keep (c1 9 (by omega)) (c1 10 (by omega)) (c2 64 (by omega) (by omega)) (c2 65 (by omega) (by omega)) (c2 66 (by omega) (by omega)), fun j hj => q2 j hj, ⟨e5, fun i m hm j hj => ?_⟩, a5.keep (c2 69 (by omega) (by omega)) (c2 70 (by omega) (by omega)), a6.keep (c1 26 (by omega)) (c2 72 (by omega) (by omega)) (c2 73 (by omega) (by omega)) (c2 74 (by omega) (by omega)), a7⟩, fun k hk => by rw [c2 k (by omega) (by omega), l0 k hk]⟩
  · simp (disch := first | assumption | omega) only [eX5_undo_9, eX5_undo_12, eX5_undo_14, eX5_undo_15, eX5_undo_16, eX5_undo_17, eX5_undo_20, eX5_undo_21, eX5_undo_22, eX5_undo_25, eX5_undo_26, g22, jz_eq, hnz, if_false, hs]
    rw [he]
    simp (disch := first | assumption | omega) only [eX5_undo_27, eX5_undo_28, eX5_undo_30, eX5_undo_59, eX5_undo_60, eX5_undo_63, nI_leI, Nat.le_refl, if_true, e5]
  · have := a4.2 (i + 1) m hm j hj
    rw [List.length_cons, show un.length + 1 - 1 - (i + 1) = un.length - 1 - i from by omega] at this
    rw [c2 71 (by omega) (by omega)]
    exact this
end YM

section YM
variable {mem : jl_M} {lm : jl_L} {tx : jq_X} {K : jq_K} {mo : jq_M} {un : List jq_M} {im : Nat → Option jq_M} {hd : jq_H} {tr : Int64}
theorem Y_keep_b {x : Int32} (h : x < nI 0 ∨ nI 1 < x) : xX5_keep [.ref 62, .int x] (jl_w mem lm) = some (some (.int (-1)), jl_w (jl_s mem 62 0 (nI 0)) lm) := by
  simp only [eX5_keep, eX5_keep_0, eX5_keep_1, eX5_keep_2, eX5_keep_5, eX5_keep_6, eX5_keep_7]
  rw [eX5_keep_8 (Y_inn h)]
  simp only [eX5_keep_11, eX5_keep_14, eX5_keep_15, je0, if_true]
theorem Y_keep_o {i : Nat} (h : jY mem lm tx K mo un im hd tr) (hi : i ≤ 1) : ∃ mem', xX5_keep [.ref 62, .int (nI i)] (jl_w mem lm) = some (some (.int (nI (mo 0))), jl_w mem' lm) ∧ jY mem' lm tx K mo un (fun j => if j = i then some mo else im j) hd tr ∧ jl_lo mem mem' := by
  have h0 := h.V (jl_V.t (x := nI 0))
  have l0 := (jl_V.t (m := mem) (x := nI 0)).lo
  simp only [eX5_keep, eX5_keep_0, eX5_keep_1, eX5_keep_2, eX5_keep_5, eX5_keep_6, eX5_keep_7]
  rw [eX5_keep_8 (Y_in (Nat.zero_le _) hi (by omega))]
  generalize jl_s mem 62 0 (nI 0) = m1 at h0 l0 ⊢
  obtain ⟨a1, a2, a3, a4, a5, a6, a7⟩ := h0
  obtain ⟨ls', m2, hI, he⟩ := jr_loop (P := pX5_keep) (pc := 18) (lm := lm) (fun q ls m => ls = [.ref 62, .int (nI i), .int (nI q)] ∧ (∀ k, k ≠ 69 → m k = m1 k) ∧ (∀ j, j < q → m 69 (19 * i + j) = nI (mo j)) ∧ ∀ p, p < 19 * i ∨ 19 * i + 19 ≤ p → m 69 p = m1 69 p) 19 (by
    intro q ls m hq ⟨hl, q1, q2, q3⟩
    subst hl
    have e3 : ¬ 19 ≤ q := by omega
    have e4 : m 67 q = nI (mo q) := by rw [q1 67 (by omega)]; exact a3 q hq
    have e6 : nI 19 * nI i = nI (19 * i) := pk_mul _ _
    refine ⟨[.ref 62, .int (nI i), .int (nI (q + 1))], jl_s m 69 (19 * i + q) (nI (mo q)), ⟨rfl, fun k hk => by rw [js_ne hk, q1 k hk], fun j hj => ?_, fun p hp => by rw [js_mj (by omega), q3 p hp]⟩, ?_⟩
    · by_cases e : j = q
      · subst e; rw [js_hit]
      · rw [js_mj (by omega), q2 j (by omega)]
    · refine Eq.trans ?_ eX5_keep_44
      simp (disch := first | assumption | omega) only [eX5_keep_18, eX5_keep_19, eX5_keep_21, eX5_keep_24, eX5_keep_25, eX5_keep_28, eX5_keep_30, eX5_keep_31, eX5_keep_32, eX5_keep_33, eX5_keep_34, eX5_keep_35, eX5_keep_38, eX5_keep_39, eX5_keep_40, eX5_keep_41, nI_leI, e3, if_false, e6, nI_add, e4]) 19 0 [.ref 62, .int (nI i), .int (nI 0)] m1 (by omega) ⟨rfl, fun _ _ => rfl, fun j hj => absurd hj (by omega), fun _ _ => rfl⟩
  obtain ⟨rfl, q1, q2, q3⟩ := hI
  have c2 : ∀ k, k ≠ 69 → k ≠ 70 → jl_s m2 70 i (nI 1) k = m1 k := fun k x y => by rw [js_ne y, q1 k x]
  have c62 : ∀ j, jl_s m2 70 i (nI 1) 62 j = m1 62 j := fun j => by rw [c2 62 (by omega) (by omega)]
  refine ⟨jl_s m2 70 i (nI 1), ?_, ⟨a1.keep (c62 3) (c2 63 (by omega) (by omega)), a2.keep (c62 9) (c62 10) (c2 64 (by omega) (by omega)) (c2 65 (by omega) (by omega)) (c2 66 (by omega) (by omega)), a3.keep (c2 67 (by omega) (by omega)), a4.keep (c62 22) (c2 71 (by omega) (by omega)), fun j hj => ?_, a6.keep (c62 26) (c2 72 (by omega) (by omega)) (c2 73 (by omega) (by omega)) (c2 74 (by omega) (by omega)), a7⟩, fun k hk => by rw [c2 k (by omega) (by omega), l0 k hk]⟩
  · have q : jl_s m2 70 i (nI 1) 67 0 = nI (mo 0) := by rw [c2 67 (by omega) (by omega)]; exact a3 0 (by omega)
    have i0 : (0 : Nat) < 19 := by omega
    simp only [eX5_keep_11, eX5_keep_14, eX5_keep_15, eX5_keep_16, eX5_keep_17, je1, if_false]
    rw [he]
    simp (disch := first | assumption | omega) only [eX5_keep_18, eX5_keep_19, eX5_keep_21, eX5_keep_47, eX5_keep_48, eX5_keep_51, eX5_keep_52, eX5_keep_53_0, eX5_keep_53_1, eX5_keep_54, eX5_keep_55, eX5_keep_58, eX5_keep_59, eX5_keep_60, nI_leI, Nat.le_refl, if_true, q]
  · by_cases e : j = i
    · subst e
      refine ⟨fun hn => ?_, fun m hm => ?_⟩
      · have hn : (if j = j then some mo else im j) = none := hn
        rw [if_pos rfl] at hn
        cases hn
      · have hm : (if j = j then some mo else im j) = some m := hm
        rw [if_pos rfl] at hm
        cases hm
        exact ⟨js_hit, fun q hq => by rw [js_mk (by omega), q2 q hq]⟩
    · refine ⟨fun hn => ?_, fun m hm => ?_⟩
      · have hn : (if j = i then some mo else im j) = none := hn
        rw [if_neg e] at hn
        rw [js_mj e, q1 70 (by omega)]
        exact (a5 j hj).1 hn
      · have hm : (if j = i then some mo else im j) = some m := hm
        rw [if_neg e] at hm
        obtain ⟨c1, c3⟩ := (a5 j hj).2 m hm
        refine ⟨by rw [js_mj e, q1 70 (by omega)]; exact c1, fun q hq => ?_⟩
        rw [js_mk (by omega), q3 _ (by omega)]
        exact c3 q hq
theorem Y_back_b {x : Int32} (h : x < nI 0 ∨ nI 1 < x) : xX5_back [.ref 62, .int x] (jl_w mem lm) = some (some (.int (-1)), jl_w (jl_s mem 62 0 (nI 0)) lm) := by
  simp only [eX5_back, eX5_back_0, eX5_back_1, eX5_back_2, eX5_back_5, eX5_back_6, eX5_back_7]
  rw [eX5_back_8 (Y_inn h)]
  simp only [eX5_back_11, eX5_back_14, eX5_back_15, je0, if_true]
theorem Y_back_s {i : Nat} (h : jY mem lm tx K mo un im hd tr) (hi : i ≤ 1) (hn : im i = none) : xX5_back [.ref 62, .int (nI i)] (jl_w mem lm) = some (some (.int (-2)), jl_w (jl_s mem 62 0 (nI 0)) lm) := by
  have h0 := h.V (jl_V.t (x := nI 0))
  have e := (h0.2.2.2.2.1 i (by omega)).1 hn
  simp only [eX5_back, eX5_back_0, eX5_back_1, eX5_back_2, eX5_back_5, eX5_back_6, eX5_back_7]
  rw [eX5_back_8 (Y_in (Nat.zero_le _) hi (by omega))]
  simp (disch := first | assumption | omega) only [eX5_back_11, eX5_back_14, eX5_back_15, eX5_back_16, eX5_back_17, eX5_back_20, eX5_back_21, eX5_back_22, eX5_back_25, eX5_back_27, je1, if_false, e, je0, if_true]
theorem Y_back_o {i : Nat} {mm : jq_M} (h : jY mem lm tx K mo un im hd tr) (hi : i ≤ 1) (hm : im i = some mm) : ∃ mem', xX5_back [.ref 62, .int (nI i)] (jl_w mem lm) = some (some (.int (nI (mm 0))), jl_w mem' lm) ∧ jY mem' lm tx K mm [] im hd tr ∧ jl_lo mem mem' := by
  have h0 := h.V (jl_V.t (x := nI 0))
  have l0 := (jl_V.t (m := mem) (x := nI 0)).lo
  simp only [eX5_back, eX5_back_0, eX5_back_1, eX5_back_2, eX5_back_5, eX5_back_6, eX5_back_7]
  rw [eX5_back_8 (Y_in (Nat.zero_le _) hi (by omega))]
  generalize jl_s mem 62 0 (nI 0) = m1 at h0 l0 ⊢
  obtain ⟨a1, a2, a3, a4, a5, a6, a7⟩ := h0
  obtain ⟨c1, c3⟩ := (a5 i (by omega)).2 mm hm
  obtain ⟨ls', m2, hI, he⟩ := jr_loop (P := pX5_back) (pc := 30) (lm := lm) (fun q ls m => ls = [.ref 62, .int (nI i), .int (nI q)] ∧ (∀ k, k ≠ 67 → m k = m1 k) ∧ (∀ j, j < q → m 67 j = nI (mm j))) 19 (by
    intro q ls m hq ⟨hl, q1, q2⟩
    subst hl
    have e3 : ¬ 19 ≤ q := by omega
    have e4 : m 69 (19 * i + q) = nI (mm q) := by rw [q1 69 (by omega)]; exact c3 q hq
    have e6 : nI 19 * nI i = nI (19 * i) := pk_mul _ _
    refine ⟨[.ref 62, .int (nI i), .int (nI (q + 1))], jl_s m 67 q (nI (mm q)), ⟨rfl, fun k hk => by rw [js_ne hk, q1 k hk], fun j hj => ?_⟩, ?_⟩
    · by_cases e : j = q
      · subst e; rw [js_hit]
      · rw [js_mj (by omega), q2 j (by omega)]
    · refine Eq.trans ?_ eX5_back_56
      simp (disch := first | assumption | omega) only [eX5_back_30, eX5_back_31, eX5_back_33, eX5_back_36, eX5_back_37, eX5_back_40, eX5_back_41, eX5_back_42, eX5_back_45, eX5_back_47, eX5_back_48, eX5_back_49, eX5_back_50, eX5_back_51, eX5_back_52, eX5_back_53, nI_leI, e3, if_false, e6, nI_add, e4]) 19 0 [.ref 62, .int (nI i), .int (nI 0)] m1 (by omega) ⟨rfl, fun _ _ => rfl, fun j hj => absurd hj (by omega)⟩
  obtain ⟨rfl, q1, q2⟩ := hI
  have c2 : ∀ k, k ≠ 62 → k ≠ 67 → jl_s m2 62 22 (nI 0) k = m1 k := fun k x y => by rw [js_ne x, q1 k y]
  have c62 : ∀ j, j ≠ 22 → jl_s m2 62 22 (nI 0) 62 j = m1 62 j := fun j hj => by rw [js_mj hj, q1 62 (by omega)]
  refine ⟨jl_s m2 62 22 (nI 0), ?_, ⟨a1.keep (c62 3 (by omega)) (c2 63 (by omega) (by omega)), a2.keep (c62 9 (by omega)) (c62 10 (by omega)) (c2 64 (by omega) (by omega)) (c2 65 (by omega) (by omega)) (c2 66 (by omega) (by omega)), fun j hj => by rw [js_mk (by omega)]; exact q2 j hj, ⟨js_hit, fun i m hm => by simp at hm⟩, a5.keep (c2 69 (by omega) (by omega)) (c2 70 (by omega) (by omega)), a6.keep (c62 26 (by omega)) (c2 72 (by omega) (by omega)) (c2 73 (by omega) (by omega)) (c2 74 (by omega) (by omega)), a7⟩, fun k hk => by rw [c2 k (by omega) (by omega), l0 k hk]⟩
  have q : jl_s m2 62 22 (nI 0) 67 0 = nI (mm 0) := by rw [js_mk (by omega)]; exact q2 0 (by omega)
  have i0 : (0 : Nat) < 19 := by omega
  simp (disch := first | assumption | omega) only [eX5_back_11, eX5_back_14, eX5_back_15, eX5_back_16, eX5_back_17, eX5_back_20, eX5_back_21, eX5_back_22, eX5_back_25, eX5_back_27, eX5_back_28, eX5_back_29, je1, if_false, c1]
  rw [he]
  simp (disch := first | assumption | omega) only [eX5_back_30, eX5_back_31, eX5_back_33, eX5_back_59, eX5_back_60, eX5_back_61, eX5_back_64, eX5_back_65, eX5_back_68, eX5_back_69, eX5_back_70, nI_leI, Nat.le_refl, if_true, q]
theorem Y_hears_b {x y z : Int32} (hK : jy_K mem K) (hk : jq_WK K) (h : (x < 0 ∨ nI K.1 ≤ x) ∨ ((∃ r, r < K.1 ∧ x = nI r) ∧ (y < nI 0 ∨ nI 20 < y)) ∨ ((∃ r, r < K.1 ∧ x = nI r) ∧ (∃ n, n ≤ 20 ∧ y = nI n) ∧ (z < nI 0 ∨ nI 1 < z))) : xX5_hears [.ref 62, .int x, .int y, .int z] (jl_w mem lm) = some (some (.int (-1)), jl_w (jl_s mem 62 0 (nI 0)) lm) := by
  have h0 := hK.V (jl_V.t (x := nI 0))
  simp only [eX5_hears, eX5_hears_0, eX5_hears_1, eX5_hears_2, eX5_hears_5, eX5_hears_6]
  rcases h with h | ⟨⟨r, hr, rfl⟩, h⟩ | ⟨⟨r, hr, rfl⟩, ⟨n, hn, rfl⟩, h⟩
  · rw [eX5_hears_7 (Y_isRodn h0.1 hk.1 h)]
    simp only [eX5_hears_10, eX5_hears_32, eX5_hears_33, je0, if_true]
  · rw [eX5_hears_7 (Y_isRod h0.1 hk.1 hr)]
    simp only [eX5_hears_10, eX5_hears_13, eX5_hears_14, eX5_hears_15, je1, if_false]
    rw [eX5_hears_17 (Y_inn h)]
    simp only [eX5_hears_20, eX5_hears_32, eX5_hears_33, je0, if_true]
  · rw [eX5_hears_7 (Y_isRod h0.1 hk.1 hr)]
    simp only [eX5_hears_10, eX5_hears_13, eX5_hears_14, eX5_hears_15, je1, if_false]
    rw [eX5_hears_17 (Y_in (Nat.zero_le _) hn (by omega))]
    simp only [eX5_hears_20, eX5_hears_23, eX5_hears_24, eX5_hears_25, je1, if_false]
    rw [eX5_hears_26 (Y_inn h)]
    simp only [eX5_hears_29, eX5_hears_32, eX5_hears_33, je0, if_true]
theorem Y_hears_f {r n z : Nat} (h : jY mem lm tx K mo un im hd tr) (hk : jq_WK K) (hr : r < K.1) (hn : n ≤ 20) (hz : z ≤ 1) (h6 : hd.1 = 6) : xX5_hears [.ref 62, .int (nI r), .int (nI n), .int (nI z)] (jl_w mem lm) = some (some (.int (-3)), jl_w (jl_s mem 62 0 (nI 0)) lm) := by
  have h0 := h.V (jl_V.t (x := nI 0))
  have g := h0.2.2.2.2.2.1.1
  rw [h6] at g
  simp only [eX5_hears, eX5_hears_0, eX5_hears_1, eX5_hears_2, eX5_hears_5, eX5_hears_6]
  rw [eX5_hears_7 (Y_isRod h0.2.1.1 hk.1 hr)]
  simp only [eX5_hears_10, eX5_hears_13, eX5_hears_14, eX5_hears_15, je1, if_false]
  rw [eX5_hears_17 (Y_in (Nat.zero_le _) hn (by omega))]
  simp only [eX5_hears_20, eX5_hears_23, eX5_hears_24, eX5_hears_25, je1, if_false]
  rw [eX5_hears_26 (Y_in (Nat.zero_le _) hz (by omega))]
  simp only [eX5_hears_29, eX5_hears_32, eX5_hears_33, eX5_hears_34, eX5_hears_35, eX5_hears_38, eX5_hears_40, eX5_hears_43, eX5_hears_45, je1, if_false, g, if_true]
theorem Y_hears_o {r n z : Nat} (h : jY mem lm tx K mo un im hd tr) (hk : jq_WK K) (hr : r < K.1) (hn : n ≤ 20) (hz : z ≤ 1) (h6 : hd.1 < 6) : ∃ mem', xX5_hears [.ref 62, .int (nI r), .int (nI n), .int (nI z)] (jl_w mem lm) = some (some (.int (nI (hd.1 + 1))), jl_w mem' lm) ∧ jY mem' lm tx K mo un im (hd.1 + 1, fun i => if i = hd.1 then r else hd.2.1 i, fun i => if i = hd.1 then n else hd.2.2.1 i, fun i => if i = hd.1 then z else hd.2.2.2 i) tr ∧ jl_lo mem mem' := by
  have h0 := h.V (jl_V.t (x := nI 0))
  have l0 := (jl_V.t (m := mem) (x := nI 0)).lo
  simp only [eX5_hears, eX5_hears_0, eX5_hears_1, eX5_hears_2, eX5_hears_5, eX5_hears_6]
  rw [eX5_hears_7 (Y_isRod h0.2.1.1 hk.1 hr)]
  simp only [eX5_hears_10, eX5_hears_13, eX5_hears_14, eX5_hears_15, je1, if_false]
  rw [eX5_hears_17 (Y_in (Nat.zero_le _) hn (by omega))]
  simp only [eX5_hears_20, eX5_hears_23, eX5_hears_24, eX5_hears_25, je1, if_false]
  rw [eX5_hears_26 (Y_in (Nat.zero_le _) hz (by omega))]
  generalize jl_s mem 62 0 (nI 0) = m1 at h0 l0 ⊢
  obtain ⟨a1, a2, a3, a4, a5, a6, a7⟩ := h0
  have g := a6.1
  have ne : ¬ hd.1 = 6 := by omega
  have k1 : ∀ x, jl_s m1 72 hd.1 x 62 26 = nI hd.1 := fun x => by rw [js_mk (by omega), g]
  have k2 : ∀ x y, jl_s (jl_s m1 72 hd.1 x) 73 hd.1 y 62 26 = nI hd.1 := fun x y => by rw [js_mk (by omega), k1]
  have k3 : ∀ x y z, jl_s (jl_s (jl_s m1 72 hd.1 x) 73 hd.1 y) 74 hd.1 z 62 26 = nI hd.1 := fun x y z => by rw [js_mk (by omega), k2]
  refine ⟨jl_s (jl_s (jl_s (jl_s m1 72 hd.1 (nI r)) 73 hd.1 (nI n)) 74 hd.1 (nI z)) 62 26 (nI (hd.1 + 1)), ?_, ⟨a1.keep ?_ ?_, a2.keep ?_ ?_ ?_ ?_ ?_, a3.keep ?_, a4.keep ?_ ?_, a5.keep ?_ ?_, ⟨js_hit, fun i hi => ?_⟩, a7⟩, fun k hk => by rw [js_ne (by omega), js_ne (by omega), js_ne (by omega), js_ne (by omega), l0 k hk]⟩
  · simp (disch := first | assumption | omega) only [eX5_hears_29, eX5_hears_32, eX5_hears_33, eX5_hears_34, eX5_hears_35, eX5_hears_38, eX5_hears_40, eX5_hears_43, eX5_hears_45, eX5_hears_46, eX5_hears_47, eX5_hears_50, eX5_hears_51, eX5_hears_54, eX5_hears_55, eX5_hears_56, eX5_hears_57, eX5_hears_60, eX5_hears_61, eX5_hears_64, eX5_hears_65, eX5_hears_66, eX5_hears_67, eX5_hears_70, eX5_hears_71, eX5_hears_74, eX5_hears_75, eX5_hears_76, eX5_hears_77, eX5_hears_78, eX5_hears_81, eX5_hears_82, eX5_hears_83, eX5_hears_86, eX5_hears_87, eX5_hears_90, je1, if_false, g, k1, k2, k3, nI_eq, ne, nI_add, js_hit]
  all_goals first | (rw [js_ne (by omega), js_ne (by omega), js_ne (by omega), js_ne (by omega)]; done) | (rw [js_mj (by omega), js_mk (by omega), js_mk (by omega), js_mk (by omega)]; done) | skip
  have hi : i < hd.1 + 1 := hi
  show _ = nI (if i = hd.1 then r else hd.2.1 i) ∧ _ = nI (if i = hd.1 then n else hd.2.2.1 i) ∧ _ = nI (if i = hd.1 then z else hd.2.2.2 i)
  by_cases e : i = hd.1
  · rw [if_pos e, if_pos e, if_pos e, e]
    refine ⟨?_, ?_, ?_⟩
    · rw [js_mk (by omega), js_mk (by omega), js_mk (by omega), js_hit]
    · rw [js_mk (by omega), js_mk (by omega), js_hit]
    · rw [js_mk (by omega), js_hit]
  · obtain ⟨b1, b2, b3⟩ := a6.2 i (by omega)
    rw [if_neg e, if_neg e, if_neg e]
    refine ⟨?_, ?_, ?_⟩
    · rw [js_mk (by omega), js_mk (by omega), js_mk (by omega), js_mj e, b1]
    · rw [js_mk (by omega), js_mk (by omega), js_mj e, js_mk (by omega), b2]
    · rw [js_mk (by omega), js_mj e, js_mk (by omega), js_mk (by omega), b3]
theorem Y_forget (h : jY mem lm tx K mo un im hd tr) : ∃ mem', xX5_forget [.ref 62] (jl_w mem lm) = some (some (.int (nI hd.1)), jl_w mem' lm) ∧ jY mem' lm tx K mo un im (0, hd.2) tr ∧ jl_lo mem mem' := by
  have h0 := h.V (jl_V.t (x := nI 0))
  have l0 := (jl_V.t (m := mem) (x := nI 0)).lo
  simp only [eX5_forget, eX5_forget_0, eX5_forget_1, eX5_forget_2, eX5_forget_5, eX5_forget_6, eX5_forget_9, eX5_forget_10, eX5_forget_11, eX5_forget_12, eX5_forget_15, eX5_forget_16]
  generalize jl_s mem 62 0 (nI 0) = m0 at h0 l0 ⊢
  obtain ⟨a1, a2, a3, a4, a5, a6, a7⟩ := h0
  refine ⟨jl_s m0 62 26 (nI 0), by rw [a6.1], ⟨a1.keep ?_ ?_, a2.keep ?_ ?_ ?_ ?_ ?_, a3.keep ?_, a4.keep ?_ ?_, a5.keep ?_ ?_, ⟨js_hit, fun i hi => absurd hi (by simp)⟩, a7⟩, fun k hk => by rw [js_ne (by omega), l0 k hk]⟩
  all_goals first | rw [js_ne (by omega)] | rw [js_mj (by omega)]
theorem Y_rate_b {x y : Int32} (hK : jy_K mem K) (hk : jq_WK K) (h : (y < 0 ∨ nI K.1 ≤ y) ∨ ((∃ r, r < K.1 ∧ y = nI r) ∧ (x < nI 0 ∨ nI 5 < x))) : xX5_rate [.ref 62, .int x, .int y] (jl_w mem lm) = some (some (.int (-1000000)), jl_w (jl_s mem 62 0 (nI 0)) lm) := by
  have h0 := hK.V (jl_V.t (x := nI 0))
  simp only [eX5_rate, eX5_rate_0, eX5_rate_1, eX5_rate_2, eX5_rate_5, eX5_rate_6, eX5_rate_7]
  rcases jq_rng x (a := 0) (b := 5) (by omega) (by omega) with ⟨v, v1, v2, rfl⟩ | hx
  · rw [eX5_rate_8 (Y_in v1 v2 (by omega))]
    simp only [eX5_rate_11, eX5_rate_14, eX5_rate_15, je1, if_false]
    rcases h with h | ⟨⟨r, hr, rfl⟩, h⟩
    · rw [eX5_rate_16 (Y_isRodn h0.1 hk.1 h)]
      simp only [eX5_rate_19, eX5_rate_22, eX5_rate_24, je0, if_true]
    · rcases h with h | h
      · exact absurd ((nI_ltI (by omega) (by omega)).mp h) (by omega)
      · exact absurd ((nI_ltI (by omega) (by omega)).mp h) (by omega)
  · rw [eX5_rate_8 (Y_inn hx)]
    simp only [eX5_rate_11, eX5_rate_22, eX5_rate_24, je0, if_true]
theorem Y_rate_o {r w : Nat} (h : jY mem lm tx K mo un im hd tr) (hk : jq_WK K) (hr : r < K.1) (hw : w ≤ 5) : xX5_rate [.ref 62, .int (nI w), .int (nI r)] (jl_w mem lm) = some (some (.int (jq_rt K mo r w)), jl_w (jl_s mem 62 0 (nI 0)) (jl_sl lm 62 1 (tr + jq_tr w))) := by
  have h0 := h.V (jl_V.t (x := nI 0))
  have h8 := hk.1
  have h7 : lm 62 1 = tr := h.2.2.2.2.2.2
  simp only [eX5_rate, eX5_rate_0, eX5_rate_1, eX5_rate_2, eX5_rate_5, eX5_rate_6, eX5_rate_7]
  rw [eX5_rate_8 (Y_in (Nat.zero_le _) hw (by omega))]
  simp only [eX5_rate_11, eX5_rate_14, eX5_rate_15, je1, if_false]
  rw [eX5_rate_16 (Y_isRod h0.2.1.1 hk.1 hr)]
  generalize jl_s mem 62 0 (nI 0) = m0 at h0 ⊢
  have g1 := (h0.2.1.2.2 r hr).1
  have g2 := h0.2.2.1 (11 + r) (by omega)
  have g3 := h0.2.2.1 2 (by omega)
  have g4 := h0.2.2.1 0 (by omega)
  have i2 : (2 : Nat) < 19 := by omega
  have i0 : (0 : Nat) < 19 := by omega
  have s11 : nI 11 + nI r = nI (11 + r) := nI_add ..
  simp (disch := first | assumption | omega) only [eX5_rate_19, eX5_rate_22, eX5_rate_24, eX5_rate_25, eX5_rate_26, eX5_rate_29, eX5_rate_30, eX5_rate_31, eX5_rate_32, eX5_rate_33, eX5_rate_34, eX5_rate_37, eX5_rate_39, eX5_rate_40, eX5_rate_41, eX5_rate_42, eX5_rate_43, eX5_rate_45, eX5_rate_46, eX5_rate_47, eX5_rate_50, eX5_rate_51, eX5_rate_52, eX5_rate_53, eX5_rate_55, eX5_rate_56, eX5_rate_57, eX5_rate_60, je1, if_false, g1, g2, g3, s11, h7]
  have n1 : ¬ (2 : Nat) = 0 := by omega
  have n2 : ¬ (2 : Nat) = 1 := by omega
  have n3 : ¬ (3 : Nat) = 0 := by omega
  have n4 : ¬ (3 : Nat) = 1 := by omega
  have n5 : ¬ (3 : Nat) = 2 := by omega
  have m0' : ¬ (4 : Nat) = 0 := by omega
  have m1 : ¬ (4 : Nat) = 1 := by omega
  have m2 : ¬ (4 : Nat) = 2 := by omega
  have m3 : ¬ (4 : Nat) = 3 := by omega
  have k0 : ¬ (5 : Nat) = 0 := by omega
  have k1 : ¬ (5 : Nat) = 1 := by omega
  have k2 : ¬ (5 : Nat) = 2 := by omega
  have k3 : ¬ (5 : Nat) = 3 := by omega
  have k4 : ¬ (5 : Nat) = 4 := by omega
  match w, hw with
  | 0, _ => simp (disch := first | assumption | omega) only [eX5_rate_61, eX5_rate_64, eX5_rate_65, eX5_rate_68, eX5_rate_69, eX5_rate_70, eX5_rate_73, eX5_rate_76, eX5_rate_79, eX5_rate_80, eX5_rate_81, eX5_rate_84, eX5_rate_87, eX5_rate_90, eX5_rate_91, eX5_rate_92, eX5_rate_95, eX5_rate_98, eX5_rate_101, eX5_rate_102, eX5_rate_103, eX5_rate_106, eX5_rate_109, eX5_rate_112, eX5_rate_115, eX5_rate_116, eX5_rate_119, eX5_rate_120, eX5_rate_123, eX5_rate_124, eX5_rate_127, eX5_rate_128, eX5_rate_129, eX5_rate_132, eX5_rate_134, eX5_rate_137, eX5_rate_138, eX5_rate_139, eX5_rate_142, eX5_rate_144, eX5_rate_147, eX5_rate_148, eX5_rate_149, eX5_rate_152, eX5_rate_153, eX5_rate_155, eX5_rate_156, eX5_rate_159, eX5_rate_160, eX5_rate_161, eX5_rate_164, eX5_rate_166, eX5_rate_167, eX5_rate_168, eX5_rate_171, eX5_rate_172, eX5_rate_173, eX5_rate_176, eX5_rate_177, eX5_rate_178, eX5_rate_179, je0, if_true]; rfl
  | 1, _ => simp (disch := first | assumption | omega) only [eX5_rate_61, eX5_rate_64, eX5_rate_65, eX5_rate_68, eX5_rate_69, eX5_rate_70, eX5_rate_73, eX5_rate_76, eX5_rate_79, eX5_rate_80, eX5_rate_81, eX5_rate_84, eX5_rate_87, eX5_rate_90, eX5_rate_91, eX5_rate_92, eX5_rate_95, eX5_rate_98, eX5_rate_101, eX5_rate_102, eX5_rate_103, eX5_rate_106, eX5_rate_109, eX5_rate_112, eX5_rate_115, eX5_rate_116, eX5_rate_119, eX5_rate_120, eX5_rate_123, eX5_rate_124, eX5_rate_127, eX5_rate_128, eX5_rate_129, eX5_rate_132, eX5_rate_134, eX5_rate_137, eX5_rate_138, eX5_rate_139, eX5_rate_142, eX5_rate_144, eX5_rate_147, eX5_rate_148, eX5_rate_149, eX5_rate_152, eX5_rate_153, eX5_rate_155, eX5_rate_156, eX5_rate_159, eX5_rate_160, eX5_rate_161, eX5_rate_164, eX5_rate_166, eX5_rate_167, eX5_rate_168, eX5_rate_171, eX5_rate_172, eX5_rate_173, eX5_rate_176, eX5_rate_177, eX5_rate_178, eX5_rate_179, jz_eq, nI_eq, Nat.one_ne_zero, if_false, if_true]; rfl
  | 2, _ => simp (disch := first | assumption | omega) only [eX5_rate_61, eX5_rate_64, eX5_rate_65, eX5_rate_68, eX5_rate_69, eX5_rate_70, eX5_rate_73, eX5_rate_76, eX5_rate_79, eX5_rate_80, eX5_rate_81, eX5_rate_84, eX5_rate_87, eX5_rate_90, eX5_rate_91, eX5_rate_92, eX5_rate_95, eX5_rate_98, eX5_rate_101, eX5_rate_102, eX5_rate_103, eX5_rate_106, eX5_rate_109, eX5_rate_112, eX5_rate_115, eX5_rate_116, eX5_rate_119, eX5_rate_120, eX5_rate_123, eX5_rate_124, eX5_rate_127, eX5_rate_128, eX5_rate_129, eX5_rate_132, eX5_rate_134, eX5_rate_137, eX5_rate_138, eX5_rate_139, eX5_rate_142, eX5_rate_144, eX5_rate_147, eX5_rate_148, eX5_rate_149, eX5_rate_152, eX5_rate_153, eX5_rate_155, eX5_rate_156, eX5_rate_159, eX5_rate_160, eX5_rate_161, eX5_rate_164, eX5_rate_166, eX5_rate_167, eX5_rate_168, eX5_rate_171, eX5_rate_172, eX5_rate_173, eX5_rate_176, eX5_rate_177, eX5_rate_178, eX5_rate_179, jz_eq, nI_eq, n1, n2, if_false, if_true]; rfl
  | 3, _ => simp (disch := first | assumption | omega) only [eX5_rate_61, eX5_rate_64, eX5_rate_65, eX5_rate_68, eX5_rate_69, eX5_rate_70, eX5_rate_73, eX5_rate_76, eX5_rate_79, eX5_rate_80, eX5_rate_81, eX5_rate_84, eX5_rate_87, eX5_rate_90, eX5_rate_91, eX5_rate_92, eX5_rate_95, eX5_rate_98, eX5_rate_101, eX5_rate_102, eX5_rate_103, eX5_rate_106, eX5_rate_109, eX5_rate_112, eX5_rate_115, eX5_rate_116, eX5_rate_119, eX5_rate_120, eX5_rate_123, eX5_rate_124, eX5_rate_127, eX5_rate_128, eX5_rate_129, eX5_rate_132, eX5_rate_134, eX5_rate_137, eX5_rate_138, eX5_rate_139, eX5_rate_142, eX5_rate_144, eX5_rate_147, eX5_rate_148, eX5_rate_149, eX5_rate_152, eX5_rate_153, eX5_rate_155, eX5_rate_156, eX5_rate_159, eX5_rate_160, eX5_rate_161, eX5_rate_164, eX5_rate_166, eX5_rate_167, eX5_rate_168, eX5_rate_171, eX5_rate_172, eX5_rate_173, eX5_rate_176, eX5_rate_177, eX5_rate_178, eX5_rate_179, jz_eq, nI_eq, n3, n4, n5, if_false, if_true]; rfl
  | 4, _ => simp (disch := first | assumption | omega) only [eX5_rate_61, eX5_rate_64, eX5_rate_65, eX5_rate_68, eX5_rate_69, eX5_rate_70, eX5_rate_73, eX5_rate_76, eX5_rate_79, eX5_rate_80, eX5_rate_81, eX5_rate_84, eX5_rate_87, eX5_rate_90, eX5_rate_91, eX5_rate_92, eX5_rate_95, eX5_rate_98, eX5_rate_101, eX5_rate_102, eX5_rate_103, eX5_rate_106, eX5_rate_109, eX5_rate_112, eX5_rate_115, eX5_rate_116, eX5_rate_119, eX5_rate_120, eX5_rate_123, eX5_rate_124, eX5_rate_127, eX5_rate_128, eX5_rate_129, eX5_rate_132, eX5_rate_134, eX5_rate_137, eX5_rate_138, eX5_rate_139, eX5_rate_142, eX5_rate_144, eX5_rate_147, eX5_rate_148, eX5_rate_149, eX5_rate_152, eX5_rate_153, eX5_rate_155, eX5_rate_156, eX5_rate_159, eX5_rate_160, eX5_rate_161, eX5_rate_164, eX5_rate_166, eX5_rate_167, eX5_rate_168, eX5_rate_171, eX5_rate_172, eX5_rate_173, eX5_rate_176, eX5_rate_177, eX5_rate_178, eX5_rate_179, jz_eq, nI_eq, m0', m1, m2, m3, if_false, if_true]; rfl
  | 5, _ => simp (disch := first | assumption | omega) only [eX5_rate_61, eX5_rate_64, eX5_rate_65, eX5_rate_68, eX5_rate_69, eX5_rate_70, eX5_rate_73, eX5_rate_76, eX5_rate_79, eX5_rate_80, eX5_rate_81, eX5_rate_84, eX5_rate_87, eX5_rate_90, eX5_rate_91, eX5_rate_92, eX5_rate_95, eX5_rate_98, eX5_rate_101, eX5_rate_102, eX5_rate_103, eX5_rate_106, eX5_rate_109, eX5_rate_112, eX5_rate_115, eX5_rate_116, eX5_rate_119, eX5_rate_120, eX5_rate_123, eX5_rate_124, eX5_rate_127, eX5_rate_128, eX5_rate_129, eX5_rate_132, eX5_rate_134, eX5_rate_137, eX5_rate_138, eX5_rate_139, eX5_rate_142, eX5_rate_144, eX5_rate_147, eX5_rate_148, eX5_rate_149, eX5_rate_152, eX5_rate_153, eX5_rate_155, eX5_rate_156, eX5_rate_159, eX5_rate_160, eX5_rate_161, eX5_rate_164, eX5_rate_166, eX5_rate_167, eX5_rate_168, eX5_rate_171, eX5_rate_172, eX5_rate_173, eX5_rate_176, eX5_rate_177, eX5_rate_178, eX5_rate_179, jz_eq, nI_eq, k0, k1, k2, k3, k4, if_false, g4]; rfl
theorem Y_comes_b {x y : Int32} (h : (x < nI 0 ∨ nI 20 < x) ∨ ((∃ n, n ≤ 20 ∧ x = nI n) ∧ (y < nI 0 ∨ nI 1 < y))) : xX5_comes [.ref 62, .int x, .int y] (jl_w mem lm) = some (some (.int (-1)), jl_w (jl_s mem 62 0 (nI 0)) lm) := by
  simp only [eX5_comes, eX5_comes_0, eX5_comes_1, eX5_comes_2, eX5_comes_5, eX5_comes_6, eX5_comes_7]
  rcases h with h | ⟨⟨n, hn, rfl⟩, h⟩
  · rw [eX5_comes_9 (Y_inn h)]
    simp only [eX5_comes_12, eX5_comes_24, eX5_comes_25, je0, if_true]
  · rw [eX5_comes_9 (Y_in (Nat.zero_le _) hn (by omega))]
    simp only [eX5_comes_12, eX5_comes_15, eX5_comes_16, eX5_comes_17, je1, if_false]
    rw [eX5_comes_18 (Y_inn h)]
    simp only [eX5_comes_21, eX5_comes_24, eX5_comes_25, je0, if_true]
theorem Y_comes_o {n w : Nat} (h : jY mem lm tx K mo un im hd tr) (hk : jq_WK K) (hw : jq_WM K.1 mo) (hn : n ≤ 20) (h1 : w ≤ 1) : ∃ mem', xX5_comes [.ref 62, .int (nI n), .int (nI w)] (jl_w mem lm) = some (some (.int (nI (if K.1 = 0 then 0 else if w = 0 then (jq_go K n (mo, 0, jq_h K mo)).2.1 else (jq_go K n (mo, 0, jq_h K mo)).2.2))), jl_w mem' lm) ∧ jl_V mem mem' := by
  have h0 := h.V (jl_V.t (x := nI 0))
  have v0 := jl_V.t (m := mem) (x := nI 0)
  simp only [eX5_comes, eX5_comes_0, eX5_comes_1, eX5_comes_2, eX5_comes_5, eX5_comes_6, eX5_comes_7]
  rw [eX5_comes_9 (Y_in (Nat.zero_le _) hn (by omega))]
  simp only [eX5_comes_12, eX5_comes_15, eX5_comes_16, eX5_comes_17, je1, if_false]
  rw [eX5_comes_18 (Y_in (Nat.zero_le _) h1 (by omega))]
  simp only [eX5_comes_21, eX5_comes_24, eX5_comes_25, eX5_comes_26, je1, if_false]
  generalize jl_s mem 62 0 (nI 0) = m0 at h0 v0 ⊢
  obtain ⟨m1, e1, r1, b1, b2, G1⟩ := Y_asNow (lm := lm) h0.2.2.1
  have K1 := h0.2.1.G G1
  rw [eX5_comes_27 e1]
  simp only [eX5_comes_30, eX5_comes_31, eX5_comes_32, eX5_comes_33]
  rw [eX5_comes_36 (Y_harsh (k := 68) ⟨rfl, rfl⟩ K1 r1 hk hw)]
  simp only [eX5_comes_39, eX5_comes_42, eX5_comes_43]
  have G2 : jl_G m1 (jl_s m1 62 28 (nI (jq_h K mo))) := jl_G.fld (Or.inr rfl)
  by_cases hz : K.1 = 0
  · have hh : jq_h K mo = 0 := by unfold jq_h; rw [hz]; rfl
    have K2 := K1.G G2
    refine ⟨jl_s m1 62 28 (nI (jq_h K mo)), ?_, v0.tr ((jl_V.G G1).tr (jl_V.G G2))⟩
    rw [eX5_comes_44 (Y_calm0 hn (by rw [K2.1, hz])), if_pos hz]
    have c27 : jl_s m1 62 28 (nI (jq_h K mo)) 62 27 = nI 0 := by rw [js_mj (by omega), b1]
    have c28 : jl_s m1 62 28 (nI (jq_h K mo)) 62 28 = nI 0 := by rw [js_hit, hh]
    by_cases hw0 : w = 0
    · subst hw0
      simp only [eX5_comes_47, eX5_comes_48, eX5_comes_51, eX5_comes_52, eX5_comes_55, eX5_comes_58, eX5_comes_59, eX5_comes_62, je0, if_true, c27]
    · simp (disch := first | assumption | omega) only [eX5_comes_47, eX5_comes_48, eX5_comes_51, eX5_comes_52, eX5_comes_55, eX5_comes_58, eX5_comes_59, eX5_comes_62, jz_eq, hw0, if_false, c28]
  · have K2 := K1.G G2
    obtain ⟨m2, e2, r2, d1, d2, G3⟩ := Y_calm (lm := lm) (s := (mo, 0, jq_h K mo)) (n := n) K2 (r1.keep (js_ne (by omega))) hk (by omega) ⟨hw, by show 0 < 256; omega, jq_h_le hk.1, Nat.le_refl _⟩ hn (by rw [js_mj (by omega), b1]) js_hit
    refine ⟨m2, ?_, v0.tr ((jl_V.G G1).tr ((jl_V.G G2).tr (jl_V.G G3)))⟩
    rw [eX5_comes_44 e2, if_neg hz]
    by_cases hw0 : w = 0
    · subst hw0
      simp only [eX5_comes_47, eX5_comes_48, eX5_comes_51, eX5_comes_52, eX5_comes_55, eX5_comes_58, eX5_comes_59, eX5_comes_62, je0, if_true, d1]
    · simp (disch := first | assumption | omega) only [eX5_comes_47, eX5_comes_48, eX5_comes_51, eX5_comes_52, eX5_comes_55, eX5_comes_58, eX5_comes_59, eX5_comes_62, jz_eq, hw0, if_false, d2]
end YM

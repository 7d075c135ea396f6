def jp_z : jp_Q := (0, (0, 1, fun _ => 0, fun _ => 0, fun _ => 0), 0, 0, 0, 0)
theorem jp_W_z : jp_W jp_z := ⟨by decide, by decide, by decide, fun r hr => absurd hr (Nat.not_lt_zero _), by decide, fun e => absurd e (by decide), fun e => absurd e (by decide), fun e _ => absurd e (by decide)⟩
theorem jq_swd (u : Nat) (h : u < 6) : (if (nI u).toInt < 1 then 136 else (([32, 54, 76, 112] : List Nat)[((nI u).toInt - 1).toNat]?).getD 136) = if u = 1 then 32 else if u = 2 then 54 else if u = 3 then 76 else if u = 4 then 112 else 136 := by
  have h1 : ∀ u, u < 6 → (if (nI u).toInt < 1 then 136 else (([32, 54, 76, 112] : List Nat)[((nI u).toInt - 1).toNat]?).getD 136) = if u = 1 then 32 else if u = 2 then 54 else if u = 3 then 76 else if u = 4 then 112 else 136 := by decide +kernel
  exact h1 u h
section XR
variable {mem : jl_M} {lm : jl_L} {tx : jq_X}
theorem X_dadd {q : jp_Q} {t g r : Nat} (hQ : jX_Q mem q) (hn : q.2.1.1 < 8) : ∃ mem', xX2_add [.ref 3, .int (nI t), .int (nI g), .int (nI r)] (jl_w mem lm) = some (some (.int (nI 1)), jl_w mem' lm) ∧ jX_Q mem' (5, jp_add q.2.1 t g r, q.2.2) ∧ jl_rd mem mem' := by
  obtain ⟨c1, c2, c3, c4, c5, c6, c7⟩ := hQ
  have h5 : jl_K 3 = 5 := rfl
  have hA1 : jl_A 4 8 := ⟨rfl, rfl⟩
  have hA2 : jl_A 5 8 := ⟨rfl, rfl⟩
  have hA3 : jl_A 6 8 := ⟨rfl, rfl⟩
  have q1 : ∀ x, jl_s mem 4 q.2.1.1 x 3 0 = nI q.2.1.1 := fun x => by rw [js_mk (by omega), c1]
  have q2 : ∀ x y, jl_s (jl_s mem 4 q.2.1.1 x) 5 q.2.1.1 y 3 0 = nI q.2.1.1 := fun x y => by rw [js_mk (by omega), q1]
  have q3 : ∀ x y z, jl_s (jl_s (jl_s mem 4 q.2.1.1 x) 5 q.2.1.1 y) 6 q.2.1.1 z 3 0 = nI q.2.1.1 := fun x y z => by rw [js_mk (by omega), q2]
  refine ⟨jl_s (jl_s (jl_s (jl_s mem 4 q.2.1.1 (nI t)) 5 q.2.1.1 (nI g)) 6 q.2.1.1 (nI r)) 3 0 (nI (q.2.1.1 + 1)), ?_, ⟨?_, ?_, fun i hi => ?_, ?_, ?_, fun e => ?_, fun e => ?_⟩, ⟨fun k k1 k2 => ?_, ?_⟩⟩
  · simp (disch := first | assumption | omega) only [eX2_add, eX2_add_0, eX2_add_1, eX2_add_4, eX2_add_6, eX2_add_9, eX2_add_10_0, eX2_add_10_1, eX2_add_11, eX2_add_12, eX2_add_15, eX2_add_16, eX2_add_19, eX2_add_20, eX2_add_21, eX2_add_22, eX2_add_25, eX2_add_26, eX2_add_29, eX2_add_30, eX2_add_31, eX2_add_32, eX2_add_35, eX2_add_36, eX2_add_39, eX2_add_40, eX2_add_41, eX2_add_42, eX2_add_43, eX2_add_46, eX2_add_47, eX2_add_48, eX2_add_51, eX2_add_52_0, eX2_add_52_1, c1, nI_ltI, hn, if_true, q1, q2, q3, nI_add, Nat.reduceAdd]
  · rw [js_hit]; rfl
  · rw [js_mj (by omega), js_mk (by omega), js_mk (by omega), js_mk (by omega), c2]; rfl
  · have hi : i < q.2.1.1 + 1 := hi
    show _ = nI (if i = q.2.1.1 then t else q.2.1.2.2.1 i) ∧ _ = nI (if i = q.2.1.1 then g else q.2.1.2.2.2.1 i) ∧ _ = nI (if i = q.2.1.1 then r else q.2.1.2.2.2.2 i)
    by_cases e : i = q.2.1.1
    · rw [if_pos e, if_pos e, if_pos e, e]
      refine ⟨?_, ?_, ?_⟩
      · rw [js_mk (by omega), js_mk (by omega), js_mk (by omega), js_hit]
      · rw [js_mk (by omega), js_mk (by omega), js_hit]
      · rw [js_mk (by omega), js_hit]
    · obtain ⟨b1, b2, b3⟩ := c3 i (by omega)
      rw [if_neg e, if_neg e, if_neg e]
      refine ⟨?_, ?_, ?_⟩
      · rw [js_mk (by omega), js_mk (by omega), js_mk (by omega), js_mj e, b1]
      · rw [js_mk (by omega), js_mk (by omega), js_mj e, js_mk (by omega), b2]
      · rw [js_mk (by omega), js_mj e, js_mk (by omega), js_mk (by omega), b3]
  · rw [js_mk (by omega), js_mk (by omega), js_mk (by omega), js_mk (by omega)]; exact c4
  · rw [js_mk (by omega), js_mk (by omega), js_mk (by omega), js_mk (by omega)]; exact c5
  · exact absurd e (by simp)
  · exact absurd e (by simp)
  · rw [js_ne (by omega), js_ne (by omega), js_ne (by omega), js_ne (by omega)]
  · rw [js_mk (by omega), js_mk (by omega), js_mk (by omega), js_mk (by omega)]
theorem X_dbn_n {u : Nat} (hu : u < 6) : ∃ mem', xX3_dueBehindNumber [.ref 1, .int (nI u), .int (-1)] (jl_w mem lm) = some (some (.int (nI 6)), jl_w mem' lm) ∧ jl_rd mem mem' := by
  have hn : ∀ a, a < 10 → (-1 : Int32) < nI a := by decide
  simp only [eX3_dueBehindNumber, eX3_dueBehindNumber_0]
  rw [eX3_dueBehindNumber_1, jq_swd u hu]
  by_cases h1 : u = 1
  · rw [if_pos h1]
    refine ⟨jl_s mem 1 5 (-1), ?_, ⟨fun k k1 k2 => js_ne k1, js_mj (by omega)⟩⟩
    simp only [eX3_dueBehindNumber_32, eX3_dueBehindNumber_33, eX3_dueBehindNumber_34, eX3_dueBehindNumber_37, eX3_dueBehindNumber_38, eX3_dueBehindNumber_39]
    rw [eX3_dueBehindNumber_41 (jm_winn (Or.inl (hn 0 (by omega))))]
    simp only [eX3_dueBehindNumber_44, eX3_dueBehindNumber_47, eX3_dueBehindNumber_48, eX3_dueBehindNumber_51, eX3_dueBehindNumber_53, je0, if_true]
  · rw [if_neg h1]
    by_cases h2 : u = 2
    · rw [if_pos h2]
      refine ⟨jl_s mem 1 6 (-1), ?_, ⟨fun k k1 k2 => js_ne k1, js_mj (by omega)⟩⟩
      simp only [eX3_dueBehindNumber_54, eX3_dueBehindNumber_55, eX3_dueBehindNumber_56, eX3_dueBehindNumber_59, eX3_dueBehindNumber_60, eX3_dueBehindNumber_61]
      rw [eX3_dueBehindNumber_63 (jm_winn (Or.inl (hn 1 (by omega))))]
      simp only [eX3_dueBehindNumber_66, eX3_dueBehindNumber_69, eX3_dueBehindNumber_70, eX3_dueBehindNumber_73, eX3_dueBehindNumber_75, je0, if_true]
    · rw [if_neg h2]
      by_cases h3 : u = 3
      · rw [if_pos h3]
        refine ⟨mem, ?_, ⟨fun k k1 k2 => rfl, rfl⟩⟩
        simp only [eX3_dueBehindNumber_76, eX3_dueBehindNumber_77, eX3_dueBehindNumber_78]
        rw [eX3_dueBehindNumber_80 (jm_winn (Or.inl (hn 1 (by omega))))]
        simp only [eX3_dueBehindNumber_83, eX3_dueBehindNumber_109, eX3_dueBehindNumber_111, je0, if_true]
      · rw [if_neg h3]
        by_cases h4 : u = 4
        · rw [if_pos h4]
          refine ⟨jl_s mem 3 1 (-1), ?_, ⟨fun k k1 k2 => js_ne (by omega), js_mk (by omega)⟩⟩
          simp only [eX3_dueBehindNumber_112, eX3_dueBehindNumber_113, eX3_dueBehindNumber_116, eX3_dueBehindNumber_117, eX3_dueBehindNumber_120, eX3_dueBehindNumber_121, eX3_dueBehindNumber_122]
          rw [eX3_dueBehindNumber_123 (jm_winn (Or.inl (hn 1 (by omega))))]
          simp only [eX3_dueBehindNumber_126, eX3_dueBehindNumber_129, eX3_dueBehindNumber_130, eX3_dueBehindNumber_133, eX3_dueBehindNumber_135, je0, if_true]
        · rw [if_neg h4]
          refine ⟨mem, ?_, ⟨fun k k1 k2 => rfl, rfl⟩⟩
          simp only [eX3_dueBehindNumber_136, eX3_dueBehindNumber_138]
theorem X_dbn {q : jp_Q} {v : Nat} (hQ : jX_Q mem q) (hW : jp_W q) (hu : q.1 < 6) (hv : v < 1000) : ∃ mem', xX3_dueBehindNumber [.ref 1, .int (nI q.1), .int (nI v)] (jl_w mem lm) = some (some (.int (nI (jp_num q v).1)), jl_w mem' lm) ∧ ((jp_num q v).1 ≠ 6 → jX_Q mem' (jp_num q v)) ∧ jl_rd mem mem' := by
  obtain ⟨c1, c2, c3, c4, c5, c6, c7⟩ := id hQ
  simp only [eX3_dueBehindNumber, eX3_dueBehindNumber_0]
  rw [eX3_dueBehindNumber_1, jq_swd q.1 hu]
  unfold jp_num
  by_cases h1 : q.1 = 1
  · rw [if_pos h1, if_pos h1]
    refine ⟨jl_s mem 1 5 (nI v), ?_, ?_, ⟨fun k k1 k2 => js_ne k1, js_mj (by omega)⟩⟩
    · simp only [eX3_dueBehindNumber_32, eX3_dueBehindNumber_33, eX3_dueBehindNumber_34, eX3_dueBehindNumber_37, eX3_dueBehindNumber_38, eX3_dueBehindNumber_39]
      by_cases hv : v ≤ 48
      · rw [if_pos hv, eX3_dueBehindNumber_41 (jm_win (Nat.zero_le _) hv (by omega))]
        simp only [eX3_dueBehindNumber_44, eX3_dueBehindNumber_47, eX3_dueBehindNumber_48, eX3_dueBehindNumber_51, eX3_dueBehindNumber_53, je1, if_false]
      · rw [if_neg hv, eX3_dueBehindNumber_41 (jm_winn (Or.inr (nI_lt (by omega) (by omega))))]
        simp only [eX3_dueBehindNumber_44, eX3_dueBehindNumber_47, eX3_dueBehindNumber_48, eX3_dueBehindNumber_51, eX3_dueBehindNumber_53, je0, if_true]
        rfl
    · intro hne
      by_cases hv : v ≤ 48
      · rw [if_pos hv]
        refine ⟨?_, ?_, fun i hi => ?_, ?_, ?_, fun _ => ?_, fun e => absurd e (by simp)⟩
        · rw [js_mk (by omega)]; exact c1
        · rw [js_mk (by omega)]; exact c2
        · rw [js_mk (by omega), js_mk (by omega), js_mk (by omega)]; exact c3 i hi
        · rw [js_mj (by omega)]; exact c4
        · rw [js_mj (by omega)]; exact c5
        · rw [js_hit]
      · rw [if_neg hv] at hne
        exact absurd rfl hne
  · rw [if_neg h1, if_neg h1]
    by_cases h2 : q.1 = 2
    · rw [if_pos h2, if_pos h2]
      refine ⟨jl_s mem 1 6 (nI v), ?_, ?_, ⟨fun k k1 k2 => js_ne k1, js_mj (by omega)⟩⟩
      · simp only [eX3_dueBehindNumber_54, eX3_dueBehindNumber_55, eX3_dueBehindNumber_56, eX3_dueBehindNumber_59, eX3_dueBehindNumber_60, eX3_dueBehindNumber_61]
        by_cases hv : 1 ≤ v ∧ v ≤ 9
        · rw [if_pos hv, eX3_dueBehindNumber_63 (jm_win hv.1 hv.2 (by omega))]
          simp only [eX3_dueBehindNumber_66, eX3_dueBehindNumber_69, eX3_dueBehindNumber_70, eX3_dueBehindNumber_73, eX3_dueBehindNumber_75, je1, if_false]
        · have hx : nI v < nI 1 ∨ nI 9 < nI v := by
            rcases Nat.lt_or_ge v 1 with h | h
            · exact Or.inl (nI_lt h (by omega))
            · exact Or.inr (nI_lt (by omega) (by omega))
          rw [if_neg hv, eX3_dueBehindNumber_63 (jm_winn hx)]
          simp only [eX3_dueBehindNumber_66, eX3_dueBehindNumber_69, eX3_dueBehindNumber_70, eX3_dueBehindNumber_73, eX3_dueBehindNumber_75, je0, if_true]
          rfl
      · intro hne
        by_cases hv : 1 ≤ v ∧ v ≤ 9
        · rw [if_pos hv]
          refine ⟨?_, ?_, fun i hi => ?_, ?_, ?_, fun _ => ?_, fun _ => ?_⟩
          · rw [js_mk (by omega)]; exact c1
          · rw [js_mk (by omega)]; exact c2
          · rw [js_mk (by omega), js_mk (by omega), js_mk (by omega)]; exact c3 i hi
          · rw [js_mj (by omega)]; exact c4
          · rw [js_mj (by omega)]; exact c5
          · rw [js_mj (by omega)]; exact c6 (Or.inl h2)
          · rw [js_hit]
        · rw [if_neg hv] at hne
          exact absurd rfl hne
    · rw [if_neg h2, if_neg h2]
      by_cases h3 : q.1 = 3
      · rw [if_pos h3, if_pos h3]
        have h8 : q.2.1.1 < 8 := hW.2.2.2.2.2.2.2 (by omega) (by omega)
        by_cases hv : 1 ≤ v ∧ v ≤ 9
        · obtain ⟨m1, e1, r1, f1⟩ := X_dadd (lm := lm) (t := q.2.2.2.2.1) (g := q.2.2.2.2.2) (r := v) hQ h8
          refine ⟨m1, ?_, ?_, f1⟩
          · simp only [eX3_dueBehindNumber_76, eX3_dueBehindNumber_77, eX3_dueBehindNumber_78]
            rw [if_pos ⟨hv, h8⟩, eX3_dueBehindNumber_80 (jm_win hv.1 hv.2 (by omega))]
            simp only [eX3_dueBehindNumber_83, eX3_dueBehindNumber_86, eX3_dueBehindNumber_87, eX3_dueBehindNumber_90, eX3_dueBehindNumber_91, eX3_dueBehindNumber_94, eX3_dueBehindNumber_95, eX3_dueBehindNumber_98, je1, if_false, c6 (Or.inr h3), c7 h3]
            rw [eX3_dueBehindNumber_99 e1]
            simp only [eX3_dueBehindNumber_102, eX3_dueBehindNumber_105, eX3_dueBehindNumber_106, eX3_dueBehindNumber_109, eX3_dueBehindNumber_111, je1, if_false]
          · rw [if_pos ⟨hv, h8⟩]
            exact fun _ => r1
        · have hx : nI v < nI 1 ∨ nI 9 < nI v := by
            rcases Nat.lt_or_ge v 1 with h | h
            · exact Or.inl (nI_lt h (by omega))
            · exact Or.inr (nI_lt (by omega) (by omega))
          refine ⟨mem, ?_, ?_, ⟨fun k k1 k2 => rfl, rfl⟩⟩
          · simp only [eX3_dueBehindNumber_76, eX3_dueBehindNumber_77, eX3_dueBehindNumber_78]
            rw [if_neg (fun q => hv q.1), eX3_dueBehindNumber_80 (jm_winn hx)]
            simp only [eX3_dueBehindNumber_83, eX3_dueBehindNumber_109, eX3_dueBehindNumber_111, je0, if_true]
            rfl
          · rw [if_neg (fun q => hv q.1)]
            exact fun hne => absurd rfl hne
      · rw [if_neg h3, if_neg h3]
        by_cases h4 : q.1 = 4
        · rw [if_pos h4, if_pos h4]
          refine ⟨jl_s mem 3 1 (nI v), ?_, ?_, ⟨fun k k1 k2 => js_ne (by omega), js_mk (by omega)⟩⟩
          · simp only [eX3_dueBehindNumber_112, eX3_dueBehindNumber_113, eX3_dueBehindNumber_116, eX3_dueBehindNumber_117, eX3_dueBehindNumber_120, eX3_dueBehindNumber_121, eX3_dueBehindNumber_122]
            by_cases hv : 1 ≤ v ∧ v ≤ 3
            · rw [if_pos hv, eX3_dueBehindNumber_123 (jm_win hv.1 hv.2 (by omega))]
              simp only [eX3_dueBehindNumber_126, eX3_dueBehindNumber_129, eX3_dueBehindNumber_130, eX3_dueBehindNumber_133, eX3_dueBehindNumber_135, je1, if_false]
            · have hx : nI v < nI 1 ∨ nI 3 < nI v := by
                rcases Nat.lt_or_ge v 1 with h | h
                · exact Or.inl (nI_lt h (by omega))
                · exact Or.inr (nI_lt (by omega) (by omega))
              rw [if_neg hv, eX3_dueBehindNumber_123 (jm_winn hx)]
              simp only [eX3_dueBehindNumber_126, eX3_dueBehindNumber_129, eX3_dueBehindNumber_130, eX3_dueBehindNumber_133, eX3_dueBehindNumber_135, je0, if_true]
              rfl
          · intro hne
            by_cases hv : 1 ≤ v ∧ v ≤ 3
            · rw [if_pos hv]
              refine ⟨?_, ?_, fun i hi => ?_, ?_, ?_, fun e => absurd e (by simp), fun e => absurd e (by simp)⟩
              · rw [js_mj (by omega)]; exact c1
              · rw [js_hit]
              · rw [js_mk (by omega), js_mk (by omega), js_mk (by omega)]; exact c3 i hi
              · rw [js_mk (by omega)]; exact c4
              · rw [js_mk (by omega)]; exact c5
            · rw [if_neg hv] at hne
              exact absurd rfl hne
        · rw [if_neg h4, if_neg h4]
          refine ⟨mem, ?_, fun hne => absurd rfl hne, ⟨fun k k1 k2 => rfl, rfl⟩⟩
          simp only [eX3_dueBehindNumber_136, eX3_dueBehindNumber_138]
          rfl
theorem jp_n_lt {i v : Nat} (hd : jp_d tx i = true) (hv : jp_n tx i = some v) : v < 1000 := by
  obtain ⟨d1, d2, d3⟩ := jp_d_iff.mp hd
  unfold jp_n at hv
  split at hv
  · cases hv; omega
  · rename_i h1
    split at hv
    · cases hv
    · cases hv
      have := jp_d_iff.mp (by simpa using h1 : jp_d tx (i + 1) = true)
      omega
theorem X_due {q : jp_Q} {i : Nat} (hT : jX_T mem tx) (hL : tx.1 ≤ 120 ∧ ∀ i, i < tx.1 → tx.2 i ≤ 255) (hi : i < tx.1) (hQ : jX_Q mem q) (hW : jp_W q) (hu : q.1 < 6) : ∃ mem', xX3_dueBehind [.ref 1, .int (nI q.1), .int (nI i)] (jl_w mem lm) = some (some (.int (nI (jp_tok tx q i).1)), jl_w mem' lm) ∧ ((jp_tok tx q i).1 ≠ 6 → jX_Q mem' (jp_tok tx q i)) ∧ jl_rd mem mem' := by
  obtain ⟨c1, c2, c3, c4, c5, c6, c7⟩ := id hQ
  have hl := hT.2 i hi
  have hc := hL.2 i hi
  have hisd := X_isd (lm := lm) (i := i) hT hL (by omega)
  have h8 := hW.2.1
  have h5 : jl_K 3 = 5 := rfl
  unfold jp_tok
  by_cases hd : jp_d tx i = true
  · rw [if_pos hd] at hisd ⊢
    have hnum := X_numAt (lm := lm) hT hL hd
    cases hn : jp_n tx i with
    | none =>
      rw [hn] at hnum
      obtain ⟨m1, e1, f1⟩ := X_dbn_n (mem := mem) (lm := lm) hu
      refine ⟨m1, ?_, fun hne => absurd rfl hne, f1⟩
      simp only [eX3_dueBehind, eX3_dueBehind_0, eX3_dueBehind_1]
      rw [eX3_dueBehind_2 hisd]
      simp only [eX3_dueBehind_5, eX3_dueBehind_8, eX3_dueBehind_9, eX3_dueBehind_10, eX3_dueBehind_11, je1, if_false]
      rw [eX3_dueBehind_12 hnum, eX3_dueBehind_15 e1]
      simp only [eX3_dueBehind_18]
      rfl
    | some v =>
      rw [hn] at hnum
      obtain ⟨m1, e1, r1, f1⟩ := X_dbn (lm := lm) (v := v) hQ hW hu (jp_n_lt hd hn)
      refine ⟨m1, ?_, r1, f1⟩
      simp only [eX3_dueBehind, eX3_dueBehind_0, eX3_dueBehind_1]
      rw [eX3_dueBehind_2 hisd]
      simp only [eX3_dueBehind_5, eX3_dueBehind_8, eX3_dueBehind_9, eX3_dueBehind_10, eX3_dueBehind_11, je1, if_false]
      rw [eX3_dueBehind_12 hnum, eX3_dueBehind_15 e1]
      simp only [eX3_dueBehind_18]
  · rw [if_neg hd] at hisd ⊢
    unfold jp_let
    have start : ∀ w', jr_ev pX3_dueBehind 19 [.ref 1, .int (nI q.1), .int (nI i)] [] (jl_w mem lm) = w' → xX3_dueBehind [.ref 1, .int (nI q.1), .int (nI i)] (jl_w mem lm) = w' := by
      intro w' hw'
      simp only [eX3_dueBehind, eX3_dueBehind_0, eX3_dueBehind_1]
      rw [eX3_dueBehind_2 hisd]
      simp only [eX3_dueBehind_5, je0, if_true]
      exact hw'
    by_cases a1 : tx.2 i = 59 ∧ q.1 = 5
    · rw [if_pos a1]
      refine ⟨jl_s mem 1 3 (nI (q.2.2.1 + 1)), start _ ?_, fun _ => ⟨?_, ?_, fun r hr => ?_, ?_, ?_, fun e => absurd e (by simp), fun e => absurd e (by simp)⟩, ⟨fun k k1 k2 => js_ne k1, js_mj (by omega)⟩⟩
      · simp (disch := first | assumption | omega) only [eX3_dueBehind_19, eX3_dueBehind_20, eX3_dueBehind_23, eX3_dueBehind_24, eX3_dueBehind_25, eX3_dueBehind_27, eX3_dueBehind_30, eX3_dueBehind_31, eX3_dueBehind_32, eX3_dueBehind_35, eX3_dueBehind_36, eX3_dueBehind_37, eX3_dueBehind_40, eX3_dueBehind_41, eX3_dueBehind_42, eX3_dueBehind_45, eX3_dueBehind_46, hl, nI_eq, a1.1, a1.2, if_true, c4, nI_add]
      · rw [js_mk (by omega)]; exact c1
      · rw [js_mk (by omega)]; exact c2
      · rw [js_mk (by omega), js_mk (by omega), js_mk (by omega)]; exact c3 r hr
      · rw [js_hit]
      · rw [js_mj (by omega)]; exact c5
    · rw [if_neg a1]
      have s47 : jr_ev pX3_dueBehind 19 [.ref 1, .int (nI q.1), .int (nI i)] [] (jl_w mem lm) = jr_ev pX3_dueBehind 47 [.ref 1, .int (nI q.1), .int (nI i)] [] (jl_w mem lm) := by
        by_cases b1 : tx.2 i = 59
        · have b2 : ¬ q.1 = 5 := fun h => a1 ⟨b1, h⟩
          simp (disch := first | assumption | omega) only [eX3_dueBehind_19, eX3_dueBehind_20, eX3_dueBehind_23, eX3_dueBehind_24, eX3_dueBehind_25, eX3_dueBehind_27, eX3_dueBehind_30, eX3_dueBehind_31, eX3_dueBehind_32, hl, nI_eq, b1, b2, if_true, if_false]
        · simp (disch := first | assumption | omega) only [eX3_dueBehind_19, eX3_dueBehind_20, eX3_dueBehind_23, eX3_dueBehind_24, eX3_dueBehind_25, eX3_dueBehind_27, hl, nI_eq, b1, if_false]
      by_cases a2 : tx.2 i = 114 ∧ q.1 = 0 ∧ q.2.1.1 < 8
      · rw [if_pos a2]
        refine ⟨mem, start _ ?_, fun _ => ⟨c1, c2, c3, c4, c5, fun e => absurd e (by simp), fun e => absurd e (by simp)⟩, ⟨fun k k1 k2 => rfl, rfl⟩⟩
        rw [s47]
        have b3 : ¬ 8 ≤ q.2.1.1 := by omega
        simp (disch := first | assumption | omega) only [eX3_dueBehind_47, eX3_dueBehind_48, eX3_dueBehind_51, eX3_dueBehind_52, eX3_dueBehind_53, eX3_dueBehind_55, eX3_dueBehind_58, eX3_dueBehind_59, eX3_dueBehind_62, eX3_dueBehind_63, eX3_dueBehind_66, eX3_dueBehind_69, eX3_dueBehind_71, eX3_dueBehind_74, eX3_dueBehind_75, hl, nI_eq, jz_eq, a2.1, a2.2.1, c1, nI_leI, b3, if_true, if_false]
      · rw [if_neg a2]
        have s76 : jr_ev pX3_dueBehind 47 [.ref 1, .int (nI q.1), .int (nI i)] [] (jl_w mem lm) = jr_ev pX3_dueBehind 76 [.ref 1, .int (nI q.1), .int (nI i)] [] (jl_w mem lm) := by
          by_cases b1 : tx.2 i = 114
          · by_cases b2 : q.1 = 0
            · have b3 : 8 ≤ q.2.1.1 := by
                rcases Nat.lt_or_ge q.2.1.1 8 with h | h
                · exact absurd ⟨b1, b2, h⟩ a2
                · exact h
              simp (disch := first | assumption | omega) only [eX3_dueBehind_47, eX3_dueBehind_48, eX3_dueBehind_51, eX3_dueBehind_52, eX3_dueBehind_53, eX3_dueBehind_55, eX3_dueBehind_58, eX3_dueBehind_59, eX3_dueBehind_62, eX3_dueBehind_63, eX3_dueBehind_66, eX3_dueBehind_69, eX3_dueBehind_71, hl, nI_eq, jz_eq, b1, b2, c1, nI_leI, b3, if_true]
            · simp (disch := first | assumption | omega) only [eX3_dueBehind_47, eX3_dueBehind_48, eX3_dueBehind_51, eX3_dueBehind_52, eX3_dueBehind_53, eX3_dueBehind_55, eX3_dueBehind_58, eX3_dueBehind_59, hl, nI_eq, jz_eq, b1, b2, if_true, if_false]
          · simp (disch := first | assumption | omega) only [eX3_dueBehind_47, eX3_dueBehind_48, eX3_dueBehind_51, eX3_dueBehind_52, eX3_dueBehind_53, eX3_dueBehind_55, hl, nI_eq, b1, if_false]
        have ht := hW.2.2.2.2.1
        by_cases a3 : tx.2 i = 100 ∧ q.1 = 0 ∧ q.2.2.2.1 = 0
        · rw [if_pos a3]
          refine ⟨jl_s mem 1 4 (nI 1), start _ ?_, fun _ => ⟨?_, ?_, fun r hr => ?_, ?_, ?_, fun e => absurd e (by simp), fun e => absurd e (by simp)⟩, ⟨fun k k1 k2 => js_ne k1, js_mj (by omega)⟩⟩
          · rw [s47, s76]
            simp (disch := first | assumption | omega) only [eX3_dueBehind_76, eX3_dueBehind_77, eX3_dueBehind_80, eX3_dueBehind_81, eX3_dueBehind_82, eX3_dueBehind_84, eX3_dueBehind_87, eX3_dueBehind_88, eX3_dueBehind_91, eX3_dueBehind_92, eX3_dueBehind_95, eX3_dueBehind_98, eX3_dueBehind_99, eX3_dueBehind_100_0, eX3_dueBehind_100_1, eX3_dueBehind_103, eX3_dueBehind_104, hl, nI_eq, jz_eq, a3.1, a3.2.1, a3.2.2, c5, if_true]
          · rw [js_mk (by omega)]; exact c1
          · rw [js_mk (by omega)]; exact c2
          · rw [js_mk (by omega), js_mk (by omega), js_mk (by omega)]; exact c3 r hr
          · rw [js_mj (by omega)]; exact c4
          · rw [js_hit]
        · rw [if_neg a3]
          refine ⟨mem, start _ ?_, fun hne => absurd rfl hne, ⟨fun k k1 k2 => rfl, rfl⟩⟩
          rw [s47, s76]
          by_cases b1 : tx.2 i = 100
          · by_cases b2 : q.1 = 0
            · have b3 : ¬ q.2.2.2.1 = 0 := fun h => a3 ⟨b1, b2, h⟩
              simp (disch := first | assumption | omega) only [eX3_dueBehind_76, eX3_dueBehind_77, eX3_dueBehind_80, eX3_dueBehind_81, eX3_dueBehind_82, eX3_dueBehind_84, eX3_dueBehind_87, eX3_dueBehind_88, eX3_dueBehind_91, eX3_dueBehind_92, eX3_dueBehind_95, eX3_dueBehind_105, eX3_dueBehind_107, hl, nI_eq, jz_eq, b1, b2, c5, b3, if_true, if_false]
              rfl
            · simp (disch := first | assumption | omega) only [eX3_dueBehind_76, eX3_dueBehind_77, eX3_dueBehind_80, eX3_dueBehind_81, eX3_dueBehind_82, eX3_dueBehind_84, eX3_dueBehind_87, eX3_dueBehind_88, eX3_dueBehind_105, eX3_dueBehind_107, hl, nI_eq, jz_eq, b1, b2, if_true, if_false]
              rfl
          · simp (disch := first | assumption | omega) only [eX3_dueBehind_76, eX3_dueBehind_77, eX3_dueBehind_80, eX3_dueBehind_81, eX3_dueBehind_82, eX3_dueBehind_84, eX3_dueBehind_105, eX3_dueBehind_107, hl, nI_eq, b1, if_false]
            rfl
theorem X_read (hT : jX_T mem tx) (hL : tx.1 ≤ 120 ∧ ∀ i, i < tx.1 → tx.2 i ≤ 255) : ∃ mem', xX3_read [.ref 1] (jl_w mem lm) = some (some (.int (match jp_R tx tx.1 0 jp_z with | .inl f => nI f | .inr _ => -1)), jl_w mem' lm) ∧ (∀ q, jp_R tx tx.1 0 jp_z = .inr q → jX_Q mem' q ∧ jp_W q) ∧ jl_rd mem mem' := by
  have h5 : jl_K 3 = 5 := rfl
  have key : ∀ k i q (m : jl_M), i + k = tx.1 → jX_Q m q → jp_W q → q.1 < 6 → jl_rd mem m → ∃ mem', jr_ev pX3_read 21 [.ref 1, .int (nI q.1), .int (nI i)] [] (jl_w m lm) = some (some (.int (match jp_R tx k i q with | .inl f => nI f | .inr _ => -1)), jl_w mem' lm) ∧ (∀ q', jp_R tx k i q = .inr q' → jX_Q mem' q' ∧ jp_W q') ∧ jl_rd mem mem' := by
    intro k
    induction k with
    | zero =>
      intro i q m hi hQ hW hu hr
      have hT' := hT.rd hr
      have e : i = tx.1 := by omega
      subst e
      have h8 := hW.2.1
      unfold jp_R jp_end
      by_cases h0 : q.1 = 0
      · by_cases h3 : q.2.1.1 < 3
        · rw [if_neg (by omega)]
          refine ⟨m, ?_, fun q' h => (by cases h), hr⟩
          simp (disch := first | assumption | omega) only [eX3_read_21, eX3_read_22, eX3_read_23, eX3_read_26, eX3_read_58, eX3_read_59, eX3_read_62, eX3_read_63, eX3_read_66, eX3_read_69, eX3_read_70, eX3_read_77, eX3_read_78, eX3_read_81, hT'.1, nI_leI, Nat.le_refl, if_true, jz_eq, h0, hQ.1, nI_ltI, h3]
        · rw [if_pos ⟨h0, by omega⟩]
          refine ⟨m, ?_, fun q' h => (by cases h; exact ⟨hQ, hW⟩), hr⟩
          simp (disch := first | assumption | omega) only [eX3_read_21, eX3_read_22, eX3_read_23, eX3_read_26, eX3_read_58, eX3_read_59, eX3_read_62, eX3_read_63, eX3_read_66, eX3_read_69, eX3_read_70, eX3_read_73, eX3_read_74, eX3_read_77, eX3_read_78, eX3_read_81, hT'.1, nI_leI, Nat.le_refl, if_true, jz_eq, h0, hQ.1, nI_ltI, h3, if_false]
      · rw [if_neg (fun z => h0 z.1)]
        refine ⟨m, ?_, fun q' h => (by cases h), hr⟩
        simp (disch := first | assumption | omega) only [eX3_read_21, eX3_read_22, eX3_read_23, eX3_read_26, eX3_read_58, eX3_read_59, eX3_read_77, eX3_read_78, eX3_read_81, hT'.1, nI_leI, Nat.le_refl, if_true, jz_eq, h0, if_false]
    | succ k ih =>
      intro i q m hi hQ hW hu hr
      have hT' := hT.rd hr
      have hlt : i < tx.1 := by omega
      have e3 : ¬ tx.1 ≤ i := by omega
      have hst := X_starts (lm := lm) hT' hL hlt
      have e6 : ¬ q.1 = 6 := by omega
      have hR : jp_R tx (k + 1) i q = if jp_st tx i = true then (if (jp_tok tx q i).1 = 6 then .inl i else jp_R tx k (i + 1) (jp_tok tx q i)) else jp_R tx k (i + 1) q := rfl
      simp (disch := first | assumption | omega) only [eX3_read_21, eX3_read_22, eX3_read_23, eX3_read_26, eX3_read_29, eX3_read_30, hT'.1, nI_leI, e3, if_false]
      rw [eX3_read_31 hst]
      by_cases hs : jp_st tx i = true
      · obtain ⟨m1, e1, r1, f1⟩ := X_due (lm := lm) hT' hL hlt hQ hW hu
        have hW1 := jp_W_tok (tx := tx) (i := i) hW
        have h61 := hW1.1
        rw [if_pos hs] at hR ⊢
        simp only [eX3_read_34, eX3_read_37, eX3_read_38, eX3_read_39, je1, if_false]
        rw [eX3_read_40 e1]
        by_cases hb : (jp_tok tx q i).1 = 6
        · rw [if_pos hb] at hR
          rw [hR]
          refine ⟨m1, ?_, fun q' h => (by cases h), hr.tr f1⟩
          simp (disch := first | assumption | omega) only [eX3_read_43, eX3_read_44, eX3_read_45, eX3_read_47, eX3_read_50, eX3_read_51, nI_eq, hb, if_true]
        · rw [if_neg hb] at hR
          rw [hR]
          obtain ⟨mem', g1, g2, g3⟩ := ih (i + 1) (jp_tok tx q i) m1 (by omega) (r1 hb) hW1 (by omega) (hr.tr f1)
          refine ⟨mem', ?_, g2, g3⟩
          simp (disch := first | assumption | omega) only [eX3_read_43, eX3_read_44, eX3_read_45, eX3_read_47, eX3_read_52, nI_eq, hb, if_false, nI_add]
          rw [eX3_read_55]
          exact g1
      · rw [if_neg hs] at hR ⊢
        rw [hR]
        obtain ⟨mem', g1, g2, g3⟩ := ih (i + 1) q m (by omega) hQ hW hu hr
        refine ⟨mem', ?_, g2, g3⟩
        simp (disch := first | assumption | omega) only [eX3_read_34, eX3_read_44, eX3_read_45, eX3_read_47, eX3_read_52, je0, if_true, nI_eq, e6, if_false, nI_add]
        rw [eX3_read_55]
        exact g1
  have hemp : xX2_empty [.ref 3] (jl_w mem lm) = some (none, jl_w (jl_s (jl_s mem 3 0 (nI 0)) 3 1 (nI 1)) lm) := by
    simp (disch := first | assumption | omega) only [eX2_empty, eX2_empty_0, eX2_empty_1, eX2_empty_2, eX2_empty_5, eX2_empty_6, eX2_empty_7, eX2_empty_10]
  have f0 : jl_rd mem (jl_s (jl_s (jl_s (jl_s mem 3 0 (nI 0)) 3 1 (nI 1)) 1 3 (nI 0)) 1 4 (nI 0)) := ⟨fun k k1 k2 => by rw [js_ne k1, js_ne k1, js_ne (by omega), js_ne (by omega)], by rw [js_mj (by omega), js_mj (by omega), js_mk (by omega), js_mk (by omega)]⟩
  obtain ⟨mem', g1, g2, g3⟩ := key tx.1 0 jp_z (jl_s (jl_s (jl_s (jl_s mem 3 0 (nI 0)) 3 1 (nI 1)) 1 3 (nI 0)) 1 4 (nI 0)) (by omega) ⟨by simp [js_at, jp_z], by simp [js_at, jp_z], fun r hr => absurd hr (Nat.not_lt_zero _), by simp [js_at, jp_z], by simp [js_at, jp_z], fun e => absurd e (by decide), fun e => absurd e (by decide)⟩ jp_W_z (by decide) f0
  refine ⟨mem', ?_, g2, g3⟩
  simp only [eX3_read, eX3_read_0, eX3_read_1]
  rw [eX3_read_4 hemp]
  simp only [eX3_read_7, eX3_read_8, eX3_read_9, eX3_read_12, eX3_read_13, eX3_read_14_0, eX3_read_14_1, eX3_read_17, eX3_read_18, eX3_read_19, eX3_read_20]
  exact g1
end XR

section YT
variable {mem : jl_M} {lm : jl_L} {tx : jq_X} {K : jq_K} {mo : jq_M} {un : List jq_M} {im : Nat → Option jq_M} {hd : jq_H} {tr : Int64} {F : Nat ⊕ jp_Q}
theorem jY.rv {mem' : jl_M} (h : jY mem lm tx K mo un im hd tr) (hk : jq_WK K) (f : jl_rv mem mem') : jY mem' lm tx K mo un im hd tr := by
  have h8 := hk.1
  refine ⟨h.1.rv f, ⟨by rw [f.2.1 9 (by omega)]; exact h.2.1.1, by rw [f.2.1 10 (by omega)]; exact h.2.1.2.1, fun r hr => ?_⟩, h.2.2.1.keep (f.1 67 (by omega) (by omega) (by omega) (by omega)), h.2.2.2.1.keep (f.2.1 22 (by omega)) (f.1 71 (by omega) (by omega) (by omega) (by omega)), h.2.2.2.2.1.keep (f.1 69 (by omega) (by omega) (by omega) (by omega)) (f.1 70 (by omega) (by omega) (by omega) (by omega)), h.2.2.2.2.2.1.keep (f.2.1 26 (by omega)) (f.1 72 (by omega) (by omega) (by omega) (by omega)) (f.1 73 (by omega) (by omega) (by omega) (by omega)) (f.1 74 (by omega) (by omega) (by omega) (by omega)), h.2.2.2.2.2.2⟩
  rw [f.2.2 64 r (by omega) (by omega), f.2.2 65 r (by omega) (by omega), f.2.2 66 r (by omega) (by omega)]
  exact h.2.1.2.2 r hr
theorem Y_settles {Q : jq_K} {a b t g : Nat} (hD : jY_D mem (0, Q, a, b, t, g)) (h8 : Q.1 ≤ 8) : ∃ mem', xX5_settles [.ref 62] (jl_w mem lm) = some (none, jl_w mem' lm) ∧ mem' 62 3 = nI 0 ∧ jy_K mem' Q ∧ jy_M mem' 67 jq_m0 ∧ mem' 62 22 = nI 0 ∧ mem' 62 26 = nI 0 ∧ mem' 70 0 = nI 0 ∧ mem' 70 1 = nI 0 ∧ jl_lo mem mem' := by
  obtain ⟨d1, d2, d3, d4⟩ := hD
  have d1 : mem 62 11 = nI Q.1 := d1
  have d2 : ∀ x, jl_s mem 62 9 x 62 12 = nI Q.2.1 := fun x => by rw [js_mj (by omega)]; exact d2
  have d4 : ∀ r, r < Q.1 → mem 64 (8 + r) = nI (Q.2.2.1 r) ∧ mem 65 (8 + r) = nI (Q.2.2.2.1 r) ∧ mem 66 (8 + r) = nI (Q.2.2.2.2 r) := d4
  generalize hm0 : jl_s (jl_s mem 62 9 (nI Q.1)) 62 10 (nI Q.2.1) = m0
  have r0 : ∀ k, k ≠ 62 → m0 k = mem k := fun k hk => by rw [← hm0, js_ne hk, js_ne hk]
  have g9 : m0 62 9 = nI Q.1 := by rw [← hm0, js_mj (by omega), js_hit]
  have g10 : m0 62 10 = nI Q.2.1 := by rw [← hm0, js_hit]
  obtain ⟨ls', m1, hI, he⟩ := jr_loop (P := pX5_settles) (pc := 18) (lm := lm) (fun i ls m => ls = [.ref 62, .int (nI i)] ∧ (∀ k, k ≠ 67 → m k = m0 k) ∧ ∀ j, j < i → m 67 j = nI 0) 19 (by
    intro i ls m hi ⟨hl, q1, q2⟩
    subst hl
    have e3 : ¬ 19 ≤ i := by omega
    refine ⟨[.ref 62, .int (nI (i + 1))], jl_s m 67 i (nI 0), ⟨rfl, fun k hk => by rw [js_ne hk, q1 k hk], fun j hj => ?_⟩, ?_⟩
    · by_cases e : j = i
      · subst e; rw [js_hit]
      · rw [js_mj e, q2 j (by omega)]
    · refine Eq.trans ?_ eX5_settles_34
      simp (disch := first | assumption | omega) only [eX5_settles_18, eX5_settles_19, eX5_settles_21, eX5_settles_24, eX5_settles_25, eX5_settles_28, eX5_settles_29, eX5_settles_30, eX5_settles_31, nI_leI, e3, if_false, nI_add]) 19 0 [.ref 62, .int (nI 0)] m0 (by omega) ⟨rfl, fun _ _ => rfl, fun j hj => absurd hj (by omega)⟩
  obtain ⟨rfl, q1, q2⟩ := hI
  obtain ⟨ls', m2, hI, he2⟩ := jr_loop (P := pX5_settles) (pc := 39) (lm := lm) (fun i ls m => ls = [.ref 62, .int (nI i)] ∧ (∀ k, k ≠ 64 → k ≠ 65 → k ≠ 66 → k ≠ 67 → m k = m1 k) ∧ (∀ k j, (k = 64 ∨ k = 65 ∨ k = 66) → j < i → m k j = m1 k (8 + j)) ∧ (∀ k j, (k = 64 ∨ k = 65 ∨ k = 66) → 8 ≤ j → m k j = m1 k j) ∧ ∀ j, j < 19 → m 67 j = nI (if 3 ≤ j ∧ j < 3 + i then j - 3 else 0)) 8 (by
    intro i ls m hi ⟨hl, p1, p2, p3, p4⟩
    subst hl
    have e3 : ¬ 8 ≤ i := by omega
    have u1 := p3 64 (8 + i) (by omega) (by omega)
    have u2 : ∀ x, jl_s m 64 i x 65 (8 + i) = m1 65 (8 + i) := fun x => by rw [js_mk (by omega), p3 65 (8 + i) (by omega) (by omega)]
    have u3 : ∀ x y, jl_s (jl_s m 64 i x) 65 i y 66 (8 + i) = m1 66 (8 + i) := fun x y => by rw [js_mk (by omega), js_mk (by omega), p3 66 (8 + i) (by omega) (by omega)]
    refine ⟨[.ref 62, .int (nI (i + 1))], jl_s (jl_s (jl_s (jl_s m 64 i (m1 64 (8 + i))) 65 i (m1 65 (8 + i))) 66 i (m1 66 (8 + i))) 67 (3 + i) (nI i), ⟨rfl, fun k k1 k2 k3 k4 => by rw [js_ne k4, js_ne k3, js_ne k2, js_ne k1, p1 k k1 k2 k3 k4], fun k j hk hj => ?_, fun k j hk hj => ?_, fun j hj => ?_⟩, ?_⟩
    · rw [js_mk (by omega)]
      simp only [js_at]
      rcases hk with rfl | rfl | rfl
      · by_cases e : j = i
        · subst e; simp
        · simp [e, p2 64 j (by omega) (by omega)]
      · by_cases e : j = i
        · subst e; simp
        · simp [e, p2 65 j (by omega) (by omega)]
      · by_cases e : j = i
        · subst e; simp
        · simp [e, p2 66 j (by omega) (by omega)]
    · rw [js_mk (by omega)]
      have e : ¬ j = i := by omega
      simp only [js_at]
      simp [e, p3 k j hk hj]
    · by_cases e : j = 3 + i
      · subst e
        rw [js_hit, if_pos (by omega)]
        congr 1
        omega
      · rw [js_mj e, js_mk (by omega), js_mk (by omega), js_mk (by omega), p4 j hj]
        by_cases e2 : 3 ≤ j ∧ j < 3 + i
        · rw [if_pos e2, if_pos (by omega)]
        · rw [if_neg e2, if_neg (by omega)]
    · refine Eq.trans ?_ eX5_settles_102
      simp (disch := first | assumption | omega) only [eX5_settles_39, eX5_settles_40, eX5_settles_42, eX5_settles_45, eX5_settles_46, eX5_settles_49, eX5_settles_50, eX5_settles_51, eX5_settles_54, eX5_settles_56, eX5_settles_57, eX5_settles_58, eX5_settles_59, eX5_settles_60, eX5_settles_61, eX5_settles_64, eX5_settles_65, eX5_settles_66, eX5_settles_69, eX5_settles_71, eX5_settles_72, eX5_settles_73, eX5_settles_74, eX5_settles_75, eX5_settles_76, eX5_settles_79, eX5_settles_80, eX5_settles_81, eX5_settles_84, eX5_settles_86, eX5_settles_87, eX5_settles_88, eX5_settles_89, eX5_settles_90, eX5_settles_91, eX5_settles_94, eX5_settles_95, eX5_settles_96, eX5_settles_97, eX5_settles_98, eX5_settles_99, nI_leI, e3, if_false, nI_add, u1, u2, u3]) 8 0 [.ref 62, .int (nI 0)] m1 (by omega) ⟨rfl, fun _ _ _ _ _ => rfl, fun k j _ hj => absurd hj (by omega), fun _ _ _ _ => rfl, fun j hj => by rw [if_neg (by omega)]; exact q2 j hj⟩
  obtain ⟨rfl, p1, p2, p3, p4⟩ := hI
  have r62 : ∀ j, m2 62 j = m0 62 j := fun j => by rw [p1 62 (by omega) (by omega) (by omega) (by omega), q1 62 (by omega)]
  have rr : ∀ k j, (k = 64 ∨ k = 65 ∨ k = 66) → j < 8 → m2 k j = mem k (8 + j) := fun k j hk hj => by rw [p2 k j hk hj, q1 k (by omega), r0 k (by omega)]
  have fin : ∀ x k j, k ≠ 62 → k ≠ 70 → jl_s (jl_s (jl_s (jl_s (jl_s m2 62 3 x) 62 26 x) 62 22 x) 70 0 x) 70 1 x k j = m2 k j := fun x k j h1 h2 => by rw [js_mk h2, js_mk h2, js_mk h1, js_mk h1, js_mk h1]
  refine ⟨jl_s (jl_s (jl_s (jl_s (jl_s m2 62 3 (nI 0)) 62 26 (nI 0)) 62 22 (nI 0)) 70 0 (nI 0)) 70 1 (nI 0), ?_, ?_, ⟨?_, ?_, fun r hr => ?_⟩, fun j hj => ?_, ?_, ?_, ?_, ?_, fun k hk => ?_⟩
  · have i0 : (0 : Nat) < 2 := by omega
    have i1 : (1 : Nat) < 2 := by omega
    simp only [eX5_settles, eX5_settles_0, eX5_settles_1, eX5_settles_2, eX5_settles_5, eX5_settles_8, eX5_settles_9, eX5_settles_10, eX5_settles_13, eX5_settles_16, eX5_settles_17, d1, d2]
    rw [hm0, he]
    simp (disch := first | assumption | omega) only [eX5_settles_18, eX5_settles_19, eX5_settles_21, eX5_settles_37, eX5_settles_38, nI_leI, Nat.le_refl, if_true]
    rw [he2]
    simp (disch := first | assumption | omega) only [eX5_settles_39, eX5_settles_40, eX5_settles_42, eX5_settles_105, eX5_settles_106, eX5_settles_107, eX5_settles_110, eX5_settles_111, eX5_settles_112, eX5_settles_115, eX5_settles_116, eX5_settles_117, eX5_settles_120, eX5_settles_121, eX5_settles_124, eX5_settles_125, eX5_settles_126_0, eX5_settles_126_1, eX5_settles_127, eX5_settles_128, eX5_settles_131, eX5_settles_132, eX5_settles_133_0, eX5_settles_133_1, eX5_settles_134, nI_leI, Nat.le_refl, if_true]
  · rw [js_mk (by omega), js_mk (by omega), js_mj (by omega), js_mj (by omega), js_hit]
  · rw [js_mk (by omega), js_mk (by omega), js_mj (by omega), js_mj (by omega), js_mj (by omega), r62, g9]
  · rw [js_mk (by omega), js_mk (by omega), js_mj (by omega), js_mj (by omega), js_mj (by omega), r62, g10]
  · rw [fin _ 64 r (by omega) (by omega), fin _ 65 r (by omega) (by omega), fin _ 66 r (by omega) (by omega), rr 64 r (by omega) (by omega), rr 65 r (by omega) (by omega), rr 66 r (by omega) (by omega)]
    exact d4 r hr
  · rw [fin _ 67 j (by omega) (by omega), p4 j hj]
    unfold jq_m0
    by_cases e2 : 3 ≤ j ∧ j < 3 + 8
    · rw [if_pos e2]
    · rw [if_neg e2]
  · rw [js_mk (by omega), js_mk (by omega), js_hit]
  · rw [js_mk (by omega), js_mk (by omega), js_mj (by omega), js_hit]
  · rw [js_mj (by omega), js_hit]
  · rw [js_hit]
  · rw [js_ne (by omega), js_ne (by omega), js_ne (by omega), js_ne (by omega), js_ne (by omega), p1 k (by omega) (by omega) (by omega) (by omega), q1 k (by omega), r0 k (by omega)]
theorem Y_chime0 (h : jY mem lm tx K mo un im hd tr) (hk : jq_WK K) (hL : tx.1 ≤ 120 ∧ ∀ i, i < tx.1 → tx.2 i ≤ 255) (hF : F = jp_R tx tx.1 0 jp_z) : ∃ m' it w', xX5_chime [.ref 62] (jl_w mem lm) = jr_ev pX5_chime 132 [.ref 62, .int (nI it), w'] [] (jl_w m' lm) ∧ jl_rv mem m' ∧ jY_E m' tx F it := by
  simp only [eX5_chime, eX5_chime_0, eX5_chime_1, eX5_chime_2, eX5_chime_5, eX5_chime_6, eX5_chime_7, eX5_chime_10, eX5_chime_11, eX5_chime_12, eX5_chime_15, eX5_chime_16, eX5_chime_17, eX5_chime_20, eX5_chime_21, eX5_chime_22, eX5_chime_25, eX5_chime_26, eX5_chime_27_0, eX5_chime_27_1, eX5_chime_30, eX5_chime_31, eX5_chime_32]
  generalize hm0 : jl_s (jl_s (jl_s (jl_s (jl_s (jl_s mem 62 0 (nI 0)) 62 8 (-1)) 62 4 (nI 0)) 62 11 (nI 0)) 62 12 (nI 1)) 62 13 (nI 0) = m0
  have fr : jl_rv mem m0 := by
    rw [← hm0]
    exact ((((((jl_rv.f (Or.inl rfl)).tr (jl_rv.f (Or.inr (Or.inl (by omega))))).tr (jl_rv.f (Or.inr (Or.inl (by omega))))).tr (jl_rv.f (Or.inr (Or.inr (by omega))))).tr (jl_rv.f (Or.inr (Or.inr (by omega))))).tr (jl_rv.f (Or.inr (Or.inr (by omega)))))
  have g8 : m0 62 8 = -1 := by rw [← hm0, js_mj (by omega), js_mj (by omega), js_mj (by omega), js_mj (by omega), js_hit]
  have g4 : m0 62 4 = nI 0 := by rw [← hm0, js_mj (by omega), js_mj (by omega), js_mj (by omega), js_hit]
  have g11 : m0 62 11 = nI 0 := by rw [← hm0, js_mj (by omega), js_mj (by omega), js_hit]
  have g12 : m0 62 12 = nI 1 := by rw [← hm0, js_mj (by omega), js_hit]
  have g13 : m0 62 13 = nI 0 := by rw [← hm0, js_hit]
  have hT := h.1.rv fr
  obtain ⟨m1, e1, A1, f1⟩ := Y_advances (lm := lm) (i := 0) hL hT (Nat.zero_le _) g4 (fun _ x => absurd x (by omega))
  have hD : jY_D m0 jp_z := ⟨g11, g12, g13, fun r hr => absurd hr (Nat.not_lt_zero _)⟩
  have hP : jY_P m1 tx F 0 jp_z := ⟨by rw [f1.2 8 (by omega) (by omega) (by omega) (by omega)]; exact g8, hF, A1⟩
  obtain ⟨m', it, w', q1, q2, q3⟩ := Y_loop (lm := lm) (F := F) hL (tx.1 + 1) 0 (0, 1, fun _ => 0, fun _ => 0, fun _ => 0) 0 0 0 0 m1 .null (by omega) (hT.a f1) hP jp_W_z (hD.av f1)
  refine ⟨m', it, w', ?_, fr.tr ((jl_rv.av f1).tr q2), q3⟩
  rw [eX5_chime_33 e1, q1]
theorem Y_chime_f {f : Nat} (h : jY mem lm tx K mo un im hd tr) (hk : jq_WK K) (hL : tx.1 ≤ 120 ∧ ∀ i, i < tx.1 → tx.2 i ≤ 255) (hf : jp_R tx tx.1 0 jp_z = .inl f) : ∃ mem', xX5_chime [.ref 62] (jl_w mem lm) = some (some (.int (-10 - nI f)), jl_w mem' lm) ∧ jY mem' lm tx K mo un im hd tr ∧ jl_lo mem mem' := by
  obtain ⟨m', it, w', q1, q2, q3⟩ := Y_chime0 h hk hL rfl
  rw [hf] at q3
  rw [q1]
  rcases q3 with ⟨f', f1, f2, f3⟩ | ⟨g8, Q, b, t, g, h1, h2, h3⟩
  · cases f3
    refine ⟨m', ?_, h.rv hk q2, fun k hk => q2.1 k (by omega) (by omega) (by omega) (by omega)⟩
    simp only [eX5_chime_132]
    rw [eX5_chime_133 (Y_ill f2 (by omega))]
    simp only [eX5_chime_136, eX5_chime_155, je0, if_true]
    rw [eX5_chime_156 (Y_ill f2 (by omega))]
    simp only [eX5_chime_159, eX5_chime_162, eX5_chime_164, eX5_chime_165, eX5_chime_168, eX5_chime_169, je0, if_true, f2]
  · have h3' : ¬ 3 ≤ Q.1 ∧ f = tx.1 := by
      unfold jp_end at h1
      split at h1
      · cases h1
      · next hne =>
        cases h1
        exact ⟨fun x => hne ⟨rfl, x⟩, rfl⟩
    obtain ⟨h3', rfl⟩ := h3'
    have T' := h.1.rv q2
    have g11 : m' 62 11 = nI Q.1 := h3.1
    have hQ8 : Q.1 ≤ 8 := h2.2.1
    have f2 : jl_s m' 62 8 (nI tx.1) 62 8 = nI tx.1 := js_hit
    have fr : jl_rv mem (jl_s m' 62 8 (nI tx.1)) := q2.tr (jl_rv.n jl_an.f)
    refine ⟨jl_s m' 62 8 (nI tx.1), ?_, h.rv hk fr, fun k hk => fr.1 k (by omega) (by omega) (by omega) (by omega)⟩
    simp only [eX5_chime_132]
    rw [eX5_chime_133 (Y_well g8)]
    simp (disch := first | assumption | omega) only [eX5_chime_136, eX5_chime_139, eX5_chime_140, eX5_chime_143, eX5_chime_144, eX5_chime_147, eX5_chime_148, eX5_chime_149, eX5_chime_152, eX5_chime_155, je1, if_false, g11, nI_leI, h3', T'.1]
    rw [eX5_chime_156 (Y_ill f2 (by omega))]
    simp only [eX5_chime_159, eX5_chime_162, eX5_chime_164, eX5_chime_165, eX5_chime_168, eX5_chime_169, je0, if_true, f2]
theorem Y_chime_o {q : jp_Q} (h : jY mem lm tx K mo un im hd tr) (hk : jq_WK K) (hL : tx.1 ≤ 120 ∧ ∀ i, i < tx.1 → tx.2 i ≤ 255) (hq : jp_R tx tx.1 0 jp_z = .inr q) : ∃ mem', xX5_chime [.ref 62] (jl_w mem lm) = some (some (.int (nI q.2.2.1)), jl_w mem' lm) ∧ jY mem' lm (0, tx.2) q.2.1 jq_m0 [] (fun _ => none) (0, hd.2) tr ∧ jl_lo mem mem' ∧ jp_W q ∧ 3 ≤ q.2.1.1 := by
  obtain ⟨m', it, w', q1, q2, q3⟩ := Y_chime0 h hk hL rfl
  rw [hq] at q3
  rw [q1]
  rcases q3 with ⟨f', f1, f2, f3⟩ | ⟨g8, Q, b, t, g, h1, h2, h3⟩
  · cases f3
  · have h3' : 3 ≤ Q.1 ∧ q = (0, Q, it, b, t, g) := by
      unfold jp_end at h1
      split at h1
      · next hne =>
        cases h1
        exact ⟨hne.2, rfl⟩
      · cases h1
    obtain ⟨h3', rfl⟩ := h3'
    have g11 : m' 62 11 = nI Q.1 := h3.1
    have hQ8 : Q.1 ≤ 8 := h2.2.1
    obtain ⟨m2, e2, s1, s2, s3, s4, s5, s6, s7, s8⟩ := Y_settles (lm := lm) h3 hQ8
    refine ⟨m2, ?_, ⟨⟨s1, fun i hi => absurd hi (Nat.not_lt_zero _)⟩, s2, s3, ⟨s4, fun i m hm => by simp at hm⟩, fun i hi => ⟨fun _ => ?_, fun m hm => by cases hm⟩, ⟨s5, fun i hi => absurd hi (Nat.not_lt_zero _)⟩, h.2.2.2.2.2.2⟩, fun k hk => by rw [s8 k hk, q2.1 k (by omega) (by omega) (by omega) (by omega)], h2, h3'⟩
    · simp only [eX5_chime_132]
      rw [eX5_chime_133 (Y_well g8)]
      simp (disch := first | assumption | omega) only [eX5_chime_136, eX5_chime_139, eX5_chime_140, eX5_chime_143, eX5_chime_144, eX5_chime_155, je1, if_false, g11, nI_leI, h3', if_true]
      rw [eX5_chime_156 (Y_well g8)]
      simp only [eX5_chime_159, eX5_chime_170, je1, if_false]
      rw [eX5_chime_171 e2]
      simp only [eX5_chime_174, eX5_chime_175]
    · have : i = 0 ∨ i = 1 := by omega
      rcases this with rfl | rfl
      · exact s6
      · exact s7
end YT

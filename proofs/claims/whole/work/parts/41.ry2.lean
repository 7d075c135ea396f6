section YB
variable {mem : jl_M} {lm : jl_L} {K : jq_K} {mo : jq_M}
theorem jq_dec1 (v : Nat) (hv : v < 100) : nI v - (if v = 0 then nI 0 else nI 1) = nI (v - 1) := by
  have h : ∀ v, v < 100 → nI v - (if v = 0 then nI 0 else nI 1) = nI (v - 1) := by decide +kernel
  exact h v hv
theorem jy_M_s {k j x : Nat} (hM : jy_M mem k mo) (hj : j < 19) : jy_M (jl_s mem k j (nI x)) k (fun i => if i = j then x else mo i) := by
  intro i hi
  by_cases e : i = j
  · rw [e, js_hit]
    show _ = nI (if j = j then x else _)
    rw [if_pos rfl]
  · rw [js_mj e, hM i hi]
    show _ = nI (if i = j then x else mo i)
    rw [if_neg e]
/-- the fade of the reference's beat, but for the count -/
theorem Y_fade {k s g : Nat} (hA : jl_A k 19) (hk62 : k = 67 ∨ k = 68) (hK : jy_K mem K) (hM : jy_M mem k mo) (hk : jq_WK K) (hw : jq_WM K.1 mo) : ∃ mem' v, jr_ev pX5_beats 3 [.ref 62, .ref k, .int (nI s), .int (nI g), .int (nI 0)] [] (jl_w mem lm) = jr_ev pX5_beats 43 [.ref 62, .ref k, .int (nI s), .int (nI g), v] [] (jl_w mem' lm) ∧ jy_M mem' k (fun j => if j = 0 then mo 0 else jq_fade K.1 mo j) ∧ jl_F (fun q => q = k) mem mem' := by
  have h8 := hk.1
  obtain ⟨ls', mem', hI, he⟩ := jr_loop (P := pX5_beats) (pc := 3) (lm := lm) (fun i ls m => ls = [.ref 62, .ref k, .int (nI s), .int (nI g), .int (nI i)] ∧ jy_M m k (fun j => if 11 ≤ j ∧ j < 11 + i then mo j - 1 else mo j) ∧ jl_F (fun q => q = k) mem m) K.1 (by
    intro i ls m hi ⟨hl, hm, hF⟩
    subst hl
    have e3 : ¬ K.1 ≤ i := by omega
    have e4 : m k (11 + i) = nI (mo (11 + i)) := by
      rw [hm (11 + i) (by omega)]
      show nI (if 11 ≤ 11 + i ∧ 11 + i < 11 + i then _ else mo (11 + i)) = _
      rw [if_neg (by omega)]
    have e5 := (hw.2.2.2.2.1 i (by omega)).2
    have e6 : m 62 9 = nI K.1 := by rw [hF 62 (by omega)]; exact hK.1
    have e7 := jq_dec1 (mo (11 + i)) (by omega)
    refine ⟨[.ref 62, .ref k, .int (nI s), .int (nI g), .int (nI (i + 1))], jl_s m k (11 + i) (nI (mo (11 + i) - 1)), ⟨rfl, fun j hj => ?_, fun q hq => by rw [js_ne hq]; exact hF q hq⟩, ?_⟩
    · show _ = nI (if 11 ≤ j ∧ j < 11 + (i + 1) then mo j - 1 else mo j)
      by_cases e : j = 11 + i
      · rw [e, js_hit, if_pos (by omega)]
      · rw [js_mj e, hm j hj]
        show nI (if 11 ≤ j ∧ j < 11 + i then _ else _) = _
        by_cases e2 : 11 ≤ j ∧ j < 11 + i
        · rw [if_pos e2, if_pos (by omega)]
        · rw [if_neg e2, if_neg (by omega)]
    · refine Eq.trans ?_ eX5_beats_40
      by_cases h : mo (11 + i) = 0
      · rw [if_pos h] at e7
        rw [← e7]
        simp (disch := first | assumption | omega) only [eX5_beats_3, eX5_beats_5, eX5_beats_6, eX5_beats_9, eX5_beats_12, eX5_beats_13, eX5_beats_15, eX5_beats_17, eX5_beats_18, eX5_beats_19, eX5_beats_20, eX5_beats_21, eX5_beats_23, eX5_beats_25, eX5_beats_26, eX5_beats_27, eX5_beats_30, eX5_beats_31, eX5_beats_34, eX5_beats_35, eX5_beats_36, eX5_beats_37, e6, nI_leI, e3, if_false, nI_add, e4, jz_le, h, if_true]
      · rw [if_neg h] at e7
        rw [← e7]
        simp (disch := first | assumption | omega) only [eX5_beats_3, eX5_beats_5, eX5_beats_6, eX5_beats_9, eX5_beats_12, eX5_beats_13, eX5_beats_15, eX5_beats_17, eX5_beats_18, eX5_beats_19, eX5_beats_20, eX5_beats_21, eX5_beats_23, eX5_beats_25, eX5_beats_26, eX5_beats_27, eX5_beats_30, eX5_beats_31, eX5_beats_34, eX5_beats_35, eX5_beats_36, eX5_beats_37, e6, nI_leI, e3, if_false, nI_add, e4, jz_le, h]) K.1 0 [.ref 62, .ref k, .int (nI s), .int (nI g), .int (nI 0)] mem (by omega) ⟨rfl, fun j hj => by
      rw [hM j hj]
      show _ = nI (if 11 ≤ j ∧ j < 11 + 0 then _ else mo j)
      rw [if_neg (by omega)], fun _ _ => rfl⟩
  obtain ⟨rfl, hm, hF⟩ := hI
  have e6 : mem' 62 9 = nI K.1 := by rw [hF 62 (by omega)]; exact hK.1
  refine ⟨mem', .int (nI K.1), ?_, fun j hj => ?_, hF⟩
  · rw [he]
    simp (disch := first | assumption | omega) only [eX5_beats_3, eX5_beats_5, eX5_beats_6, eX5_beats_9, e6, nI_leI, Nat.le_refl, if_true]
  · rw [hm j hj]
    show nI (if 11 ≤ j ∧ j < 11 + K.1 then mo j - 1 else mo j) = nI (if j = 0 then mo 0 else jq_fade K.1 mo j)
    by_cases e : j = 0
    · rw [if_pos e, if_neg (by omega), e]
    · rw [if_neg e]
      unfold jq_fade
      rw [if_neg e]
/-- the clapper moves -/
theorem Y_move {k s g : Nat} {v : Value} {m0 : jq_M} (hA : jl_A k 19) (hk62 : k = 67 ∨ k = 68) (hK : jy_K mem K) (hM : jy_M mem k m0) (hk : jq_WK K) (h9 : m0 2 ≤ 9) (h1 : m0 1 < K.1) (hn : 0 < K.1) (hs : s < 8) (hg : g ≤ 9) : ∃ mem', jr_ev pX5_beats 43 [.ref 62, .ref k, .int (nI s), .int (nI g), v] [] (jl_w mem lm) = jr_ev pX5_beats 108 [.ref 62, .ref k, .int (nI s), .int (nI g), v] [] (jl_w mem' lm) ∧ jy_M mem' k (jq_move K s g m0) ∧ jl_F (fun q => q = k) mem mem' := by
  have h8 := hk.1
  have hd := hk.2.1
  have c2 := hM 2 (by omega)
  have c1 := hM 1 (by omega)
  have i1 : nI 1 = nI 1 := rfl
  unfold jq_move
  by_cases hc : 0 < g ∧ m0 2 ≤ g
  · rw [if_pos hc]
    have hg0 : ¬ g = 0 := by omega
    have hlt : ¬ g < m0 2 := by omega
    refine ⟨jl_s (jl_s mem k 1 (nI s)) k 2 (nI g), ?_, ?_, fun q hq => by rw [js_ne hq, js_ne hq]⟩
    · simp (disch := first | assumption | omega) only [eX5_beats_43, eX5_beats_44, eX5_beats_47, eX5_beats_48, eX5_beats_49, eX5_beats_50, eX5_beats_51, eX5_beats_54, eX5_beats_55, eX5_beats_56, eX5_beats_57, eX5_beats_58, eX5_beats_59, eX5_beats_60, eX5_beats_61, eX5_beats_62, jz_le, hg0, if_false, c2, nI_ltI, hlt]
    · intro j hj
      have := jy_M_s (x := g) (j := 2) (jy_M_s (x := s) (j := 1) hM (by omega)) (by omega) j hj
      rw [this]
      show nI (if j = 2 then g else if j = 1 then s else m0 j) = nI (if j = 1 then s else if j = 2 then g else m0 j)
      by_cases e1 : j = 1
      · rw [if_neg (by omega), if_pos e1, if_pos e1]
      · by_cases e2 : j = 2
        · rw [if_pos e2, if_neg e1, if_pos e2]
        · rw [if_neg e2, if_neg e1, if_neg e1, if_neg e2]
  · rw [if_neg hc]
    have s65 : jr_ev pX5_beats 43 [.ref 62, .ref k, .int (nI s), .int (nI g), v] [] (jl_w mem lm) = jr_ev pX5_beats 65 [.ref 62, .ref k, .int (nI s), .int (nI g), v] [] (jl_w mem lm) := by
      by_cases hg0 : g = 0
      · simp (disch := first | assumption | omega) only [eX5_beats_43, eX5_beats_44, jz_le, hg0, if_true]
      · have hlt : g < m0 2 := by omega
        simp (disch := first | assumption | omega) only [eX5_beats_43, eX5_beats_44, eX5_beats_47, eX5_beats_48, eX5_beats_49, eX5_beats_50, eX5_beats_51, jz_le, hg0, if_false, c2, nI_ltI, hlt, if_true]
    have e2 : ¬ nI 2 = 0 := by decide
    have en : ¬ nI K.1 = 0 := nI_ne0 hn (by omega)
    have hdiv : nI K.1 / nI 2 = nI (K.1 / 2) := pk_div (by omega) (by omega) (by omega)
    have hrem : nI (m0 1 + K.1 / 2) - nI (m0 1 + K.1 / 2) / nI K.1 * nI K.1 = nI ((m0 1 + K.1 / 2) % K.1) := pk_rem (by omega) (by omega) (by omega)
    refine ⟨jl_s (jl_s mem k 1 (nI ((m0 1 + K.1 / 2) % K.1))) k 2 (nI (m0 2 - K.2.1)), ?_, ?_, fun q hq => by rw [js_ne hq, js_ne hq]⟩
    · rw [s65]
      have q2 : ∀ x, jl_s mem k 1 x k 2 = nI (m0 2) := fun x => by rw [js_mj (by omega), c2]
      have q9 : ∀ x, jl_s mem k 1 x 62 10 = nI K.2.1 := fun x => by rw [js_mk (by omega), hK.2.1]
      by_cases hle : m0 2 ≤ K.2.1
      · have h0 : m0 2 - K.2.1 = 0 := by omega
        rw [h0]
        simp (disch := first | assumption | omega) only [eX5_beats_65, eX5_beats_66, eX5_beats_67, eX5_beats_68, eX5_beats_69, eX5_beats_70, eX5_beats_71, eX5_beats_74, eX5_beats_75, eX5_beats_76, eX5_beats_77, eX5_beats_78, eX5_beats_81, eX5_beats_82, eX5_beats_83, eX5_beats_84, eX5_beats_85, eX5_beats_86, eX5_beats_87, eX5_beats_88, eX5_beats_89, eX5_beats_92, eX5_beats_95, eX5_beats_96, eX5_beats_97, eX5_beats_98, eX5_beats_99, eX5_beats_102, eX5_beats_103, eX5_beats_106, eX5_beats_107, c1, hK.1, hdiv, nI_add, hrem, q2, q9, nI_leI, hle, if_true]
      · simp (disch := first | assumption | omega) only [eX5_beats_65, eX5_beats_66, eX5_beats_67, eX5_beats_68, eX5_beats_69, eX5_beats_70, eX5_beats_71, eX5_beats_74, eX5_beats_75, eX5_beats_76, eX5_beats_77, eX5_beats_78, eX5_beats_81, eX5_beats_82, eX5_beats_83, eX5_beats_84, eX5_beats_85, eX5_beats_86, eX5_beats_87, eX5_beats_88, eX5_beats_89, eX5_beats_92, eX5_beats_95, eX5_beats_96, eX5_beats_97, eX5_beats_98, eX5_beats_99, eX5_beats_102, eX5_beats_103, eX5_beats_106, eX5_beats_107, c1, hK.1, hdiv, nI_add, hrem, q2, q9, nI_leI, hle, if_false, pk_sub]
    · intro j hj
      have := jy_M_s (x := m0 2 - K.2.1) (j := 2) (jy_M_s (x := (m0 1 + K.1 / 2) % K.1) (j := 1) hM (by omega)) (by omega) j hj
      rw [this]
      show nI (if j = 2 then _ else if j = 1 then _ else m0 j) = nI (if j = 1 then _ else if j = 2 then _ else m0 j)
      by_cases e1 : j = 1
      · rw [if_neg (by omega), if_pos e1, if_pos e1]
      · by_cases e2 : j = 2
        · rw [if_pos e2, if_neg e1, if_pos e2]
        · rw [if_neg e2, if_neg e1, if_neg e1, if_neg e2]
theorem Y_beats {k s g : Nat} (hA : jl_A k 19) (hk62 : k = 67 ∨ k = 68) (hK : jy_K mem K) (hM : jy_M mem k mo) (hk : jq_WK K) (hw : jq_WM K.1 mo) (hn : 0 < K.1) (hs : s < K.1) (hg : g ≤ 9) : ∃ mem', xX5_beats [.ref 62, .ref k, .int (nI s), .int (nI g)] (jl_w mem lm) = some (some (.int (jq_an (jq_bw K s g mo))), jl_w mem' lm) ∧ jy_M mem' k (jq_beat K s g mo) ∧ jl_F (fun q => q = k) mem mem' := by
  have h8 := hk.1
  obtain ⟨m1, v, e1, r1, f1⟩ := Y_fade (lm := lm) (s := s) (g := g) hA hk62 hK hM hk hw
  have K1 : jy_K m1 K := hK.keep (by rw [f1 62 (by omega)]) (by rw [f1 62 (by omega)]) (f1 64 (by omega)) (f1 65 (by omega)) (f1 66 (by omega))
  have wf := jq_WM_fade hk.1 hw
  have l2 : jq_fade K.1 mo 2 = mo 2 := jq_fade_lo (by omega) (by omega)
  have l1 : jq_fade K.1 mo 1 = mo 1 := jq_fade_lo (by omega) (by omega)
  obtain ⟨m2, e2, r2, f2⟩ := Y_move (lm := lm) (v := v) (s := s) (g := g) hA hk62 K1 r1 hk (by show (if 2 = 0 then _ else jq_fade K.1 mo 2) ≤ 9; rw [if_neg (by omega), l2]; exact hw.2.1) (by show (if 1 = 0 then _ else jq_fade K.1 mo 1) < K.1; rw [if_neg (by omega), l1]; exact hw.2.2.1 hn) hn (by omega) hg
  have K2 : jy_K m2 K := K1.keep (by rw [f2 62 (by omega)]) (by rw [f2 62 (by omega)]) (f2 64 (by omega)) (f2 65 (by omega)) (f2 66 (by omega))
  -- the count
  have hmv : ∀ j, (if j = 0 then mo 0 + 1 else jq_move K s g (fun j => if j = 0 then mo 0 else jq_fade K.1 mo j) j) = jq_move K s g (jq_fade K.1 mo) j := by
    intro j
    unfold jq_move
    show (if j = 0 then mo 0 + 1 else (if 0 < g ∧ (if 2 = 0 then mo 0 else jq_fade K.1 mo 2) ≤ g then jq_blow s g _ else jq_swing K _) j) = _
    rw [if_neg (show ¬ (2 = 0) by omega)]
    by_cases hc : 0 < g ∧ jq_fade K.1 mo 2 ≤ g
    · rw [if_pos hc, if_pos hc]
      unfold jq_blow
      by_cases e : j = 0
      · rw [if_pos e, if_neg (by omega), if_neg (by omega), e]
        rfl
      · rw [if_neg e]
        dsimp only
        rw [if_neg e]
    · rw [if_neg hc, if_neg hc]
      unfold jq_swing
      by_cases e : j = 0
      · rw [if_pos e, if_neg (by omega), if_neg (by omega), e]
        rfl
      · rw [if_neg e]
        dsimp only
        rw [if_neg e, if_neg (show ¬ (1 = 0) by omega), if_neg (show ¬ (2 = 0) by omega)]
  have c0 : m2 k 0 = nI (mo 0) := by
    rw [r2 0 (by omega)]
    congr 1
    unfold jq_move
    split
    · unfold jq_blow; rw [if_neg (by omega), if_neg (by omega)]; rfl
    · unfold jq_swing; rw [if_neg (by omega), if_neg (by omega)]; rfl
  have r3 : jy_M (jl_s m2 k 0 (nI (mo 0 + 1))) k (jq_move K s g (jq_fade K.1 mo)) := by
    intro j hj
    rw [jy_M_s (x := mo 0 + 1) (j := 0) r2 (by omega) j hj]
    show nI (if j = 0 then mo 0 + 1 else _) = _
    rw [hmv j]
  have f3 : jl_F (fun q => q = k) m2 (jl_s m2 k 0 (nI (mo 0 + 1))) := fun q hq => js_ne hq
  have K3 : jy_K (jl_s m2 k 0 (nI (mo 0 + 1))) K := K2.keep (by rw [f3 62 (by omega)]) (by rw [f3 62 (by omega)]) (f3 64 (by omega)) (f3 65 (by omega)) (f3 66 (by omega))
  have w3 := jq_WM_move hk.1 hn (fun _ => hs) hg wf
  have f13 : jl_F (fun q => q = k) mem (jl_s m2 k 0 (nI (mo 0 + 1))) := (f1.trans (T := fun _ => True) f2).trans (T := fun _ => True) f3
  have hat := Y_at (lm := lm) hA K3 r3 hk w3 (w3.2.2.1 hn)
  have hok := jq_at_ok w3 (w3.2.2.1 hn)
  have hf9 := w3.2.1
  unfold jq_beat jq_bw jq_strike jq_who jq_hit
  have t1 : jr_ev pX5_beats 108 [.ref 62, .ref k, .int (nI s), .int (nI g), v] [] (jl_w m2 lm) = jr_ev pX5_beats 123 [.ref 62, .ref k, .int (nI s), .int (nI g), v] [.int (nI (jq_at K.1 (jq_move K s g (jq_fade K.1 mo)) (jq_move K s g (jq_fade K.1 mo) 1)))] (jl_w (jl_s m2 k 0 (nI (mo 0 + 1))) lm) := by
    simp (disch := first | assumption | omega) only [eX5_beats_108, eX5_beats_109, eX5_beats_110, eX5_beats_111, eX5_beats_112, eX5_beats_113, eX5_beats_114, eX5_beats_115, eX5_beats_116, eX5_beats_117, eX5_beats_118, eX5_beats_119, c0, nI_add, r3 1 (by omega)]
    rw [eX5_beats_120 hat]
  generalize jq_move K s g (jq_fade K.1 mo) = mm at *
  generalize jl_s m2 k 0 (nI (mo 0 + 1)) = m3 at *
  obtain ⟨g1, g2, g3⟩ := K3.2.2 _ hok.1
  obtain ⟨k1, k2, k3⟩ := hk.2.2 _ hok.1
  generalize jq_at K.1 mm (mm 1) = r at *
  have d2 := r3 2 (by omega)
  by_cases hh : K.2.2.2.1 r ≤ mm 2
  · rw [show Nat.ble (K.2.2.2.1 r) (mm 2) = true from Nat.ble_eq.mpr hh, if_pos rfl, if_pos rfl]
    refine ⟨jl_s (jl_s m3 k (11 + r) (nI (K.2.2.2.2 r))) k 2 (nI (mm 2 - 1)), ?_, ?_, fun q hq => by rw [js_ne hq, js_ne hq]; exact f13 q hq⟩
    · have q1 : ∀ x, jl_s m3 k (11 + r) x k 2 = nI (mm 2) := fun x => by rw [js_mj (by omega), d2]
      simp only [eX5_beats, eX5_beats_0, eX5_beats_1]
      rw [e1, e2, t1]
      simp (disch := first | assumption | omega) only [eX5_beats_123, eX5_beats_125, eX5_beats_126, eX5_beats_127, eX5_beats_128, eX5_beats_129, eX5_beats_132, eX5_beats_134, eX5_beats_135, eX5_beats_138, eX5_beats_140, eX5_beats_141, eX5_beats_142, eX5_beats_144, eX5_beats_146, eX5_beats_147, eX5_beats_148, eX5_beats_151, eX5_beats_153, eX5_beats_154, eX5_beats_155, eX5_beats_156, eX5_beats_157, eX5_beats_158, eX5_beats_159, eX5_beats_160, eX5_beats_161, eX5_beats_162, eX5_beats_164, d2, g2, g3, nI_leI, hh, if_true, nI_add, q1, pk_sub]
      rfl
    · intro j hj
      rw [jy_M_s (x := mm 2 - 1) (j := 2) (jy_M_s (x := K.2.2.2.2 r) (j := 11 + r) r3 (by omega)) (by omega) j hj]
      show nI (if j = 2 then _ else if j = 11 + r then _ else mm j) = nI (if j = 11 + r then _ else if j = 2 then _ else mm j)
      by_cases e1 : j = 2
      · rw [if_pos e1, if_neg (by omega), if_pos e1]
      · rw [if_neg e1, if_neg e1]
  · rw [show Nat.ble (K.2.2.2.1 r) (mm 2) = false from Bool.eq_false_iff.mpr (fun h => hh (Nat.le_of_ble_eq_true h)), if_neg (by decide), if_neg (by decide)]
    refine ⟨m3, ?_, r3, f13⟩
    simp only [eX5_beats, eX5_beats_0, eX5_beats_1]
    rw [e1, e2, t1]
    simp (disch := first | assumption | omega) only [eX5_beats_123, eX5_beats_125, eX5_beats_126, eX5_beats_127, eX5_beats_128, eX5_beats_129, eX5_beats_132, eX5_beats_134, eX5_beats_135, eX5_beats_138, eX5_beats_140, d2, g2, nI_leI, hh, if_false]
    rfl
end YB

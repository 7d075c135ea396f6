theorem jp_let0 {K : jq_K} {a b t g c : Nat} : jp_let (0, K, a, b, t, g) c = if c = 114 ∧ K.1 < 8 then (1, K, a, b, t, g) else if c = 100 ∧ b = 0 then (4, K, a, 1, t, g) else jp_bad (0, K, a, b, t, g) := by
  have h5 : ¬ (c = 59 ∧ (0 : Nat) = 5) := fun x => absurd x.2 (by omega)
  show (if c = 59 ∧ (0 : Nat) = 5 then _ else if c = 114 ∧ (0 : Nat) = 0 ∧ K.1 < 8 then _ else if c = 100 ∧ (0 : Nat) = 0 ∧ b = 0 then _ else _) = _
  rw [if_neg h5]
  by_cases h1 : c = 114 ∧ K.1 < 8
  · rw [if_pos h1, if_pos ⟨h1.1, rfl, h1.2⟩]
  · rw [if_neg h1, if_neg (fun x => h1 ⟨x.1, x.2.2⟩)]
    by_cases h2 : c = 100 ∧ b = 0
    · rw [if_pos h2, if_pos ⟨h2.1, rfl, h2.2⟩]
    · rw [if_neg h2, if_neg (fun x => h2 ⟨x.1, x.2.2⟩)]
theorem jp_let5 {K : jq_K} {a b t g c : Nat} : jp_let (5, K, a, b, t, g) c = if c = 59 then (0, K, a + 1, b, t, g) else jp_bad (5, K, a, b, t, g) := by
  show (if c = 59 ∧ (5 : Nat) = 5 then _ else if c = 114 ∧ (5 : Nat) = 0 ∧ K.1 < 8 then _ else if c = 100 ∧ (5 : Nat) = 0 ∧ b = 0 then _ else _) = _
  by_cases h1 : c = 59
  · rw [if_pos h1, if_pos ⟨h1, rfl⟩]
  · rw [if_neg h1, if_neg (fun x => h1 x.1), if_neg (fun x => absurd x.2.1 (by omega)), if_neg (fun x => absurd x.2.1 (by omega))]
section YT
variable {mem : jl_M} {lm : jl_L} {tx : jq_X} {F : Nat ⊕ jp_Q}
theorem jY_D.av {mem' : jl_M} {q : jp_Q} (h : jY_D mem q) (f : jl_av mem mem') : jY_D mem' q := by
  unfold jY_D
  rw [f.2 11 (by omega) (by omega) (by omega) (by omega), f.2 12 (by omega) (by omega) (by omega) (by omega), f.2 13 (by omega) (by omega) (by omega) (by omega), f.1 64 (by omega), f.1 65 (by omega), f.1 66 (by omega)]
  exact h
theorem jl_rv.av {a b : jl_M} (h : jl_av a b) : jl_rv a b := jl_rv.n (jl_an.a h)
theorem Y_tailF {it : Nat} {v : Value} {x : Int32} (hL : tx.1 ≤ 120) (hN : jY_N mem tx F) : jr_ev pX5_chime 125 [.ref 62, .int (nI it), v] [.int x] (jl_w mem lm) = jr_ev pX5_chime 132 [.ref 62, .int (nI (it + 1)), v] [] (jl_w mem lm) := by
  obtain ⟨f, f1, f2, f3⟩ := hN
  have hill := Y_ill (lm := lm) f2 (by omega)
  simp only [eX5_chime_125, eX5_chime_126, nI_add]
  rw [eX5_chime_129]
  simp only [eX5_chime_36]
  rw [eX5_chime_37 hill]
  simp only [eX5_chime_40, je0, if_true]
/-- what stands at the end of the loop -/
def jY_E (mem : jl_M) (tx : jq_X) (F : Nat ⊕ jp_Q) (it : Nat) : Prop := jY_N mem tx F ∨ (mem 62 8 = -1 ∧ ∃ K b t g, F = jp_end tx (0, K, it, b, t, g) ∧ jp_W (0, K, it, b, t, g) ∧ jY_D mem (0, K, it, b, t, g))
theorem Y_loop (hL : tx.1 ≤ 120 ∧ ∀ i, i < tx.1 → tx.2 i ≤ 255) : ∀ k i K a b t g (m : jl_M) (w : Value), tx.1 + 1 ≤ i + k → jY_T m tx → jY_P m tx F i (0, K, a, b, t, g) → jp_W (0, K, a, b, t, g) → jY_D m (0, K, a, b, t, g) → ∃ m' it w', jr_ev pX5_chime 36 [.ref 62, .int (nI a), w] [] (jl_w m lm) = jr_ev pX5_chime 132 [.ref 62, .int (nI it), w'] [] (jl_w m' lm) ∧ jl_rv m m' ∧ jY_E m' tx F it := by
  intro k
  induction k with
  | zero =>
    intro i K a b t g m w hk hT hP hW hD
    obtain ⟨p8, pF, p, e, tt, v, c4, c5, c6, c7, hv9, ht4, hip, hp, hR, hc⟩ := hP
    omega
  | succ k ih =>
    intro i K a b t g m w hk hT hP hW hD
    have hP0 := hP
    obtain ⟨p8, pF, p, e, tt, v, c4, c5, c6, c7, hv9, ht4, hip, hp, hR, hc⟩ := hP
    have hwell := Y_well (lm := lm) p8
    rcases hc with ⟨h0, hpe⟩ | ⟨h0, hpl, hpe, hel, hBe, hRp, hc⟩
    · refine ⟨m, a, w, ?_, jl_rv.rf, Or.inr ⟨p8, K, b, t, g, by rw [pF, hR, hpe, jp_T_e], hW, hD⟩⟩
      rw [h0] at c5
      simp only [eX5_chime_36]
      rw [eX5_chime_37 hwell]
      simp only [eX5_chime_40, eX5_chime_43, eX5_chime_44, eX5_chime_47, je1, if_false, c5, je0, if_true]
    · have c7' := c7 h0
      have h8 : K.1 ≤ 8 := hW.2.1
      have hb1 : b ≤ 1 := hW.2.2.2.2.1
      have g11 : m 62 11 = nI K.1 := hD.1
      have g13 : m 62 13 = nI b := hD.2.2.1
      have start : jr_ev pX5_chime 36 [.ref 62, .int (nI a), w] [] (jl_w m lm) = jr_ev pX5_chime 50 [.ref 62, .int (nI a), w] [] (jl_w m lm) := by
        have hz : ¬ nI tt = 0 := fun q => h0 ((jz_eq (by omega)).mp q)
        simp only [eX5_chime_36]
        rw [eX5_chime_37 hwell]
        simp only [eX5_chime_40, eX5_chime_43, eX5_chime_44, eX5_chime_47, je1, if_false, c5, hz]
      -- behind the letter and its item
      have after : ∀ (m2 : jl_M) (c : Nat) (K' : jq_K) (b' t' g' e2 : Nat), i < e2 → jY_T m2 tx → jl_rv m m2 → jY_P m2 tx F e2 (5, K', a, b', t', g') → jY_D m2 (5, K', a, b', t', g') → jp_W (5, K', a, b', t', g') → ∃ m' it w', jr_ev pX5_chime 108 [.ref 62, .int (nI a), .int (nI c)] [] (jl_w m2 lm) = jr_ev pX5_chime 132 [.ref 62, .int (nI it), w'] [] (jl_w m' lm) ∧ jl_rv m m' ∧ jY_E m' tx F it := by
        intro m2 c K' b' t' g' e2 hi2 hT2 hr2 hP2 hD2 hW2
        have hP2' := hP2
        obtain ⟨p8, pF, p, e, tt, v, c4, c5, c6, c7, hv9, ht4, hip, hp, hR, hc⟩ := hP2
        by_cases h3 : tt = 3
        · rcases hc with ⟨h0, _⟩ | ⟨h0, hpl, hpe, hel, hBe, hRp, hc⟩
          · omega
          · have hnd : jp_d tx p = false ∧ tx.2 p = 59 ∧ v = 59 := by
              rcases hc with ⟨_, ⟨h4, _⟩ | ⟨h4, _⟩⟩ | ⟨hd, hv, h4⟩
              · omega
              · omega
              · by_cases h59 : v = 59
                · exact ⟨hd, by omega, h59⟩
                · rw [if_neg h59] at h4
                  split at h4 <;> omega
            have htok : jp_tok tx (5, K', a, b', t', g') p = (0, K', a + 1, b', t', g') := by
              unfold jp_tok
              rw [if_neg (by rw [hnd.1]; decide), hnd.2.1, jp_let5, if_pos rfl]
            have hF2 : F = jp_T tx e (jp_tok tx (5, K', a, b', t', g') p) := by
              rw [pF, hR, hRp, if_neg]
              rw [htok]; show ¬ (0 : Nat) = 6; omega
            obtain ⟨m3, k1, k2, k3⟩ := Y_takes1 (lm := lm) (t := 0) (i := i) hL hT2 p8 c4 (c7 h0) hel hBe hF2
            have hW3 : jp_W (0, K', a + 1, b', t', g') := by rw [← htok]; exact jp_W_tok hW2
            rw [htok] at k2
            obtain ⟨m', it, w', q1, q2, q3⟩ := ih e K' (a + 1) b' t' g' m3 (.int (nI c)) (by omega) (hT2.a k3) k2 hW3 (hD2.av k3)
            refine ⟨m', it, w', ?_, hr2.tr ((jl_rv.av k3).tr q2), q3⟩
            rw [h3] at c5
            simp only [eX5_chime_108, eX5_chime_109, eX5_chime_110, eX5_chime_113, eX5_chime_114, eX5_chime_117, eX5_chime_118, c5, if_true]
            rw [eX5_chime_122 k1]
            simp only [eX5_chime_125, eX5_chime_126, nI_add]
            rw [eX5_chime_129, q1]
        · have hF2 : F = .inl p := by
            rw [pF, hR]
            rcases hc with ⟨h0, hpe⟩ | ⟨h0, hpl, hpe, hel, hBe, hRp, hc⟩
            · rw [hpe, jp_T_e]
              unfold jp_end
              rw [if_neg (fun x => absurd x.1 (by show ¬ (5 : Nat) = 0; omega))]
            · rw [hRp, if_pos]
              unfold jp_tok
              rcases hc with ⟨hd, ⟨_, hn⟩ | ⟨_, hn⟩⟩ | ⟨hd, hv, h4⟩
              · rw [if_pos hd, hn]; rfl
              · rw [if_pos hd, hn]; rfl
              · rw [if_neg (by rw [hd]; decide), jp_let5, if_neg]
                · rfl
                · intro x
                  rw [if_pos (by omega)] at h4
                  exact h3 h4
          obtain ⟨k1, k2⟩ := Y_takes0 (lm := lm) hP2' c6 hp hF2
          refine ⟨_, a + 1, .int (nI c), ?_, hr2.tr (jl_rv.n jl_an.f), Or.inl k2⟩
          simp (disch := first | assumption | omega) only [eX5_chime_108, eX5_chime_109, eX5_chime_110, eX5_chime_113, eX5_chime_114, eX5_chime_121, c5, nI_eq, h3, if_false]
          rw [eX5_chime_122 k1]
          exact Y_tailF hL.1 k2
      have bad : F = .inl p → ∃ m' it w', jr_ev pX5_chime 92 [.ref 62, .int (nI a), w] [.int (nI 0), .ref 62] (jl_w m lm) = jr_ev pX5_chime 132 [.ref 62, .int (nI it), w'] [] (jl_w m' lm) ∧ jl_rv m m' ∧ jY_E m' tx F it := by
        intro hF2
        obtain ⟨k1, k2⟩ := Y_takes0 (lm := lm) hP0 c6 hp hF2
        refine ⟨_, a + 1, .int (nI 0), ?_, jl_rv.n jl_an.f, Or.inl k2⟩
        rw [eX5_chime_92 k1]
        simp only [eX5_chime_95, eX5_chime_96]
        obtain ⟨f, f1, f2, f3⟩ := k2
        rw [eX5_chime_97 (Y_ill f2 (by omega))]
        simp only [eX5_chime_100, je0, if_true]
        exact Y_tailN hL.1 ⟨f, f1, f2, f3⟩
      rw [start]
      by_cases h1 : tt = 1
      · have hnd : jp_d tx p = false ∧ v = tx.2 p ∧ (v = 114 ∨ v = 100) := by
          rcases hc with ⟨_, ⟨h4, _⟩ | ⟨h4, _⟩⟩ | ⟨hd, hv, h4⟩
          · omega
          · omega
          · refine ⟨hd, hv, ?_⟩
            by_cases h59 : v = 59
            · rw [if_pos h59] at h4; omega
            · rw [if_neg h59] at h4
              by_cases hv2 : v = 114 ∨ v = 100
              · exact hv2
              · rw [if_neg hv2] at h4; omega
        rw [h1] at c5
        have htok : jp_tok tx (0, K, a, b, t, g) p = jp_let (0, K, a, b, t, g) v := by
          unfold jp_tok
          rw [if_neg (by rw [hnd.1]; decide), hnd.2.1]
        rw [jp_let0] at htok
        by_cases hv : v = 114
        · rw [hv] at c7' htok
          by_cases hK : K.1 < 8
          · rw [if_pos ⟨rfl, hK⟩] at htok
            have hF2 : F = jp_T tx e (jp_tok tx (0, K, a, b, t, g) p) := by
              rw [pF, hR, hRp, if_neg]
              rw [htok]; show ¬ (1 : Nat) = 6; omega
            obtain ⟨m1, k1, k2, k3⟩ := Y_takes1 (lm := lm) (t := 0) (i := i) hL hT p8 c4 c7' hel hBe hF2
            have hW1 : jp_W (1, K, a, b, t, g) := by rw [← htok]; exact jp_W_tok hW
            rw [htok] at k2
            obtain ⟨m2, j1, j2, j3⟩ := Y_item_r (lm := lm) hL (hT.a k3) k2 hW1 (hD.av k3)
            have go : jr_ev pX5_chime 50 [.ref 62, .int (nI a), w] [] (jl_w m lm) = jr_ev pX5_chime 108 [.ref 62, .int (nI a), .int (nI 114)] [] (jl_w m2 lm) := by
              have nK : ¬ 8 ≤ K.1 := by omega
              simp (disch := first | assumption | omega) only [eX5_chime_50, eX5_chime_51, eX5_chime_52, eX5_chime_55, eX5_chime_56, eX5_chime_59, eX5_chime_60, eX5_chime_63, eX5_chime_65, eX5_chime_68, eX5_chime_69, eX5_chime_72, eX5_chime_74, eX5_chime_77, eX5_chime_80, eX5_chime_81, eX5_chime_84, eX5_chime_87, eX5_chime_88, c5, c7', g11, nI_leI, nK, if_true, if_false]
              rw [eX5_chime_92 k1]
              simp only [eX5_chime_95, eX5_chime_96]
              rw [eX5_chime_97 (Y_well k2.1)]
              simp only [eX5_chime_100, eX5_chime_103, eX5_chime_104, je1, if_false]
              rw [eX5_chime_105 j1]
            rw [go]
            rcases j3 with ⟨e2, K', t', g', l1, l2, l3, l4⟩ | hN
            · exact after m2 114 K' b t' g' e2 (by omega) ((hT.a k3).rv j2) ((jl_rv.av k3).tr j2) l2 l3 l4
            · exact ⟨m2, a + 1, .int (nI 114), Y_tailN hL.1 hN, (jl_rv.av k3).tr j2, Or.inl hN⟩
          · rw [if_neg (fun x => hK x.2), if_neg (fun x => absurd x.1 (by omega))] at htok
            have hF2 : F = .inl p := by rw [pF, hR, hRp, if_pos (by rw [htok]; rfl)]
            obtain ⟨m', it, w', q1, q2⟩ := bad hF2
            refine ⟨m', it, w', ?_, q2⟩
            rw [← q1]
            have nK : 8 ≤ K.1 := by omega
            simp (disch := first | assumption | omega) only [eX5_chime_50, eX5_chime_51, eX5_chime_52, eX5_chime_55, eX5_chime_56, eX5_chime_59, eX5_chime_60, eX5_chime_63, eX5_chime_65, eX5_chime_68, eX5_chime_69, eX5_chime_72, eX5_chime_74, eX5_chime_91, c5, c7', g11, nI_leI, nK, if_true]
        · have hv1 : v = 100 := hnd.2.2.resolve_left hv
          rw [hv1] at c7' htok
          have n114 : ¬ nI 100 = nI 114 := by decide
          rw [if_neg (fun x => absurd x.1 (by omega))] at htok
          by_cases hb : b = 0
          · rw [if_pos ⟨rfl, hb⟩] at htok
            have hF2 : F = jp_T tx e (jp_tok tx (0, K, a, b, t, g) p) := by
              rw [pF, hR, hRp, if_neg]
              rw [htok]; show ¬ (4 : Nat) = 6; omega
            obtain ⟨m1, k1, k2, k3⟩ := Y_takes1 (lm := lm) (t := 0) (i := i) hL hT p8 c4 c7' hel hBe hF2
            have hW1 : jp_W (4, K, a, 1, t, g) := by rw [← htok]; exact jp_W_tok hW
            rw [htok] at k2
            obtain ⟨m2, j1, j2, j3⟩ := Y_item_d (lm := lm) hL (hT.a k3) k2 hW1 (hD.av k3)
            have go : jr_ev pX5_chime 50 [.ref 62, .int (nI a), w] [] (jl_w m lm) = jr_ev pX5_chime 108 [.ref 62, .int (nI a), .int (nI 100)] [] (jl_w m2 lm) := by
              rw [hb] at g13
              simp (disch := first | assumption | omega) only [eX5_chime_50, eX5_chime_51, eX5_chime_52, eX5_chime_55, eX5_chime_56, eX5_chime_59, eX5_chime_60, eX5_chime_63, eX5_chime_65, eX5_chime_80, eX5_chime_81, eX5_chime_84, eX5_chime_87, eX5_chime_88, c5, c7', g13, n114, je0, if_true, if_false]
              rw [eX5_chime_92 k1]
              simp only [eX5_chime_95, eX5_chime_96]
              rw [eX5_chime_97 (Y_well k2.1)]
              simp only [eX5_chime_100, eX5_chime_103, eX5_chime_104, je1, if_false]
              rw [eX5_chime_105 j1]
            rw [go]
            rcases j3 with ⟨e2, K', t', g', l1, l2, l3, l4⟩ | hN
            · exact after m2 100 K' 1 t' g' e2 (by omega) ((hT.a k3).rv j2) ((jl_rv.av k3).tr j2) l2 l3 l4
            · exact ⟨m2, a + 1, .int (nI 100), Y_tailN hL.1 hN, (jl_rv.av k3).tr j2, Or.inl hN⟩
          · rw [if_neg (fun x => hb x.2)] at htok
            have hF2 : F = .inl p := by rw [pF, hR, hRp, if_pos (by rw [htok]; rfl)]
            obtain ⟨m', it, w', q1, q2⟩ := bad hF2
            refine ⟨m', it, w', ?_, q2⟩
            rw [← q1]
            have hbz : ¬ nI b = 0 := fun q => hb ((jz_eq (by omega)).mp q)
            simp (disch := first | assumption | omega) only [eX5_chime_50, eX5_chime_51, eX5_chime_52, eX5_chime_55, eX5_chime_56, eX5_chime_59, eX5_chime_60, eX5_chime_63, eX5_chime_65, eX5_chime_80, eX5_chime_81, eX5_chime_84, eX5_chime_91, c5, c7', g13, n114, hbz, if_true, if_false]
      · have hF2 : F = .inl p := by
          rw [pF, hR, hRp, if_pos]
          unfold jp_tok
          rcases hc with ⟨hd, ⟨_, hn⟩ | ⟨_, hn⟩⟩ | ⟨hd, hv, h4⟩
          · rw [if_pos hd, hn]; rfl
          · rw [if_pos hd, hn]; rfl
          · rw [if_neg (by rw [hd]; decide), jp_let0, if_neg, if_neg]
            · rfl
            · intro x
              rw [if_neg (by omega), if_pos (Or.inr (by omega))] at h4
              exact h1 h4
            · intro x
              rw [if_neg (by omega), if_pos (Or.inl (by omega))] at h4
              exact h1 h4
        obtain ⟨m', it, w', q1, q2⟩ := bad hF2
        refine ⟨m', it, w', ?_, q2⟩
        rw [← q1]
        simp (disch := first | assumption | omega) only [eX5_chime_50, eX5_chime_51, eX5_chime_52, eX5_chime_55, eX5_chime_56, eX5_chime_91, c5, nI_eq, h1, if_false]
end YT

/-- what the reference's look ahead may change -/
def jl_G (mem mem' : jl_M) : Prop := (∀ k, k ≠ 62 → k ≠ 68 → mem' k = mem k) ∧ ∀ j, j ≠ 27 → j ≠ 28 → mem' 62 j = mem 62 j
theorem jl_G.rf {m : jl_M} : jl_G m m := ⟨fun _ _ _ => rfl, fun _ _ _ => rfl⟩
theorem jl_G.tr {a b c : jl_M} (h1 : jl_G a b) (h2 : jl_G b c) : jl_G a c := ⟨fun k x y => (h2.1 k x y).trans (h1.1 k x y), fun j x y => (h2.2 j x y).trans (h1.2 j x y)⟩
theorem jl_G.row {mem mem' : jl_M} (h : jl_F (fun q => q = 68) mem mem') : jl_G mem mem' := ⟨fun k _ y => h k y, fun j _ _ => by rw [h 62 (by omega)]⟩
theorem jl_G.fld {mem : jl_M} {j : Nat} {x : Int32} (h : j = 27 ∨ j = 28) : jl_G mem (jl_s mem 62 j x) := ⟨fun k y _ => js_ne y, fun i y z => js_mj (by omega)⟩
theorem jy_K.G {mem mem' : jl_M} {K : jq_K} (h : jy_K mem K) (hG : jl_G mem mem') : jy_K mem' K := h.keep (hG.2 9 (by omega) (by omega)) (hG.2 10 (by omega) (by omega)) (hG.1 64 (by omega) (by omega)) (hG.1 65 (by omega) (by omega)) (hG.1 66 (by omega) (by omega))
theorem jq_or0 {m : Nat} (h : m < 256) : nI m ||| nI 0 = nI m := by
  have hx : ∀ m, m < 256 → nI m ||| nI 0 = nI m := by decide +kernel
  exact hx m h
section YB
variable {mem : jl_M} {lm : jl_L} {K : jq_K} {mo : jq_M}
theorem Y_asNow (hM : jy_M mem 67 mo) : ∃ mem', xX5_asNow [.ref 62] (jl_w mem lm) = some (none, jl_w mem' lm) ∧ jy_M mem' 68 mo ∧ mem' 62 27 = nI 0 ∧ mem' 62 28 = nI 0 ∧ jl_G mem mem' := by
  obtain ⟨ls', mem', hI, he⟩ := jr_loop (P := pX5_asNow) (pc := 2) (lm := lm) (fun i ls m => ls = [.ref 62, .int (nI i)] ∧ (∀ j, j < i → m 68 j = nI (mo j)) ∧ jl_F (fun q => q = 68) mem m) 19 (by
    intro i ls m hi ⟨hl, hm, hF⟩
    subst hl
    have e3 : ¬ 19 ≤ i := by omega
    have e4 : m 67 i = nI (mo i) := by rw [hF 67 (by omega)]; exact hM i hi
    refine ⟨[.ref 62, .int (nI (i + 1))], jl_s m 68 i (nI (mo i)), ⟨rfl, fun j hj => ?_, fun q hq => by rw [js_ne hq]; exact hF q hq⟩, ?_⟩
    · by_cases e : j = i
      · rw [e, js_hit]
      · rw [js_mj e]; exact hm j (by omega)
    · refine Eq.trans ?_ eX5_asNow_23
      simp (disch := first | assumption | omega) only [eX5_asNow_2, eX5_asNow_3, eX5_asNow_5, eX5_asNow_8, eX5_asNow_9, eX5_asNow_12, eX5_asNow_13, eX5_asNow_14, eX5_asNow_17, eX5_asNow_18, eX5_asNow_19, eX5_asNow_20, nI_leI, e3, if_false, e4, nI_add]) 19 0 [.ref 62, .int (nI 0)] mem (by omega) ⟨rfl, fun j hj => absurd hj (by omega), fun _ _ => rfl⟩
  obtain ⟨rfl, hm, hF⟩ := hI
  refine ⟨jl_s (jl_s mem' 62 27 (nI 0)) 62 28 (nI 0), ?_, fun j hj => ?_, ?_, ?_, ((jl_G.row hF).tr (jl_G.fld (Or.inl rfl))).tr (jl_G.fld (Or.inr rfl))⟩
  · simp only [eX5_asNow, eX5_asNow_0, eX5_asNow_1]
    rw [he]
    simp (disch := first | assumption | omega) only [eX5_asNow_2, eX5_asNow_3, eX5_asNow_5, eX5_asNow_26, eX5_asNow_27, eX5_asNow_28, eX5_asNow_31, eX5_asNow_32, eX5_asNow_33, eX5_asNow_36, nI_leI, Nat.le_refl, if_true]
  · rw [js_mk (by omega), js_mk (by omega)]; exact hm j hj
  · rw [js_mj (by omega), js_hit]
  · rw [js_hit]
theorem Y_heardNow {o : Option Nat} {m h : Nat} (hK : jy_K mem K) (hM : jy_M mem 68 mo) (hk : jq_WK K) (hw : jq_WM K.1 mo) (ho : ∀ r, o = some r → r < K.1) (h2 : mem 62 27 = nI m) (h3 : mem 62 28 = nI h) (hm : m < 256) (hh : h ≤ 64) : ∃ mem', xX5_heardNow [.ref 62, .int (jq_an o)] (jl_w mem lm) = some (none, jl_w mem' lm) ∧ mem' 62 27 = nI (m ||| jq_bt o) ∧ mem' 62 28 = nI (max h (jq_h K mo)) ∧ mem' 68 = mem 68 ∧ jl_G mem mem' := by
  have h8 := hk.1
  have hl := jq_h_le (mo := mo) hk.1
  have hA : jl_A 68 19 := ⟨rfl, rfl⟩
  have G1 : jl_G mem (jl_s mem 62 27 (nI (m ||| jq_bt o))) := jl_G.fld (Or.inl rfl)
  have K1 := hK.G G1
  have M1 : jy_M (jl_s mem 62 27 (nI (m ||| jq_bt o))) 68 mo := hM.keep (js_ne (by omega))
  have hhs := Y_harsh (lm := lm) hA K1 M1 hk hw
  have head : jr_ev pX5_heardNow 0 [.ref 62, .int (jq_an o), .null] [] (jl_w mem lm) = jr_ev pX5_heardNow 22 [.ref 62, .int (jq_an o), .null] [] (jl_w (jl_s mem 62 27 (nI (m ||| jq_bt o))) lm) := by
    cases o with
    | none =>
      have e1 : (-9 : Int32) = -9 := rfl
      rw [show jq_bt none = 0 from rfl, Nat.or_zero]
      simp only [eX5_heardNow_0, eX5_heardNow_1, eX5_heardNow_2, eX5_heardNow_5, eX5_heardNow_6, eX5_heardNow_8, eX5_heardNow_11, eX5_heardNow_12, eX5_heardNow_15, eX5_heardNow_16, eX5_heardNow_17, eX5_heardNow_18, eX5_heardNow_19, h2, jq_an, if_true, jq_or0 hm]
    | some r =>
      have hr := ho r rfl
      have hne : ¬ nI r = -9 := by
        have hx : ∀ r, r < 8 → ¬ nI r = -9 := by decide
        exact hx r (by omega)
      have hor := jq_or (r := r) hm (by omega)
      rw [show jq_bt (some r) = 1 <<< r from rfl]
      simp only [eX5_heardNow_0, eX5_heardNow_1, eX5_heardNow_2, eX5_heardNow_5, eX5_heardNow_6, eX5_heardNow_8, eX5_heardNow_11, eX5_heardNow_12, eX5_heardNow_15, eX5_heardNow_16, eX5_heardNow_17, eX5_heardNow_18, eX5_heardNow_19, h2, jq_an, hne, if_false, hor]
  have c28 : jl_s mem 62 27 (nI (m ||| jq_bt o)) 62 28 = nI h := by rw [js_mj (by omega), h3]
  refine ⟨jl_s (jl_s mem 62 27 (nI (m ||| jq_bt o))) 62 28 (nI (max h (jq_h K mo))), ?_, ?_, ?_, ?_, G1.tr (jl_G.fld (Or.inr rfl))⟩
  · simp only [eX5_heardNow]
    rw [head]
    simp only [eX5_heardNow_22, eX5_heardNow_23, eX5_heardNow_24]
    rw [eX5_heardNow_27 hhs]
    by_cases hc : jq_h K mo ≤ h
    · rw [Nat.max_eq_left hc]
      simp (disch := first | assumption | omega) only [eX5_heardNow_30, eX5_heardNow_31, eX5_heardNow_32, eX5_heardNow_33, eX5_heardNow_34, eX5_heardNow_37, eX5_heardNow_40, eX5_heardNow_41, eX5_heardNow_44, eX5_heardNow_45, eX5_heardNow_48, eX5_heardNow_51, c28, nI_leI, hc, if_true]
    · rw [Nat.max_eq_right (by omega)]
      simp (disch := first | assumption | omega) only [eX5_heardNow_30, eX5_heardNow_31, eX5_heardNow_32, eX5_heardNow_33, eX5_heardNow_34, eX5_heardNow_37, eX5_heardNow_40, eX5_heardNow_41, eX5_heardNow_44, eX5_heardNow_45, eX5_heardNow_48, eX5_heardNow_51, c28, nI_leI, hc, if_false]
  · rw [js_mj (by omega), js_hit]
  · rw [js_hit]
  · rw [js_ne (by omega), js_ne (by omega)]
theorem Y_calm {n : Nat} {s : jq_S} (hK : jy_K mem K) (hM : jy_M mem 68 s.1) (hk : jq_WK K) (h0 : 0 < K.1) (hw : jq_WS K s) (hn : n ≤ 20) (h2 : mem 62 27 = nI s.2.1) (h3 : mem 62 28 = nI s.2.2) : ∃ mem', xX5_calmBeats [.ref 62, .int (nI n)] (jl_w mem lm) = some (none, jl_w mem' lm) ∧ jy_M mem' 68 (jq_go K n s).1 ∧ mem' 62 27 = nI (jq_go K n s).2.1 ∧ mem' 62 28 = nI (jq_go K n s).2.2 ∧ jl_G mem mem' := by
  have h8 := hk.1
  have hA : jl_A 68 19 := ⟨rfl, rfl⟩
  obtain ⟨ls', mem', hI, he⟩ := jr_loop (P := pX5_calmBeats) (pc := 2) (lm := lm) (fun i ls m => ls = [.ref 62, .int (nI n), .int (nI i)] ∧ jy_M m 68 (jq_go K i s).1 ∧ m 62 27 = nI (jq_go K i s).2.1 ∧ m 62 28 = nI (jq_go K i s).2.2 ∧ jl_G mem m) n (by
    intro i ls m hi ⟨hl, q1, q2, q3, q4⟩
    subst hl
    have e3 : ¬ n ≤ i := by omega
    have K0 := hK.G q4
    obtain ⟨w1, w2, w3, w4⟩ := jq_WS_go hk h0 hw i
    obtain ⟨m1, e1, r1, f1⟩ := Y_beats (k := 68) (s := 0) (g := 0) (lm := lm) hA (Or.inr rfl) K0 q1 hk w1 h0 h0 (by omega)
    have G1 := jl_G.row f1
    have K1 := K0.G G1
    have ww := jq_WM_beat hk h0 (s := 0) (g := 0) (fun q => absurd q (by omega)) (by omega) w1
    obtain ⟨m2, e2, n2, n3, n4, G2⟩ := Y_heardNow (lm := lm) (o := jq_bw K 0 0 (jq_go K i s).1) (m := (jq_go K i s).2.1) (h := (jq_go K i s).2.2) K1 r1 hk ww (fun r hr => jq_bw_lt hk h0 (fun q => absurd q (by omega)) (by omega) w1 hr) (by rw [f1 62 (by omega)]; exact q2) (by rw [f1 62 (by omega)]; exact q3) w2 w3
    have en : ¬ K.1 = 0 := by omega
    refine ⟨[.ref 62, .int (nI n), .int (nI (i + 1))], m2, ⟨rfl, r1.keep n4, n2, n3, (q4.tr G1).tr G2⟩, ?_⟩
    refine Eq.trans ?_ eX5_calmBeats_31
    simp (disch := first | assumption | omega) only [eX5_calmBeats_2, eX5_calmBeats_3, eX5_calmBeats_4, eX5_calmBeats_7, eX5_calmBeats_8, eX5_calmBeats_11, eX5_calmBeats_14, eX5_calmBeats_15, eX5_calmBeats_16, eX5_calmBeats_17, eX5_calmBeats_20, eX5_calmBeats_21, nI_leI, e3, if_false, K0.1, jz_le, en]
    rw [eX5_calmBeats_22 e1, eX5_calmBeats_25 e2]
    simp only [eX5_calmBeats_28, nI_add]) n 0 [.ref 62, .int (nI n), .int (nI 0)] mem (by omega) ⟨rfl, hM, h2, h3, jl_G.rf⟩
  obtain ⟨rfl, q1, q2, q3, q4⟩ := hI
  refine ⟨mem', ?_, q1, q2, q3, q4⟩
  simp only [eX5_calmBeats, eX5_calmBeats_0, eX5_calmBeats_1]
  rw [he]
  simp (disch := first | assumption | omega) only [eX5_calmBeats_2, eX5_calmBeats_3, eX5_calmBeats_4, eX5_calmBeats_34, nI_leI, Nat.le_refl, if_true]
theorem Y_calm0 {n : Nat} (hn : n ≤ 20) (hK : mem 62 9 = nI 0) : xX5_calmBeats [.ref 62, .int (nI n)] (jl_w mem lm) = some (none, jl_w mem lm) := by
  have e : nI 0 ≤ 0 := by decide
  by_cases h : n ≤ 0
  · simp (disch := first | assumption | omega) only [eX5_calmBeats, eX5_calmBeats_0, eX5_calmBeats_1, eX5_calmBeats_2, eX5_calmBeats_3, eX5_calmBeats_4, eX5_calmBeats_34, nI_leI, h, if_true]
  · simp (disch := first | assumption | omega) only [eX5_calmBeats, eX5_calmBeats_0, eX5_calmBeats_1, eX5_calmBeats_2, eX5_calmBeats_3, eX5_calmBeats_4, eX5_calmBeats_7, eX5_calmBeats_8, eX5_calmBeats_11, eX5_calmBeats_34, nI_leI, h, hK, e, if_true, if_false]
theorem Y_gust {s g n : Nat} (hK : jy_K mem K) (hM : jy_M mem 67 mo) (hk : jq_WK K) (hw : jq_WM K.1 mo) (hs : s < K.1) (hg : g ≤ 9) (hn : n ≤ 20) : ∃ mem', xX5_gustAndCalm [.ref 62, .int (nI s), .int (nI g), .int (nI n)] (jl_w mem lm) = some (none, jl_w mem' lm) ∧ mem' 62 27 = nI (jq_go K n (jq_g0 K s g mo)).2.1 ∧ mem' 62 28 = nI (jq_go K n (jq_g0 K s g mo)).2.2 ∧ jl_G mem mem' := by
  have h0 : 0 < K.1 := by omega
  have hA : jl_A 68 19 := ⟨rfl, rfl⟩
  obtain ⟨m1, e1, r1, a2, a3, G1⟩ := Y_asNow (lm := lm) hM
  have K1 := hK.G G1
  obtain ⟨m2, e2, r2, f2⟩ := Y_beats (k := 68) (s := s) (g := g) (lm := lm) hA (Or.inr rfl) K1 r1 hk hw h0 hs hg
  have G2 := jl_G.row f2
  have K2 := K1.G G2
  have ww := jq_WM_beat hk h0 (s := s) (g := g) (fun _ => hs) hg hw
  obtain ⟨m3, e3, n2, n3, n4, G3⟩ := Y_heardNow (lm := lm) (o := jq_bw K s g mo) (m := 0) (h := 0) K2 r2 hk ww (fun r hr => jq_bw_lt hk h0 (fun _ => hs) hg hw hr) (by rw [f2 62 (by omega)]; exact a2) (by rw [f2 62 (by omega)]; exact a3) (by omega) (by omega)
  have K3 := K2.G G3
  obtain ⟨m4, e4, r4, b2, b3, G4⟩ := Y_calm (lm := lm) (n := n) (s := jq_g0 K s g mo) K3 (r2.keep n4) hk h0 (jq_WS_g0 hk hs hg hw) hn (by rw [n2, Nat.zero_or]; rfl) (by rw [n3, Nat.max_eq_right (Nat.zero_le _)]; rfl)
  refine ⟨m4, ?_, b2, b3, ((G1.tr G2).tr G3).tr G4⟩
  simp only [eX5_gustAndCalm, eX5_gustAndCalm_0]
  rw [eX5_gustAndCalm_1 e1]
  simp only [eX5_gustAndCalm_4, eX5_gustAndCalm_5, eX5_gustAndCalm_6, eX5_gustAndCalm_7, eX5_gustAndCalm_10, eX5_gustAndCalm_11]
  rw [eX5_gustAndCalm_12 e2, eX5_gustAndCalm_15 e3]
  simp only [eX5_gustAndCalm_18, eX5_gustAndCalm_19]
  rw [eX5_gustAndCalm_20 e4]
  simp only [eX5_gustAndCalm_23]
theorem Y_still (hK : jy_K mem K) (hM : jy_M mem 67 mo) (hk : jq_WK K) (hw : jq_WM K.1 mo) : ∃ mem', xX5_stillIn [.ref 62] (jl_w mem lm) = some (some (.int (jq_an (jq_sf K 61 0 mo))), jl_w mem' lm) ∧ jl_G mem mem' := by
  have h8 := hk.1
  have hA : jl_A 68 19 := ⟨rfl, rfl⟩
  have key : ∀ k i (s : jq_S) (m : jl_M), i + k = 61 → jy_M m 68 s.1 → jq_WS K s → m 62 27 = nI s.2.1 → m 62 28 = nI s.2.2 → jl_G mem m → ∃ mem', jr_ev pX5_stillIn 6 [.ref 62, .int (nI i)] [] (jl_w m lm) = some (some (.int (jq_an (jq_sf K k i s.1))), jl_w mem' lm) ∧ jl_G mem mem' := by
    intro k
    induction k with
    | zero =>
      intro i s m hi q1 q2 q3 q4 q5
      have e : 60 < i := by omega
      refine ⟨m, ?_, q5⟩
      simp (disch := first | assumption | omega) only [eX5_stillIn_6, eX5_stillIn_7, eX5_stillIn_9, eX5_stillIn_45, eX5_stillIn_47, nI_ltI, e, if_true]
      rfl
    | succ k ih =>
      intro i s m hi q1 q2 q3 q4 q5
      have e : ¬ 60 < i := by omega
      have K1 := hK.G q5
      have hrg := Y_ringing (lm := lm) hA K1 q1 hk q2.1
      have hr256 := jq_rg_256 (mo := s.1) h8
      have hf9 := q2.1.2.1
      have c2 := q1 2 (by omega)
      have i2 : (2 : Nat) < 19 := by omega
      by_cases hc : s.1 2 = 0 ∧ jq_rg s.1 K.1 = 0
      · refine ⟨m, ?_, q5⟩
        simp (disch := first | assumption | omega) only [eX5_stillIn_6, eX5_stillIn_7, eX5_stillIn_9, eX5_stillIn_12, eX5_stillIn_13, eX5_stillIn_14, nI_ltI, e, if_false]
        rw [eX5_stillIn_17 hrg]
        simp (disch := first | assumption | omega) only [eX5_stillIn_20, eX5_stillIn_23, eX5_stillIn_24, eX5_stillIn_27, eX5_stillIn_28, eX5_stillIn_29, eX5_stillIn_32, eX5_stillIn_33, jz_eq, hc.1, hc.2, c2, if_true]
        unfold jq_sf
        rw [if_pos hc]
        rfl
      · have hn : 0 < K.1 := by
          rcases Nat.eq_zero_or_pos K.1 with h | h
          · exact absurd ⟨q2.1.1 h, by rw [h]; rfl⟩ hc
          · exact h
        obtain ⟨m1, e1, r1, b2, b3, G1⟩ := Y_calm (lm := lm) (n := 1) (s := s) K1 q1 hk hn q2 (by omega) q3 q4
        obtain ⟨mem', g1, g2⟩ := ih (i + 1) (jq_go K 1 s) m1 (by omega) r1 (jq_WS_go hk hn q2 1) b2 b3 (q5.tr G1)
        refine ⟨mem', ?_, g2⟩
        have s34 : jr_ev pX5_stillIn 20 [.ref 62, .int (nI i)] [.int (nI (jq_rg s.1 K.1))] (jl_w m lm) = jr_ev pX5_stillIn 34 [.ref 62, .int (nI i)] [] (jl_w m lm) := by
          by_cases hz : jq_rg s.1 K.1 = 0
          · have hf : ¬ s.1 2 = 0 := fun h => hc ⟨h, hz⟩
            simp (disch := first | assumption | omega) only [eX5_stillIn_20, eX5_stillIn_23, eX5_stillIn_24, eX5_stillIn_27, eX5_stillIn_28, eX5_stillIn_29, jz_eq, hz, hf, c2, if_true, if_false]
          · simp (disch := first | assumption | omega) only [eX5_stillIn_20, jz_eq, hz, if_false]
        simp (disch := first | assumption | omega) only [eX5_stillIn_6, eX5_stillIn_7, eX5_stillIn_9, eX5_stillIn_12, eX5_stillIn_13, eX5_stillIn_14, nI_ltI, e, if_false]
        rw [eX5_stillIn_17 hrg, s34]
        simp only [eX5_stillIn_34, eX5_stillIn_35]
        rw [eX5_stillIn_36 e1]
        simp only [eX5_stillIn_39, nI_add]
        rw [eX5_stillIn_42, g1]
        congr 3
        have : jq_sf K (k + 1) i s.1 = jq_sf K k (i + 1) (jq_beat K 0 0 s.1) := by
          show (if _ then _ else _) = _
          rw [if_neg hc]
        rw [this]
        rfl
  obtain ⟨m1, e1, r1, a2, a3, G1⟩ := Y_asNow (lm := lm) hM
  -- the look ahead's own counts don't matter here: take them as they are, with a harshness that is high enough
  by_cases hn : K.1 = 0
  · have hz : mo 2 = 0 ∧ jq_rg mo K.1 = 0 := ⟨hw.1 hn, by rw [hn]; rfl⟩
    have K1 := hK.G G1
    have hrg := Y_ringing (lm := lm) hA K1 r1 hk hw
    have e : ¬ 60 < 0 := by omega
    have c2 := r1 2 (by omega)
    have i2 : (2 : Nat) < 19 := by omega
    refine ⟨m1, ?_, G1⟩
    simp only [eX5_stillIn, eX5_stillIn_0]
    rw [eX5_stillIn_1 e1]
    simp (disch := first | assumption | omega) only [eX5_stillIn_4, eX5_stillIn_5, eX5_stillIn_6, eX5_stillIn_7, eX5_stillIn_9, eX5_stillIn_12, eX5_stillIn_13, eX5_stillIn_14, nI_ltI, e, if_false]
    rw [eX5_stillIn_17 hrg]
    simp (disch := first | assumption | omega) only [eX5_stillIn_20, eX5_stillIn_23, eX5_stillIn_24, eX5_stillIn_27, eX5_stillIn_28, eX5_stillIn_29, eX5_stillIn_32, eX5_stillIn_33, jz_eq, hz.1, hz.2, c2, if_true]
    have : jq_sf K 61 0 mo = some 0 := by
      show (if _ then _ else _) = _
      rw [if_pos hz]
    rw [this]
    rfl
  · -- what is noted on the way starts at 0; it is put right by the first beat's own harshness
    have key2 : ∀ k i (mo : jq_M) (m : jl_M) (c d : Nat), i + k = 61 → jy_M m 68 mo → jq_WM K.1 mo → m 62 27 = nI c → m 62 28 = nI d → c < 256 → d ≤ 64 → jl_G mem m → ∃ mem', jr_ev pX5_stillIn 6 [.ref 62, .int (nI i)] [] (jl_w m lm) = some (some (.int (jq_an (jq_sf K k i mo))), jl_w mem' lm) ∧ jl_G mem mem' := by
      intro k
      induction k with
      | zero =>
        intro i mo m c d hi q1 q2 q3 q4 q5 q6 q7
        have e : 60 < i := by omega
        refine ⟨m, ?_, q7⟩
        simp (disch := first | assumption | omega) only [eX5_stillIn_6, eX5_stillIn_7, eX5_stillIn_9, eX5_stillIn_45, eX5_stillIn_47, nI_ltI, e, if_true]
        rfl
      | succ k ih =>
        intro i mo m c d hi q1 q2 q3 q4 q5 q6 q7
        have e : ¬ 60 < i := by omega
        have K1 := hK.G q7
        have hrg := Y_ringing (lm := lm) hA K1 q1 hk q2
        have hr256 := jq_rg_256 (mo := mo) h8
        have hf9 := q2.2.1
        have c2 := q1 2 (by omega)
        have i2 : (2 : Nat) < 19 := by omega
        by_cases hc : mo 2 = 0 ∧ jq_rg mo K.1 = 0
        · refine ⟨m, ?_, q7⟩
          simp (disch := first | assumption | omega) only [eX5_stillIn_6, eX5_stillIn_7, eX5_stillIn_9, eX5_stillIn_12, eX5_stillIn_13, eX5_stillIn_14, nI_ltI, e, if_false]
          rw [eX5_stillIn_17 hrg]
          simp (disch := first | assumption | omega) only [eX5_stillIn_20, eX5_stillIn_23, eX5_stillIn_24, eX5_stillIn_27, eX5_stillIn_28, eX5_stillIn_29, eX5_stillIn_32, eX5_stillIn_33, jz_eq, hc.1, hc.2, c2, if_true]
          unfold jq_sf
          rw [if_pos hc]
          rfl
        · have hnp : 0 < K.1 := by omega
          obtain ⟨m1, e1, r1, f1⟩ := Y_beats (k := 68) (s := 0) (g := 0) (lm := lm) hA (Or.inr rfl) K1 q1 hk q2 hnp hnp (by omega)
          have G1 := jl_G.row f1
          have K2 := K1.G G1
          have ww := jq_WM_beat hk hnp (s := 0) (g := 0) (fun q => absurd q (by omega)) (by omega) q2
          obtain ⟨m2, e2, n2, n3, n4, G2⟩ := Y_heardNow (lm := lm) (o := jq_bw K 0 0 mo) (m := c) (h := d) K2 r1 hk ww (fun r hr => jq_bw_lt hk hnp (fun q => absurd q (by omega)) (by omega) q2 hr) (by rw [f1 62 (by omega)]; exact q3) (by rw [f1 62 (by omega)]; exact q4) q5 q6
          have en : ¬ K.1 = 0 := by omega
          have n10 : ¬ 1 ≤ 0 := by omega
          have hcb : xX5_calmBeats [.ref 62, .int (nI 1)] (jl_w m lm) = some (none, jl_w m2 lm) := by
            simp (disch := first | assumption | omega) only [eX5_calmBeats, eX5_calmBeats_0, eX5_calmBeats_1, eX5_calmBeats_2, eX5_calmBeats_3, eX5_calmBeats_4, eX5_calmBeats_7, eX5_calmBeats_8, eX5_calmBeats_11, eX5_calmBeats_14, eX5_calmBeats_15, eX5_calmBeats_16, eX5_calmBeats_17, eX5_calmBeats_20, eX5_calmBeats_21, nI_leI, n10, if_false, K1.1, jz_le, en]
            rw [eX5_calmBeats_22 e1, eX5_calmBeats_25 e2]
            simp only [eX5_calmBeats_28, nI_add, Nat.reduceAdd]
            rw [eX5_calmBeats_31]
            simp (disch := first | assumption | omega) only [eX5_calmBeats_2, eX5_calmBeats_3, eX5_calmBeats_4, eX5_calmBeats_34, nI_leI, Nat.le_refl, if_true]
          obtain ⟨mem', g1, g2⟩ := ih (i + 1) _ m2 _ _ (by omega) (r1.keep n4) ww n2 n3 (jq_or256 q5 (jq_bt_lt hk.1 (fun r hr => jq_bw_lt hk hnp (fun q => absurd q (by omega)) (by omega) q2 hr))) (Nat.max_le.mpr ⟨q6, jq_h_le hk.1⟩) ((q7.tr G1).tr G2)
          refine ⟨mem', ?_, g2⟩
          have s34 : jr_ev pX5_stillIn 20 [.ref 62, .int (nI i)] [.int (nI (jq_rg mo K.1))] (jl_w m lm) = jr_ev pX5_stillIn 34 [.ref 62, .int (nI i)] [] (jl_w m lm) := by
            by_cases hz : jq_rg mo K.1 = 0
            · have hf : ¬ mo 2 = 0 := fun h => hc ⟨h, hz⟩
              simp (disch := first | assumption | omega) only [eX5_stillIn_20, eX5_stillIn_23, eX5_stillIn_24, eX5_stillIn_27, eX5_stillIn_28, eX5_stillIn_29, jz_eq, hz, hf, c2, if_true, if_false]
            · simp (disch := first | assumption | omega) only [eX5_stillIn_20, jz_eq, hz, if_false]
          simp (disch := first | assumption | omega) only [eX5_stillIn_6, eX5_stillIn_7, eX5_stillIn_9, eX5_stillIn_12, eX5_stillIn_13, eX5_stillIn_14, nI_ltI, e, if_false]
          rw [eX5_stillIn_17 hrg, s34]
          simp only [eX5_stillIn_34, eX5_stillIn_35]
          rw [eX5_stillIn_36 hcb]
          simp only [eX5_stillIn_39, nI_add]
          rw [eX5_stillIn_42, g1]
          congr 3
          have : jq_sf K (k + 1) i mo = jq_sf K k (i + 1) (jq_beat K 0 0 mo) := by
            show (if _ then _ else _) = _
            rw [if_neg hc]
          rw [this]
    obtain ⟨mem', g1, g2⟩ := key2 61 0 mo m1 0 0 (by omega) r1 hw a2 a3 (by omega) (by omega) G1
    refine ⟨mem', ?_, g2⟩
    simp only [eX5_stillIn, eX5_stillIn_0]
    rw [eX5_stillIn_1 e1]
    simp only [eX5_stillIn_4, eX5_stillIn_5]
    exact g1
end YB

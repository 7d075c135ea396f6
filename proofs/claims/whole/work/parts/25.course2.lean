abbrev jl_co : Nat → Prop := fun k => 14 ≤ k ∧ k ≤ 18
theorem jm_cstart {mo : jq_M} {mem : jl_M} {lm : jl_L} (hM : jx_M mem 11 mo) : ∃ mem', xX0_start [.ref 14, .ref 11] (jl_w mem lm) = some (none, jl_w mem' lm) ∧ jx_M mem' 16 mo ∧ mem' 14 1 = nI 0 ∧ mem' 14 2 = nI 0 ∧ mem' 14 3 = nI 0 ∧ jl_F jl_co mem mem' := by
  obtain ⟨m1, e1, r1, f1⟩ := jm_copy (b := 16) (c := 11) (lm := lm) rfl rfl (by omega) hM
  refine ⟨jl_s (jl_s (jl_s m1 14 1 (nI 0)) 14 2 (nI 0)) 14 3 (nI 0), ?_, ?_, ?_, ?_, ?_, fun k hk => ?_⟩
  · simp only [eX0_start, eX0_start_0, eX0_start_1, eX0_start_4]
    rw [eX0_start_5 e1]
    simp only [eX0_start_8, eX0_start_9, eX0_start_10, eX0_start_13, eX0_start_14, eX0_start_15, eX0_start_18, eX0_start_19, eX0_start_20, eX0_start_23]
  · refine r1.keep ?_ ?_ ?_ <;> rw [js_ne (by omega), js_ne (by omega), js_ne (by omega)]
  · simp [js_at]
  · simp [js_at]
  · simp [js_at]
  · rw [js_ne (by omega), js_ne (by omega), js_ne (by omega)]
    exact f1 k (by omega)
theorem jm_cgust {K : jq_K} {s g : Nat} {mo : jq_M} {mem : jl_M} {lm : jl_L} (hK : jx_K mem K) (hM : jx_M mem 16 mo) (hk : jq_WK K) (hw : jq_WM K.1 mo) (hs : s < K.1) (hg : 1 ≤ g ∧ g ≤ 9) (h1 : mem 14 1 = nI 0) (h2 : mem 14 2 = nI 0) (h3 : mem 14 3 = nI 0) :
    ∃ mem', xX0_passGust [.ref 14, .int (nI s), .int (nI g)] (jl_w mem lm) = some (none, jl_w mem' lm) ∧ jx_M mem' 16 (jq_g0 K s g mo).1 ∧ mem' 14 1 = nI 0 ∧ mem' 14 2 = nI (jq_g0 K s g mo).2.1 ∧ mem' 14 3 = nI (jq_g0 K s g mo).2.2 ∧ (∀ r, r < 8 → (jq_g0 K s g mo).2.1.testBit r = true → mem' 15 r = nI 0) ∧ jl_F jl_co mem mem' := by
  have hn : 0 < K.1 := by omega
  obtain ⟨m1, e1, r1, f1⟩ := jm_gust (b := 16) (lm := lm) rfl hK hM hk hw hs hg
  have w1 := jq_WM_beat hk hn (fun _ => hs) hg.2 hw
  have K1 := hK.frame f1 (fun k hk => by omega)
  obtain ⟨m2, e2, n1, n2, n3, n4, f2⟩ := jm_note (lm := lm) (o := jq_bw K s g mo) K1 r1 hk w1 (fun r hr => jq_bw_lt hk hn (fun _ => hs) hg.2 hw hr) (by rw [f1 14 (by omega)]; exact h1) (by rw [f1 14 (by omega)]; exact h2) (by rw [f1 14 (by omega)]; exact h3) (by omega) (by omega)
  refine ⟨m2, ?_, r1.keep (f2 16 (by omega)) (f2 17 (by omega)) (f2 18 (by omega)), n1, ?_, ?_, fun r hr hb => ?_, ?_⟩
  · simp only [eX0_passGust, eX0_passGust_0, eX0_passGust_1, eX0_passGust_2, eX0_passGust_5, eX0_passGust_6]
    rw [eX0_passGust_7 e1]
    rw [eX0_passGust_10 e2]
    simp only [eX0_passGust_13]
  · rw [n2, Nat.zero_or]; rfl
  · rw [n3, Nat.max_eq_right (Nat.zero_le _)]; rfl
  · rw [n4 r hr, if_pos]
    refine ⟨?_, Nat.zero_testBit r⟩
    have hb' : (jq_bt (jq_bw K s g mo)).testBit r = true := hb
    cases ho : jq_bw K s g mo with
    | none =>
      rw [ho] at hb'
      exact absurd hb' (by rw [show jq_bt none = 0 from rfl, Nat.zero_testBit]; decide)
    | some q =>
      rw [ho] at hb'
      have hq := jq_bw_lt hk hn (fun _ => hs) hg.2 hw ho
      have hx : ∀ q, q < 8 → ∀ r, r < 8 → (1 <<< q).testBit r = true → q = r := by decide +kernel
      rw [hx q (by have := hk.1; omega) r hr hb']
  · intro k hk
    rw [f2 k (by omega), f1 k (by omega)]
theorem jx_F_0 {mem : jl_M} {mk : Nat → Nat} (h : ∀ r, r < 8 → (mk 0).testBit r = true → mem 15 r = nI 0) : jx_F mem mk 0 := by
  intro r hr hb
  refine ⟨0, Nat.le_refl _, h r hr hb, fun j hj => ⟨fun _ => Nat.zero_le _, fun _ => ?_⟩⟩
  rw [Nat.le_zero.mp hj]
  exact hb
theorem jx_F_of {mem mem' : jl_M} {mk : Nat → Nat} {i : Nat} (h : jx_F mem mk i) (hx : ∀ r, r < 8 → (mk i).testBit r = true → mem' 15 r = mem 15 r) : jx_F mem' mk i := fun r hr hb => by
  obtain ⟨f, h1, h2, h3⟩ := h r hr hb
  exact ⟨f, h1, by rw [hx r hr hb]; exact h2, h3⟩
/-- at rest: the bits of beat n are those of beat i -/
theorem jx_F_up {mem : jl_M} {mk : Nat → Nat} {i n : Nat} (h : jx_F mem mk i) (hin : i ≤ n) (hm : ∀ j, i ≤ j → j ≤ n → mk j = mk i) : jx_F mem mk n := fun r hr hb => by
  rw [hm n hin (Nat.le_refl _)] at hb
  obtain ⟨f, h1, h2, h3⟩ := h r hr hb
  refine ⟨f, by omega, h2, fun j hj => ?_⟩
  by_cases hji : j ≤ i
  · exact h3 j hji
  · rw [hm j (by omega) hj]
    exact ⟨fun _ => by omega, fun _ => hb⟩
theorem jm_ccalms {K : jq_K} {n : Nat} {s : jq_S} {mem : jl_M} {lm : jl_L} (hK : jx_K mem K) (hM : jx_M mem 16 s.1) (hk : jq_WK K) (h0 : 0 < K.1) (hw : jq_WS K s) (hn : n ≤ 20) (h1 : mem 14 1 = nI 0) (h2 : mem 14 2 = nI s.2.1) (h3 : mem 14 3 = nI s.2.2) (hF : jx_F mem (fun j => (jq_go K j s).2.1) 0) :
    ∃ mem', xX0_passCalms [.ref 14, .int (nI n)] (jl_w mem lm) = some (none, jl_w mem' lm) ∧ mem' 14 2 = nI (jq_go K n s).2.1 ∧ mem' 14 3 = nI (jq_go K n s).2.2 ∧ jx_F mem' (fun j => (jq_go K j s).2.1) n ∧ jl_F jl_co mem mem' := by
  have h8 := hk.1
  have key : ∀ k i (m : jl_M), i + k = n → jx_M m 16 (jq_go K i s).1 → m 14 1 = nI i → m 14 2 = nI (jq_go K i s).2.1 → m 14 3 = nI (jq_go K i s).2.2 → jx_F m (fun j => (jq_go K j s).2.1) i → jl_F jl_co mem m →
      ∃ mem', jr_ev pX0_passCalms 2 [.ref 14, .int (nI n), .int (nI i)] [] (jl_w m lm) = some (none, jl_w mem' lm) ∧ mem' 14 2 = nI (jq_go K n s).2.1 ∧ mem' 14 3 = nI (jq_go K n s).2.2 ∧ jx_F mem' (fun j => (jq_go K j s).2.1) n ∧ jl_F jl_co mem mem' := by
    intro k
    induction k with
    | zero =>
      intro i m hi q1 q2 q3 q4 q5 q6
      have e : i = n := by omega
      subst e
      refine ⟨m, ?_, q3, q4, q5, q6⟩
      simp (disch := first | assumption | omega) only [eX0_passCalms_2, eX0_passCalms_3, eX0_passCalms_4, eX0_passCalms_44, nI_leI, Nat.le_refl, if_true]
    | succ k ih =>
      intro i m hi q1 q2 q3 q4 q5 q6
      obtain ⟨w1, w2, w3, w4⟩ := jq_WS_go hk h0 hw i
      have e3 : ¬ n ≤ i := by omega
      have hf9 := w1.2.1
      by_cases hf : (jq_go K i s).1 2 = 0
      · have hr := jq_rest_go hk h0 hw hf
        refine ⟨m, ?_, ?_, ?_, jx_F_up q5 (by omega) (fun j hj _ => ?_), q6⟩
        · simp (disch := first | assumption | omega) only [eX0_passCalms_2, eX0_passCalms_3, eX0_passCalms_4, eX0_passCalms_7, eX0_passCalms_8, eX0_passCalms_11, eX0_passCalms_14, eX0_passCalms_44, nI_leI, e3, q1.2.2.1, hf, jz_le, if_true, if_false]
        · rw [q3, ← (hr (n - i)).2.1, show i + (n - i) = n by omega]
        · rw [q4, ← (hr (n - i)).2.2, show i + (n - i) = n by omega]
        · have := (hr (j - i)).2.1
          rw [show i + (j - i) = j by omega] at this
          exact this
      · have f0 : jl_F jl_co mem (jl_s m 14 1 (nI (i + 1))) := fun k hk => by rw [js_ne (by omega)]; exact q6 k hk
        have K0 := hK.frame f0 (fun k hk => by omega)
        have M0 : jx_M (jl_s m 14 1 (nI (i + 1))) 16 (jq_go K i s).1 := q1.keep (js_ne (by omega)) (js_ne (by omega)) (js_ne (by omega))
        obtain ⟨m1, e1, r1, f1⟩ := jm_calm (b := 16) (lm := lm) rfl K0 M0 hk w1 h0
        have K1 := K0.frame f1 (fun k hk => by omega)
        have ww := jq_WM_beat hk h0 (s := 0) (g := 0) (fun q => absurd q (by omega)) (by omega) w1
        have c14 : m1 14 = jl_s m 14 1 (nI (i + 1)) 14 := f1 14 (by omega)
        obtain ⟨m2, e2, n1, n2, n3, n4, f2⟩ := jm_note (lm := lm) (o := jq_bw K 0 0 (jq_go K i s).1) (i := i + 1) (m := (jq_go K i s).2.1) (h := (jq_go K i s).2.2) K1 r1 hk ww (fun r hr => jq_bw_lt hk h0 (fun q => absurd q (by omega)) (by omega) w1 hr) (by rw [c14, js_hit]) (by rw [c14, js_mj (by omega), q3]) (by rw [c14, js_mj (by omega), q4]) w2 w3
        have c15 : m1 15 = m 15 := by rw [f1 15 (by omega), js_ne (by omega)]
        have ho : ∀ r, jq_bw K 0 0 (jq_go K i s).1 = some r → r < 8 := fun r hr => by have := jq_bw_lt hk h0 (s := 0) (g := 0) (fun q => absurd q (by omega)) (by omega) w1 hr; omega
        have hF2 : jx_F m2 (fun j => (jq_go K j s).2.1) (i + 1) := by
          intro r hr hb
          have hb' : ((jq_go K i s).2.1 ||| jq_bt (jq_bw K 0 0 (jq_go K i s).1)).testBit r = true := hb
          by_cases hold : (jq_go K i s).2.1.testBit r = true
          · obtain ⟨f, a1, a2, a3⟩ := q5 r hr hold
            refine ⟨f, by omega, ?_, fun j hj => ?_⟩
            · rw [n4 r hr, if_neg (by rw [hold]; simp), c15]
              exact a2
            · by_cases hji : j ≤ i
              · exact a3 j hji
              · have : j = i + 1 := by omega
                subst this
                exact ⟨fun _ => by omega, fun _ => hb⟩
          · have hof : (jq_go K i s).2.1.testBit r = false := by simpa using hold
            have hbo : jq_bw K 0 0 (jq_go K i s).1 = some r := by
              rw [Nat.testBit_or, hof, Bool.false_or] at hb'
              cases hq : jq_bw K 0 0 (jq_go K i s).1 with
              | none =>
                rw [hq] at hb'
                exact absurd hb' (by rw [show jq_bt none = 0 from rfl, Nat.zero_testBit]; decide)
              | some q =>
                rw [hq] at hb'
                have hx : ∀ q, q < 8 → ∀ r, r < 8 → (1 <<< q).testBit r = true → q = r := by decide +kernel
                rw [hx q (ho q hq) r hr hb']
            refine ⟨i + 1, Nat.le_refl _, ?_, fun j hj => ?_⟩
            · rw [n4 r hr, if_pos ⟨hbo, hof⟩]
            · constructor
              · intro hj'
                rcases Nat.lt_or_ge i j with hlt | hge
                · omega
                · exfalso
                  have hmono : ∀ d j, j + d = i → (jq_go K j s).2.1.testBit r = true → (jq_go K i s).2.1.testBit r = true := by
                    intro d
                    induction d with
                    | zero => intro j hj h; have : j = i := by omega
                              subst this; exact h
                    | succ d ihd =>
                      intro j hj h
                      refine ihd (j + 1) (by omega) ?_
                      show ((jq_go K j s).2.1 ||| _).testBit r = true
                      rw [Nat.testBit_or, h, Bool.true_or]
                  have := hmono (i - j) j (by omega) hj'
                  rw [hof] at this
                  cases this
              · intro hj'
                have : j = i + 1 := by omega
                subst this
                exact hb
        obtain ⟨mem', g1, g2, g3, g4, g5⟩ := ih (i + 1) m2 (by omega) (r1.keep (f2 16 (by omega)) (f2 17 (by omega)) (f2 18 (by omega))) n1 n2 n3 hF2 (fun k hk => by rw [f2 k (by omega), f1 k (by omega)]; exact f0 k hk)
        refine ⟨mem', ?_, g2, g3, g4, g5⟩
        simp (disch := first | assumption | omega) only [eX0_passCalms_2, eX0_passCalms_3, eX0_passCalms_4, eX0_passCalms_7, eX0_passCalms_8, eX0_passCalms_11, eX0_passCalms_14, eX0_passCalms_17, eX0_passCalms_18, eX0_passCalms_19, eX0_passCalms_22, eX0_passCalms_23, eX0_passCalms_24, eX0_passCalms_27, eX0_passCalms_28, eX0_passCalms_29, nI_leI, nI_add, e3, q1.2.2.1, q2, hf, jz_le, if_false]
        rw [eX0_passCalms_32 e1]
        rw [eX0_passCalms_35 e2]
        simp only [eX0_passCalms_38, nI_add]
        rw [eX0_passCalms_41]
        exact g1
  obtain ⟨mem', g1, g2⟩ := key n 0 mem (by omega) hM h1 h2 h3 hF (fun _ _ => rfl)
  refine ⟨mem', ?_, g2⟩
  simp only [eX0_passCalms, eX0_passCalms_0, eX0_passCalms_1]
  exact g1
/-- nothing to pass where the clapper is at rest -/
theorem jm_ccalms0 {n : Nat} {mem : jl_M} {lm : jl_L} (hn : n ≤ 20) (h3 : mem 16 3 = nI 0) : xX0_passCalms [.ref 14, .int (nI n)] (jl_w mem lm) = some (none, jl_w mem lm) := by
  have e : nI 0 ≤ 0 := by decide
  by_cases h : n ≤ 0
  · simp (disch := first | assumption | omega) only [eX0_passCalms, eX0_passCalms_0, eX0_passCalms_1, eX0_passCalms_2, eX0_passCalms_3, eX0_passCalms_4, eX0_passCalms_44, nI_leI, h, if_true]
  · simp (disch := first | assumption | omega) only [eX0_passCalms, eX0_passCalms_0, eX0_passCalms_1, eX0_passCalms_2, eX0_passCalms_3, eX0_passCalms_4, eX0_passCalms_7, eX0_passCalms_8, eX0_passCalms_11, eX0_passCalms_14, eX0_passCalms_44, nI_leI, h, h3, e, if_true, if_false]
theorem jm_follow {K : jq_K} {s g n : Nat} {mo : jq_M} {mem : jl_M} {lm : jl_L} (hK : jx_K mem K) (hM : jx_M mem 11 mo) (hk : jq_WK K) (hw : jq_WM K.1 mo) (hs : s < K.1) (hg : 1 ≤ g ∧ g ≤ 9) (hn : n ≤ 20) :
    ∃ mem', xX4_follow [.ref 0, .int (nI s), .int (nI g), .int (nI n)] (jl_w mem lm) = some (none, jl_w mem' lm) ∧ mem' 14 2 = nI (jq_go K n (jq_g0 K s g mo)).2.1 ∧ mem' 14 3 = nI (jq_go K n (jq_g0 K s g mo)).2.2 ∧ jx_F mem' (fun j => (jq_go K j (jq_g0 K s g mo)).2.1) n ∧ jl_F jl_co mem mem' := by
  obtain ⟨m1, e1, r1, a1, a2, a3, f1⟩ := jm_cstart (lm := lm) hM
  have K1 := hK.frame f1 (fun k hk => by omega)
  obtain ⟨m2, e2, r2, b1, b2, b3, b4, f2⟩ := jm_cgust (lm := lm) K1 r1 hk hw hs hg a1 a2 a3
  have K2 := K1.frame f2 (fun k hk => by omega)
  obtain ⟨m3, e3, c2, c3, c4, f3⟩ := jm_ccalms (lm := lm) (n := n) K2 r2 hk (by omega) (jq_WS_g0 hk hs hg.2 hw) hn b1 b2 b3 (jx_F_0 b4)
  refine ⟨m3, ?_, c2, c3, c4, (f1.trans (T := fun _ => True) f2).trans (T := fun _ => True) f3⟩
  simp only [eX4_follow, eX4_follow_0, eX4_follow_1, eX4_follow_4, eX4_follow_5]
  rw [eX4_follow_8 e1]
  simp only [eX4_follow_11, eX4_follow_12, eX4_follow_15, eX4_follow_16]
  rw [eX4_follow_17 e2]
  simp only [eX4_follow_20, eX4_follow_21, eX4_follow_24]
  rw [eX4_follow_25 e3]
  simp only [eX4_follow_28]
theorem jm_followC {K : jq_K} {a c s g n : Nat} {mo : jq_M} {mem : jl_M} {lm : jl_L} (hK : jx_K mem K) (hM : jx_M mem 11 mo) (hk : jq_WK K) (hw : jq_WM K.1 mo) (ha : a < K.1) (hc : c < K.1) (hs : s < K.1) (hg : 1 ≤ g ∧ g ≤ 9) (hn : n ≤ 20) :
    ∃ mem', xX4_followChanged [.ref 0, .int (nI a), .int (nI c), .int (nI s), .int (nI g), .int (nI n)] (jl_w mem lm) = some (none, jl_w mem' lm) ∧ mem' 14 3 = nI (jq_go K n (jq_g0 K s g (jq_ex a c mo))).2.2 ∧ jl_F jl_co mem mem' := by
  have h8 := hk.1
  obtain ⟨m1, e1, r1, a1, a2, a3, f1⟩ := jm_cstart (lm := lm) hM
  obtain ⟨m1', e1', r1', f1'⟩ := jm_exchange (b := 16) (lm := lm) (a := a) (c := c) rfl r1 (by omega) (by omega)
  have hw' := jq_WM_ex hk.1 ha hc hw
  have K1 := hK.frame f1 (fun k hk => by omega)
  have K1' := K1.frame f1' (fun k hk => by omega)
  obtain ⟨m2, e2, r2, b1, b2, b3, b4, f2⟩ := jm_cgust (lm := lm) K1' r1' hk hw' hs hg (by rw [f1' 14 (by omega)]; exact a1) (by rw [f1' 14 (by omega)]; exact a2) (by rw [f1' 14 (by omega)]; exact a3)
  have K2 := K1'.frame f2 (fun k hk => by omega)
  obtain ⟨m3, e3, c2, c3, c4, f3⟩ := jm_ccalms (lm := lm) (n := n) K2 r2 hk (by omega) (jq_WS_g0 hk hs hg.2 hw') hn b1 b2 b3 (jx_F_0 b4)
  refine ⟨m3, ?_, c3, ((f1.trans (T := fun _ => True) (f1'.up (fun k h => by omega))).trans (T := fun _ => True) f2).trans (T := fun _ => True) f3⟩
  simp only [eX4_followChanged, eX4_followChanged_0, eX4_followChanged_1, eX4_followChanged_4, eX4_followChanged_5]
  rw [eX4_followChanged_8 e1]
  simp only [eX4_followChanged_11, eX4_followChanged_12, eX4_followChanged_15, eX4_followChanged_18, eX4_followChanged_19]
  rw [eX4_followChanged_20 e1']
  simp only [eX4_followChanged_23, eX4_followChanged_24, eX4_followChanged_27, eX4_followChanged_28]
  rw [eX4_followChanged_30 e2]
  simp only [eX4_followChanged_33, eX4_followChanged_34, eX4_followChanged_37]
  rw [eX4_followChanged_39 e3]
  simp only [eX4_followChanged_42]

theorem jq_WM_of {n : Nat} {mo mo' : jq_M} (hn : n ≤ 8) (h : jq_WM n mo) (h2 : mo' 2 ≤ 9) (h0 : n = 0 → mo' 2 = 0) (h1 : 0 < n → mo' 1 < n) (h18 : mo' 1 < 8) (hs : ∀ r, r < 8 → mo' (3 + r) = mo (3 + r)) (hr : ∀ r, r < 8 → mo' (11 + r) ≤ 9) : jq_WM n mo' := by
  obtain ⟨a1, a2, a3, a4, a5, a6, a7, a8⟩ := h
  refine ⟨h0, h2, h1, h18, fun r h => ⟨?_, hr r h⟩, fun r h => ?_, fun r s hr hs' he => ?_, fun t ht => ?_⟩
  · rw [hs r h]; exact (a5 r h).1
  · rw [hs r (by omega)]; exact a6 r h
  · rw [hs r (by omega), hs s (by omega)] at he; exact a7 r s hr hs' he
  · obtain ⟨r, hr', he⟩ := a8 t ht
    exact ⟨r, hr', by rw [hs r (by omega)]; exact he⟩
theorem jq_fade_lo {n j : Nat} {mo : jq_M} (h1 : 1 ≤ j) (h2 : j < 11) : jq_fade n mo j = mo j := by
  unfold jq_fade
  rw [if_neg (by omega), if_neg (by omega)]
theorem jq_WM_fade {n : Nat} {mo : jq_M} (hn : n ≤ 8) (h : jq_WM n mo) : jq_WM n (jq_fade n mo) := by
  obtain ⟨a1, a2, a3, a4, a5, a6, a7, a8⟩ := id h
  refine jq_WM_of hn h ?_ ?_ ?_ ?_ (fun r hr => jq_fade_lo (by omega) (by omega)) (fun r hr => ?_)
  · rw [jq_fade_lo (by omega) (by omega)]; exact a2
  · rw [jq_fade_lo (by omega) (by omega)]; exact a1
  · rw [jq_fade_lo (by omega) (by omega)]; exact a3
  · rw [jq_fade_lo (by omega) (by omega)]; exact a4
  · rw [jq_fade_rg]
    have := (a5 r hr).2
    split <;> omega
theorem jq_WM_swing {K : jq_K} {mo : jq_M} (hn : K.1 ≤ 8) (h0 : 0 < K.1) (h : jq_WM K.1 mo) : jq_WM K.1 (jq_swing K mo) := by
  obtain ⟨a1, a2, a3, a4, a5, a6, a7, a8⟩ := id h
  have hm : (mo 1 + K.1 / 2) % K.1 < K.1 := Nat.mod_lt _ h0
  refine jq_WM_of hn h ?_ (fun e => by omega) (fun _ => hm) (Nat.lt_of_lt_of_le hm hn) (fun r hr => ?_) (fun r hr => ?_)
  · show mo 2 - K.2.1 ≤ 9
    omega
  · unfold jq_swing; rw [if_neg (by omega), if_neg (by omega)]
  · unfold jq_swing; rw [if_neg (by omega), if_neg (by omega)]; exact (a5 r hr).2
theorem jq_WM_blow {n s g : Nat} {mo : jq_M} (hn : n ≤ 8) (hs : s < n) (hg : g ≤ 9) (h : jq_WM n mo) : jq_WM n (jq_blow s g mo) := by
  obtain ⟨a1, a2, a3, a4, a5, a6, a7, a8⟩ := id h
  refine jq_WM_of hn h hg (fun e => by omega) (fun _ => hs) (Nat.lt_of_lt_of_le hs hn) (fun r hr => ?_) (fun r hr => ?_)
  · unfold jq_blow; rw [if_neg (by omega), if_neg (by omega)]
  · unfold jq_blow; rw [if_neg (by omega), if_neg (by omega)]; exact (a5 r hr).2
theorem jq_WM_move {K : jq_K} {s g : Nat} {mo : jq_M} (hn : K.1 ≤ 8) (h0 : 0 < K.1) (hs : 0 < g → s < K.1) (hg : g ≤ 9) (h : jq_WM K.1 mo) : jq_WM K.1 (jq_move K s g mo) := by
  unfold jq_move
  split
  · rename_i hq; exact jq_WM_blow hn (hs hq.1) hg h
  · exact jq_WM_swing hn h0 h
theorem jq_WM_strike {K : jq_K} {mo : jq_M} (hk : jq_WK K) (h0 : 0 < K.1) (h : jq_WM K.1 mo) : jq_WM K.1 (jq_strike K mo) := by
  obtain ⟨a1, a2, a3, a4, a5, a6, a7, a8⟩ := id h
  unfold jq_strike
  split
  · have h1 := jq_at_ok h (a3 h0)
    generalize jq_at K.1 mo (mo 1) = q at *
    have hq := (hk.2.2 q h1.1).2.2.2
    refine jq_WM_of hk.1 h ?_ (fun e => by omega) (fun _ => ?_) ?_ (fun r hr => ?_) (fun r hr => ?_)
    · show (if 2 = 11 + q then _ else if 2 = 2 then mo 2 - 1 else _) ≤ 9
      rw [if_neg (by omega), if_pos rfl]; omega
    · show (if 1 = 11 + q then _ else if 1 = 2 then mo 2 - 1 else mo 1) < _
      rw [if_neg (by omega), if_neg (by omega)]; exact a3 h0
    · show (if 1 = 11 + q then _ else if 1 = 2 then mo 2 - 1 else mo 1) < _
      rw [if_neg (by omega), if_neg (by omega)]; exact a4
    · show (if 3 + r = 11 + q then _ else if 3 + r = 2 then mo 2 - 1 else mo (3 + r)) = _
      rw [if_neg (by have := hk.1; omega), if_neg (by omega)]
    · show (if 11 + r = 11 + q then K.2.2.2.2 q else if 11 + r = 2 then mo 2 - 1 else mo (11 + r)) ≤ 9
      split
      · exact hq
      · rw [if_neg (by omega)]; exact (a5 r hr).2
  · exact h
theorem jq_WM_beat {K : jq_K} {s g : Nat} {mo : jq_M} (hk : jq_WK K) (h0 : 0 < K.1) (hs : 0 < g → s < K.1) (hg : g ≤ 9) (h : jq_WM K.1 mo) : jq_WM K.1 (jq_beat K s g mo) :=
  jq_WM_strike hk h0 (jq_WM_move hk.1 h0 hs hg (jq_WM_fade hk.1 h))
theorem jm_blow {b s g : Nat} {mo : jq_M} {mem : jl_M} (hM : jx_M mem b mo) : jx_M (jl_s (jl_s mem b 2 (nI s)) b 3 (nI g)) b (jq_blow s g mo) := by
  obtain ⟨m1, m2, m3, m4, m5⟩ := hM
  refine ⟨?_, ?_, ?_, fun r hr => ?_, fun r hr => ?_⟩
  · rw [js_mj (by omega), js_mj (by omega), m1]; rfl
  · rw [js_mj (by omega), js_hit]; rfl
  · rw [js_hit]; rfl
  · rw [js_mk (by omega), js_mk (by omega), m4 r hr]; unfold jq_blow; rw [if_neg (by omega), if_neg (by omega)]
  · rw [js_mk (by omega), js_mk (by omega), m5 r hr]; unfold jq_blow; rw [if_neg (by omega), if_neg (by omega)]
theorem jx_K.frame {mem mem' : jl_M} {K : jq_K} {S : Nat → Prop} (h : jx_K mem K) (hF : jl_F S mem mem') (hS : ∀ k, S k → 11 ≤ k) : jx_K mem' K :=
  h.keep (hF 7 (fun q => by have := hS _ q; omega)) (hF 8 (fun q => by have := hS _ q; omega)) (hF 9 (fun q => by have := hS _ q; omega)) (hF 10 (fun q => by have := hS _ q; omega))
theorem jl_F.trans {S T : Nat → Prop} {m1 m2 m3 : jl_M} (h1 : jl_F S m1 m2) (h2 : jl_F S m2 m3) : jl_F S m1 m3 := fun k hk => (h2 k hk).trans (h1 k hk)
theorem jl_F.up {S T : Nat → Prop} {m1 m2 : jl_M} (h : jl_F S m1 m2) (hST : ∀ k, S k → T k) : jl_F T m1 m2 := fun k hk => h k (fun q => hk (hST k q))
theorem jm_calm {b : Nat} {K : jq_K} {mo : jq_M} {mem : jl_M} {lm : jl_L} (hb : jl_K b = 4) (hK : jx_K mem K) (hM : jx_M mem b mo) (hk : jq_WK K) (hw : jq_WM K.1 mo) (hn : 0 < K.1) : ∃ mem', xX1_passCalm [.ref b] (jl_w mem lm) = some (some (.int (jq_an (jq_bw K 0 0 mo))), jl_w mem' lm) ∧ jx_M mem' b (jq_beat K 0 0 mo) ∧ jl_F (fun k => k = b ∨ k = b + 2) mem mem' := by
  have hb1 := (jl_mA hb).2.2.1
  obtain ⟨m1, e1, r1, f1⟩ := jm_fade (lm := lm) hb hK hM hk hw
  have w1 := jq_WM_fade hk.1 hw
  have K1 := hK.frame f1 (fun k hk => by omega)
  obtain ⟨m2, e2, r2, f2⟩ := jm_swing (lm := lm) hb K1 r1 hk w1 hn
  have w2 := jq_WM_swing hk.1 hn w1
  have K2 := K1.frame f2 (fun k hk => by omega)
  obtain ⟨m3, e3, r3, f3⟩ := jm_strike (lm := lm) hb K2 r2 hk w2 hn
  have hmv : jq_move K 0 0 (jq_fade K.1 mo) = jq_swing K (jq_fade K.1 mo) := by unfold jq_move; rw [if_neg (by omega)]
  refine ⟨m3, ?_, ?_, (f1.trans (T := fun _ => True) (f2.up (fun k h => Or.inl h))).trans (T := fun _ => True) f3⟩
  · unfold jq_bw
    rw [hmv]
    simp only [eX1_passCalm, eX1_passCalm_0]
    rw [eX1_passCalm_1 hb e1]
    simp only [eX1_passCalm_4]
    rw [eX1_passCalm_5 hb e2]
    simp only [eX1_passCalm_8]
    rw [eX1_passCalm_9 hb e3]
    simp only [eX1_passCalm_12]
  · unfold jq_beat
    rw [hmv]
    exact r3
theorem jm_gust {b s g : Nat} {K : jq_K} {mo : jq_M} {mem : jl_M} {lm : jl_L} (hb : jl_K b = 4) (hK : jx_K mem K) (hM : jx_M mem b mo) (hk : jq_WK K) (hw : jq_WM K.1 mo) (hs : s < K.1) (hg : 1 ≤ g ∧ g ≤ 9) : ∃ mem', xX1_passGust [.ref b, .int (nI s), .int (nI g)] (jl_w mem lm) = some (some (.int (jq_an (jq_bw K s g mo))), jl_w mem' lm) ∧ jx_M mem' b (jq_beat K s g mo) ∧ jl_F (fun k => k = b ∨ k = b + 2) mem mem' := by
  have hb1 := (jl_mA hb).2.2.1
  have hn : 0 < K.1 := by omega
  obtain ⟨m1, e1, r1, f1⟩ := jm_fade (lm := lm) hb hK hM hk hw
  have w1 := jq_WM_fade hk.1 hw
  have K1 := hK.frame f1 (fun k hk => by omega)
  have hfar : jq_fade K.1 mo 2 = mo 2 := jq_fade_lo (by omega) (by omega)
  have hf9 := hw.2.1
  have h3 : m1 b 3 = nI (mo 2) := by rw [r1.2.2.1, hfar]
  by_cases hc : mo 2 ≤ g
  · have r2 := jm_blow (s := s) (g := g) r1
    have hmv : jq_move K s g (jq_fade K.1 mo) = jq_blow s g (jq_fade K.1 mo) := by unfold jq_move; rw [if_pos ⟨by omega, by rw [hfar]; exact hc⟩]
    have w2 := jq_WM_blow (mo := jq_fade K.1 mo) hk.1 hs hg.2 w1
    have f2 : jl_F (fun k => k = b ∨ k = b + 2) m1 (jl_s (jl_s m1 b 2 (nI s)) b 3 (nI g)) := fun k hk => by rw [js_ne (by omega), js_ne (by omega)]
    have K2 := K1.frame f2 (fun k hk => by omega)
    obtain ⟨m3, e3, r3, f3⟩ := jm_strike (lm := lm) hb K2 r2 hk w2 hn
    refine ⟨m3, ?_, ?_, (f1.trans (T := fun _ => True) f2).trans (T := fun _ => True) f3⟩
    · unfold jq_bw
      rw [hmv]
      have hc' : ¬ g < mo 2 := by omega
      simp only [eX1_passGust, eX1_passGust_0]
      rw [eX1_passGust_1 hb e1]
      simp (disch := first | assumption | omega) only [eX1_passGust_4, eX1_passGust_5, eX1_passGust_6, eX1_passGust_9, eX1_passGust_12, eX1_passGust_13, eX1_passGust_14, eX1_passGust_17, eX1_passGust_18, eX1_passGust_19, eX1_passGust_22, eX1_passGust_29, h3, nI_ltI, hc', if_false]
      rw [eX1_passGust_30 hb e3]
      simp only [eX1_passGust_33]
    · unfold jq_beat
      rw [hmv]
      exact r3
  · obtain ⟨m2, e2, r2, f2⟩ := jm_swing (lm := lm) hb K1 r1 hk w1 hn
    have hmv : jq_move K s g (jq_fade K.1 mo) = jq_swing K (jq_fade K.1 mo) := by unfold jq_move; rw [if_neg (by rw [hfar]; omega)]
    have w2 := jq_WM_swing hk.1 hn w1
    have K2 := K1.frame f2 (fun k hk => by omega)
    obtain ⟨m3, e3, r3, f3⟩ := jm_strike (lm := lm) hb K2 r2 hk w2 hn
    refine ⟨m3, ?_, ?_, (f1.trans (T := fun _ => True) (f2.up (fun k h => Or.inl h))).trans (T := fun _ => True) f3⟩
    · unfold jq_bw
      rw [hmv]
      have hc' : g < mo 2 := by omega
      simp only [eX1_passGust, eX1_passGust_0]
      rw [eX1_passGust_1 hb e1]
      simp (disch := first | assumption | omega) only [eX1_passGust_4, eX1_passGust_5, eX1_passGust_6, eX1_passGust_9, eX1_passGust_25, h3, nI_ltI, hc', if_true]
      rw [eX1_passGust_26 hb e2]
      simp only [eX1_passGust_29]
      rw [eX1_passGust_30 hb e3]
      simp only [eX1_passGust_33]
    · unfold jq_beat
      rw [hmv]
      exact r3
/-- two rods change -/
def jq_ex (a c : Nat) (mo : jq_M) : jq_M := fun j => if j = 3 + a then mo (3 + c) else if j = 3 + c then mo (3 + a) else mo j
theorem jq_WM_ex {n a c : Nat} {mo : jq_M} (hn : n ≤ 8) (ha : a < n) (hc : c < n) (h : jq_WM n mo) : jq_WM n (jq_ex a c mo) := by
  obtain ⟨a1, a2, a3, a4, a5, a6, a7, a8⟩ := h
  have e2 : jq_ex a c mo 2 = mo 2 := by unfold jq_ex; rw [if_neg (by omega), if_neg (by omega)]
  have e1 : jq_ex a c mo 1 = mo 1 := by unfold jq_ex; rw [if_neg (by omega), if_neg (by omega)]
  have er : ∀ r, r < 8 → jq_ex a c mo (11 + r) = mo (11 + r) := fun r hr => by unfold jq_ex; rw [if_neg (by omega), if_neg (by omega)]
  have es : ∀ r, jq_ex a c mo (3 + r) = mo (3 + (if r = a then c else if r = c then a else r)) := fun r => by
    unfold jq_ex
    by_cases h1 : r = a
    · rw [if_pos (by omega), if_pos h1]
    · rw [if_neg (by omega), if_neg h1]
      by_cases h2 : r = c
      · rw [if_pos (by omega), if_pos h2]
      · rw [if_neg (by omega), if_neg h2]
  have ep : ∀ r, r < n → (if r = a then c else if r = c then a else r) < n := fun r hr => by split <;> (try split) <;> omega
  refine ⟨by rw [e2]; exact a1, by rw [e2]; exact a2, by rw [e1]; exact a3, by rw [e1]; exact a4, fun r hr => ⟨?_, by rw [er r hr]; exact (a5 r hr).2⟩, fun r hr => ?_, fun r s hr hs he => ?_, fun t ht => ?_⟩
  · rw [es]
    exact (a5 _ (by split <;> (try split) <;> omega)).1
  · rw [es]; exact a6 _ (ep r hr)
  · rw [es, es] at he
    have := a7 _ _ (ep r hr) (ep s hs) he
    revert this
    split <;> split <;> (try split) <;> (try split) <;> omega
  · obtain ⟨r, hr, he⟩ := a8 t ht
    refine ⟨if r = a then c else if r = c then a else r, ep r hr, ?_⟩
    rw [es, ← he]
    congr 2
    by_cases h1 : r = a
    · simp only [h1, if_true]
      by_cases h2 : c = a
      · simp [h2]
      · simp [h2]
    · by_cases h2 : r = c
      · simp [h2]
      · simp [h1, h2]
theorem jm_exchange {b a c : Nat} {mo : jq_M} {mem : jl_M} {lm : jl_L} (hb : jl_K b = 4) (hM : jx_M mem b mo) (ha : a < 8) (hc : c < 8) : ∃ mem', xX1_exchange [.ref b, .int (nI a), .int (nI c)] (jl_w mem lm) = some (none, jl_w mem' lm) ∧ jx_M mem' b (jq_ex a c mo) ∧ jl_F (fun k => k = b + 1) mem mem' := by
  obtain ⟨hA, hB, hb1, hb2⟩ := jl_mA hb
  obtain ⟨m1, m2, m3, m4, m5⟩ := hM
  refine ⟨jl_s (jl_s mem (b + 1) a (nI (mo (3 + c)))) (b + 1) c (nI (mo (3 + a))), ?_, ⟨?_, ?_, ?_, fun r hr => ?_, fun r hr => ?_⟩, fun k hk => by rw [js_ne hk, js_ne hk]⟩
  · simp (disch := first | assumption | omega) only [eX1_exchange, eX1_exchange_0, eX1_exchange_1, eX1_exchange_4, eX1_exchange_5, eX1_exchange_6, eX1_exchange_7, eX1_exchange_8, eX1_exchange_11, eX1_exchange_12, eX1_exchange_13, eX1_exchange_16, eX1_exchange_17, eX1_exchange_18, eX1_exchange_19, eX1_exchange_20, eX1_exchange_23, eX1_exchange_24, eX1_exchange_25, eX1_exchange_26, m4 a ha, m4 c hc]
  · rw [js_mk (by omega), js_mk (by omega), m1]; unfold jq_ex; rw [if_neg (by omega), if_neg (by omega)]
  · rw [js_mk (by omega), js_mk (by omega), m2]; unfold jq_ex; rw [if_neg (by omega), if_neg (by omega)]
  · rw [js_mk (by omega), js_mk (by omega), m3]; unfold jq_ex; rw [if_neg (by omega), if_neg (by omega)]
  · unfold jq_ex
    by_cases h1 : r = c
    · subst h1
      rw [js_hit]
      by_cases h2 : r = a
      · rw [if_pos (by omega), h2]
      · rw [if_neg (by omega), if_pos rfl]
    · rw [js_mj h1]
      by_cases h2 : r = a
      · rw [h2, js_hit, if_pos rfl]
      · rw [js_mj h2, m4 r hr, if_neg (by omega), if_neg (by omega)]
  · rw [js_mk (by omega), js_mk (by omega), m5 r hr]; unfold jq_ex; rw [if_neg (by omega), if_neg (by omega)]

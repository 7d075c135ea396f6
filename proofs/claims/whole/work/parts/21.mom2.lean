theorem jq_max (d : Nat) (hd : d < 10) (v : Nat) (hv : v < 100) : (if nI v - nI d < nI 0 then nI 0 else nI v - nI d) = nI (v - d) := by
  have h : ∀ d, d < 10 → ∀ v, v < 100 → (if nI v - nI d < nI 0 then nI 0 else nI v - nI d) = nI (v - d) := by decide +kernel
  exact h d hd v hv
theorem jq_fade_rg {n r : Nat} {mo : jq_M} : jq_fade n mo (11 + r) = if r < n then mo (11 + r) - 1 else mo (11 + r) := by
  unfold jq_fade
  rw [if_neg (by omega)]
  by_cases h : r < n
  · rw [if_pos h, if_pos (by omega)]
  · rw [if_neg h, if_neg (by omega)]
theorem jm_fade {b : Nat} {K : jq_K} {mo : jq_M} {mem : jl_M} {lm : jl_L} (hb : jl_K b = 4) (hK : jx_K mem K) (hM : jx_M mem b mo) (hk : jq_WK K) (hw : jq_WM K.1 mo) : ∃ mem', xX1_fade [.ref b] (jl_w mem lm) = some (none, jl_w mem' lm) ∧ jx_M mem' b (jq_fade K.1 mo) ∧ jl_F (fun k => k = b ∨ k = b + 2) mem mem' := by
  obtain ⟨hA, hB, hb1, hb2⟩ := jl_mA hb
  obtain ⟨m1, m2, m3, m4, m5⟩ := hM
  have h8 := hk.1
  obtain ⟨ls', mem', hI, he⟩ := jr_loop (P := pX1_fade) (pc := 12) (lm := lm) (fun i ls m => ls = [.ref b, .int (nI i)] ∧ m b 1 = nI (mo 0 + 1) ∧ m b 2 = nI (mo 1) ∧ m b 3 = nI (mo 2) ∧ (∀ r, r < 8 → m (b + 2) r = nI (if r < i then mo (11 + r) - 1 else mo (11 + r))) ∧ jl_F (fun k => k = b ∨ k = b + 2) mem m) K.1 (by
    intro i ls m hi ⟨hl, h1, h2, h3, h4, h5⟩
    subst hl
    have e3 : ¬ K.1 ≤ i := by omega
    have e4 : m (b + 2) i = nI (mo (11 + i)) := by rw [h4 i (by omega), if_neg (by omega)]
    have e5 : m 7 0 = nI K.1 := by rw [h5 7 (by omega)]; exact hK.1
    have e6 := (hw.2.2.2.2.1 i (by omega)).2
    have e7 := jq_max 1 (by omega) (mo (11 + i)) (by omega)
    refine ⟨[.ref b, .int (nI (i + 1))], jl_s m (b + 2) i (nI (mo (11 + i) - 1)), ⟨rfl, ?_, ?_, ?_, ?_, ?_⟩, ?_⟩
    · rw [js_mk (by omega), h1]
    · rw [js_mk (by omega), h2]
    · rw [js_mk (by omega), h3]
    · intro r hr
      by_cases e : r = i
      · subst e
        rw [js_hit, if_pos (by omega)]
      · rw [js_mj e, h4 r hr]
        by_cases e2 : r < i
        · rw [if_pos e2, if_pos (by omega)]
        · rw [if_neg e2, if_neg (by omega)]
    · intro k hk
      rw [js_ne (by omega)]
      exact h5 k hk
    · have hK7 : jl_K 7 = 5 := rfl
      refine Eq.trans ?_ eX1_fade_44
      simp (disch := first | assumption | omega) only [eX1_fade_12, eX1_fade_13, eX1_fade_14, eX1_fade_17, eX1_fade_20, eX1_fade_23, eX1_fade_24, eX1_fade_27, eX1_fade_28, eX1_fade_29, eX1_fade_32, eX1_fade_33, eX1_fade_34, eX1_fade_35, eX1_fade_36, eX1_fade_37, eX1_fade_40, eX1_fade_41, e3, e4, e5, e7, nI_leI, nI_add]
      simp only [e3, if_false]) K.1 0 [.ref b, .int (nI 0)] (jl_s mem b 1 (nI (mo 0 + 1))) (by omega) ⟨rfl, by simp [js_at], by simp [js_at, m2], by simp [js_at, m3], fun r hr => by rw [js_mk (by omega), m5 r hr, if_neg (by omega)], fun k hk => by rw [js_ne (by omega)]⟩
  obtain ⟨rfl, h1, h2, h3, h4, h5⟩ := hI
  have e5 : mem' 7 0 = nI K.1 := by rw [h5 7 (by omega)]; exact hK.1
  have hK7 : jl_K 7 = 5 := rfl
  refine ⟨mem', ?_, ⟨?_, ?_, ?_, fun r hr => ?_, fun r hr => ?_⟩, h5⟩
  · simp (disch := first | assumption | omega) only [eX1_fade, eX1_fade_0, eX1_fade_1, eX1_fade_2, eX1_fade_5, eX1_fade_6, eX1_fade_7, eX1_fade_10, eX1_fade_11, m1, nI_add]
    rw [he]
    simp (disch := first | assumption | omega) only [eX1_fade_12, eX1_fade_13, eX1_fade_14, eX1_fade_17, eX1_fade_20, eX1_fade_47, e5, nI_leI, Nat.le_refl, if_true]
  · rw [h1]; rfl
  · rw [h2]; unfold jq_fade; rw [if_neg (by omega), if_neg (by omega)]
  · rw [h3]; unfold jq_fade; rw [if_neg (by omega), if_neg (by omega)]
  · rw [h5 (b + 1) (by omega), m4 r hr]; unfold jq_fade; rw [if_neg (by omega), if_neg (by omega)]
  · rw [h4 r hr, jq_fade_rg]
theorem jm_swing {b : Nat} {K : jq_K} {mo : jq_M} {mem : jl_M} {lm : jl_L} (hb : jl_K b = 4) (hK : jx_K mem K) (hM : jx_M mem b mo) (hk : jq_WK K) (hw : jq_WM K.1 mo) (hn : 0 < K.1) : ∃ mem', xX1_swingOver [.ref b] (jl_w mem lm) = some (none, jl_w mem' lm) ∧ jx_M mem' b (jq_swing K mo) ∧ jl_F (fun k => k = b) mem mem' := by
  obtain ⟨hA, hB, hb1, hb2⟩ := jl_mA hb
  obtain ⟨m1, m2, m3, m4, m5⟩ := hM
  have h8 := hk.1
  have hd := hk.2.1
  have hc := hw.2.2.1 hn
  have hf := hw.2.1
  have hK7 : jl_K 7 = 5 := rfl
  have e2 : ¬ nI 2 = 0 := by decide
  have hm : (if K.1 ≤ mo 1 + K.1 / 2 then mo 1 + K.1 / 2 - K.1 else mo 1 + K.1 / 2) = (mo 1 + K.1 / 2) % K.1 := by
    by_cases h : K.1 ≤ mo 1 + K.1 / 2
    · rw [if_pos h, Nat.mod_eq_sub_mod h, Nat.mod_eq_of_lt (by omega)]
    · rw [if_neg h, Nat.mod_eq_of_lt (by omega)]
  have e7 := jq_max K.2.1 (by omega) (mo 2) (by omega)
  refine ⟨jl_s (jl_s mem b 2 (nI ((mo 1 + K.1 / 2) % K.1))) b 3 (nI (mo 2 - K.2.1)), ?_, ⟨?_, ?_, ?_, fun r hr => ?_, fun r hr => ?_⟩, fun k hk => by rw [js_ne hk, js_ne hk]⟩
  · have q1 : ∀ x, jl_s mem b 2 x b 3 = nI (mo 2) := fun x => by rw [js_mj (by omega), m3]
    have q2 : ∀ x, jl_s mem b 2 x 7 1 = nI K.2.1 := fun x => by rw [js_mk (by omega), hK.2.1]
    by_cases h : K.1 ≤ mo 1 + K.1 / 2
    · rw [if_pos h] at hm
      simp (disch := first | assumption | omega) only [eX1_swingOver, eX1_swingOver_0, eX1_swingOver_1, eX1_swingOver_4, eX1_swingOver_5, eX1_swingOver_8, eX1_swingOver_11, eX1_swingOver_12, eX1_swingOver_13, eX1_swingOver_14, eX1_swingOver_15, eX1_swingOver_16, eX1_swingOver_17, eX1_swingOver_18, eX1_swingOver_21, eX1_swingOver_24, eX1_swingOver_27, eX1_swingOver_28, eX1_swingOver_31, eX1_swingOver_32, eX1_swingOver_33, eX1_swingOver_36, eX1_swingOver_39, eX1_swingOver_40, eX1_swingOver_43, eX1_swingOver_44, eX1_swingOver_45, eX1_swingOver_48, eX1_swingOver_49, eX1_swingOver_52, eX1_swingOver_55, eX1_swingOver_56, eX1_swingOver_57, eX1_swingOver_60, eX1_swingOver_63, m2, hK.1, pk_div, nI_add, nI_leI, h, if_true, pk_sub, hm, q1, q2, e7]
    · rw [if_neg h] at hm
      rw [← hm]
      simp (disch := first | assumption | omega) only [eX1_swingOver, eX1_swingOver_0, eX1_swingOver_1, eX1_swingOver_4, eX1_swingOver_5, eX1_swingOver_8, eX1_swingOver_11, eX1_swingOver_12, eX1_swingOver_13, eX1_swingOver_14, eX1_swingOver_15, eX1_swingOver_16, eX1_swingOver_17, eX1_swingOver_18, eX1_swingOver_21, eX1_swingOver_24, eX1_swingOver_27, eX1_swingOver_28, eX1_swingOver_31, eX1_swingOver_32, eX1_swingOver_33, eX1_swingOver_36, eX1_swingOver_39, eX1_swingOver_40, eX1_swingOver_43, eX1_swingOver_44, eX1_swingOver_45, eX1_swingOver_48, eX1_swingOver_49, eX1_swingOver_52, eX1_swingOver_55, eX1_swingOver_56, eX1_swingOver_57, eX1_swingOver_60, eX1_swingOver_63, m2, hK.1, pk_div, nI_add, nI_leI, h, if_false, q1, q2, e7]
  · rw [js_mj (by omega), js_mj (by omega), m1]; rfl
  · rw [js_mj (by omega), js_hit]; rfl
  · rw [js_hit]; rfl
  · rw [js_mk (by omega), js_mk (by omega), m4 r hr]; unfold jq_swing; rw [if_neg (by omega), if_neg (by omega)]
  · rw [js_mk (by omega), js_mk (by omega), m5 r hr]; unfold jq_swing; rw [if_neg (by omega), if_neg (by omega)]
theorem jm_strike {b : Nat} {K : jq_K} {mo : jq_M} {mem : jl_M} {lm : jl_L} (hb : jl_K b = 4) (hK : jx_K mem K) (hM : jx_M mem b mo) (hk : jq_WK K) (hw : jq_WM K.1 mo) (hn : 0 < K.1) : ∃ mem', xX1_strike [.ref b] (jl_w mem lm) = some (some (.int (jq_an (jq_who K mo))), jl_w mem' lm) ∧ jx_M mem' b (jq_strike K mo) ∧ jl_F (fun k => k = b ∨ k = b + 2) mem mem' := by
  obtain ⟨hA, hB, hb1, hb2⟩ := jl_mA hb
  have hat := jm_at (lm := lm) hb hK hM hk hw (hw.2.2.1 hn)
  have h1 := jq_at_ok hw (hw.2.2.1 hn)
  obtain ⟨m1, m2, m3, m4, m5⟩ := id hM
  have h8 := hk.1
  have hf := hw.2.1
  obtain ⟨k1, k2, k3⟩ := hk.2.2 _ h1.1
  obtain ⟨g1, g2, g3⟩ := hK.2.2 _ h1.1
  have hhas := jm_has (lm := lm) hK.1 h8 h1.1
  have e0 : ¬ nI 1 = 0 := by decide
  unfold jq_strike jq_who jq_hit
  generalize hr : jq_at K.1 mo (mo 1) = r at *
  have hK7 : jl_K 7 = 5 := rfl
  by_cases hh : K.2.2.2.1 r ≤ mo 2
  · rw [show Nat.ble (K.2.2.2.1 r) (mo 2) = true from Nat.ble_eq.mpr hh, if_pos rfl, if_pos rfl]
    refine ⟨jl_s (jl_s mem (b + 2) r (nI (K.2.2.2.2 r))) b 3 (nI (mo 2 - 1)), ?_, ⟨?_, ?_, ?_, fun q hq => ?_, fun q hq => ?_⟩, fun k hk => by rw [js_ne (by omega), js_ne (by omega)]⟩
    · have q1 : ∀ x, jl_s mem (b + 2) r x b 3 = nI (mo 2) := fun x => by rw [js_mk (by omega), m3]
      simp only [eX1_strike, eX1_strike_0, eX1_strike_1, eX1_strike_2, m2, eX1_strike_2 hb]
      rw [eX1_strike_5 hb hat]
      simp (disch := first | assumption | omega) only [eX1_strike_8, eX1_strike_9, eX1_strike_10, eX1_strike_13]
      rw [eX1_strike_14 hhas]
      simp (disch := first | assumption | omega) only [eX1_strike_17, eX1_strike_20, eX1_strike_21, eX1_strike_24, eX1_strike_25, eX1_strike_28, eX1_strike_31, eX1_strike_32, eX1_strike_33, eX1_strike_36, eX1_strike_38, eX1_strike_39, eX1_strike_40, eX1_strike_43, eX1_strike_44, eX1_strike_45, eX1_strike_48, eX1_strike_51, eX1_strike_52, eX1_strike_53, eX1_strike_54, eX1_strike_55, eX1_strike_56, eX1_strike_59, eX1_strike_60, eX1_strike_61, eX1_strike_64, eX1_strike_65, e0, if_false, m3, g2, g3, nI_leI, hh, if_true, q1, pk_sub]
      rfl
    · show _ = nI (if 0 = 11 + r then _ else if 0 = 2 then _ else mo 0)
      rw [js_mj (by omega), js_mk (by omega), m1, if_neg (by omega), if_neg (by omega)]
    · show _ = nI (if 1 = 11 + r then _ else if 1 = 2 then _ else mo 1)
      rw [js_mj (by omega), js_mk (by omega), m2, if_neg (by omega), if_neg (by omega)]
    · show _ = nI (if 2 = 11 + r then _ else if 2 = 2 then mo 2 - 1 else _)
      rw [js_hit, if_neg (by omega), if_pos rfl]
    · rw [js_mk (by omega), js_mk (by omega), m4 q hq]
      show nI (mo (3 + q)) = nI (if 3 + q = 11 + r then _ else if 3 + q = 2 then _ else mo (3 + q))
      rw [if_neg (by omega), if_neg (by omega)]
    · rw [js_mk (by omega)]
      show _ = nI (if 11 + q = 11 + r then _ else if 11 + q = 2 then _ else mo (11 + q))
      by_cases e : q = r
      · subst e
        rw [js_hit, if_pos rfl]
      · rw [js_mj e, m5 q hq, if_neg (by omega), if_neg (by omega)]
  · rw [show Nat.ble (K.2.2.2.1 r) (mo 2) = false from Bool.eq_false_iff.mpr (fun h => hh (Nat.le_of_ble_eq_true h)), if_neg (by decide), if_neg (by decide)]
    refine ⟨mem, ?_, hM, fun _ _ => rfl⟩
    simp only [eX1_strike, eX1_strike_0, eX1_strike_1, eX1_strike_2, m2, eX1_strike_2 hb]
    rw [eX1_strike_5 hb hat]
    simp (disch := first | assumption | omega) only [eX1_strike_8, eX1_strike_9, eX1_strike_10, eX1_strike_13]
    rw [eX1_strike_14 hhas]
    simp (disch := first | assumption | omega) only [eX1_strike_17, eX1_strike_20, eX1_strike_21, eX1_strike_24, eX1_strike_25, eX1_strike_28, eX1_strike_31, eX1_strike_32, eX1_strike_33, eX1_strike_36, eX1_strike_38, e0, if_false, m3, g2, nI_leI, hh]
    rfl

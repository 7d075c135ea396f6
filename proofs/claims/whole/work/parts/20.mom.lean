/-! ===== Rack.has, Rack.clash, Moment ===== -/
theorem jm_has {n r : Nat} {mem : jl_M} {lm : jl_L} (hn : mem 7 0 = nI n) (hn8 : n ≤ 8) (hr : r < n) : xX2_has [.ref 7, .int (nI r)] (jl_w mem lm) = some (some (.int (nI 1)), jl_w mem lm) := by
  have hK : jl_K 7 = 5 := rfl
  have e1 : ¬ nI r < 0 := nI_pos (by omega)
  have e2 : ¬ n ≤ r := by omega
  simp (disch := first | assumption | omega) only [eX2_has, eX2_has_0, eX2_has_1, eX2_has_4, eX2_has_5, eX2_has_6, eX2_has_9, eX2_has_12, eX2_has_13, eX2_has_16, eX2_has_17_0, eX2_has_17_1, hn, e1, e2, nI_leI, nI_ltI, nI_eq, nI_add, if_true, if_false, ↓reduceIte, Nat.reduceAdd, Nat.zero_add]
theorem jm_hasn {n : Nat} {x : Int32} {mem : jl_M} {lm : jl_L} (hn : mem 7 0 = nI n) (hx : x < 0 ∨ nI n ≤ x) : xX2_has [.ref 7, .int x] (jl_w mem lm) = some (some (.int (nI 0)), jl_w mem lm) := by
  have hK : jl_K 7 = 5 := rfl
  by_cases h1 : x < 0
  · simp (disch := first | assumption | omega) only [eX2_has, eX2_has_0, eX2_has_1, eX2_has_4, eX2_has_5, eX2_has_6, eX2_has_9, eX2_has_12, eX2_has_13, eX2_has_16, eX2_has_17_0, eX2_has_17_1, hn, h1, if_true, if_false]
  · have h2 : nI n ≤ x := hx.resolve_left h1
    simp (disch := first | assumption | omega) only [eX2_has, eX2_has_0, eX2_has_1, eX2_has_4, eX2_has_5, eX2_has_6, eX2_has_9, eX2_has_12, eX2_has_13, eX2_has_16, eX2_has_17_0, eX2_has_17_1, hn, h1, h2, if_true, if_false]
theorem jm_rodAt {b n t r0 : Nat} {f : Nat → Nat} {mem : jl_M} {lm : jl_L} (hb : jl_K b = 4) (hn : mem 7 0 = nI n) (hn8 : n ≤ 8) (hf : ∀ r, r < n → mem (b + 1) r = nI (f r) ∧ f r < 100) (ht : t < 100) (h0 : r0 < n) (h1 : f r0 = t) (h2 : ∀ r, r < r0 → f r ≠ t) : xX1_rodAt [.ref b, .int (nI t)] (jl_w mem lm) = some (some (.int (nI r0)), jl_w mem lm) := by
  have hA := (jl_mA hb).1
  have key : ∀ k r, r + k = r0 → jr_ev pX1_rodAt 2 [.ref b, .int (nI t), .int (nI r)] [] (jl_w mem lm) = some (some (.int (nI r0)), jl_w mem lm) := by
    intro k
    induction k with
    | zero =>
      intro r hr
      have e : r = r0 := by omega
      subst e
      have e1 := (hf r h0).1
      rw [h1] at e1
      have e3 : ¬ n ≤ r := by omega
      simp (disch := first | assumption | omega) only [eX1_rodAt_2, eX1_rodAt_3, eX1_rodAt_4, eX1_rodAt_7, eX1_rodAt_10, eX1_rodAt_13, eX1_rodAt_14, eX1_rodAt_17, eX1_rodAt_18, eX1_rodAt_19, eX1_rodAt_20, eX1_rodAt_23, eX1_rodAt_24, hn, e1, e3, nI_leI, nI_ltI, nI_eq, nI_add, if_true, if_false, ↓reduceIte, Nat.reduceAdd, Nat.zero_add]
    | succ k ih =>
      intro r hr
      have hrn : r < n := by omega
      have e1 := hf r hrn
      have e2 := h2 r (by omega)
      have e3 : ¬ n ≤ r := by omega
      simp (disch := first | assumption | omega) only [eX1_rodAt_2, eX1_rodAt_3, eX1_rodAt_4, eX1_rodAt_7, eX1_rodAt_10, eX1_rodAt_13, eX1_rodAt_14, eX1_rodAt_17, eX1_rodAt_18, eX1_rodAt_19, eX1_rodAt_20, eX1_rodAt_23, eX1_rodAt_24, eX1_rodAt_25, hn, e1.1, e2, e3, nI_leI, nI_ltI, nI_eq, nI_add, if_true, if_false, ↓reduceIte, Nat.reduceAdd, Nat.zero_add]
      rw [eX1_rodAt_28]
      exact ih (r + 1) (by omega)
  simp only [eX1_rodAt, eX1_rodAt_0, eX1_rodAt_1]
  exact key r0 0 (by omega)
/-- the rod at a side of a moment -/
theorem jm_at {b t : Nat} {K : jq_K} {mo : jq_M} {mem : jl_M} {lm : jl_L} (hb : jl_K b = 4) (hK : jx_K mem K) (hM : jx_M mem b mo) (hk : jq_WK K) (hw : jq_WM K.1 mo) (ht : t < K.1) : xX1_rodAt [.ref b, .int (nI t)] (jl_w mem lm) = some (some (.int (nI (jq_at K.1 mo t))), jl_w mem lm) := by
  have h1 := jq_at_ok hw ht
  have h8 := hk.1
  refine jm_rodAt (f := fun r => mo (3 + r)) hb hK.1 h8 (fun r hr => ⟨hM.2.2.2.1 r (by omega), ?_⟩) (by omega) h1.1 h1.2 (fun r hr he => ?_)
  · have := hw.2.2.2.2.2.1 r hr
    omega
  · have := jq_at_eq hw (r := r) (by omega) he
    omega
def jq_m0 : jq_M := fun j => if 3 ≤ j ∧ j < 11 then j - 3 else 0
theorem jm_start {b : Nat} {mem : jl_M} {lm : jl_L} (hb : jl_K b = 4) : ∃ mem', xX1_start [.ref b] (jl_w mem lm) = some (none, jl_w mem' lm) ∧ jx_M mem' b jq_m0 ∧ jl_F (fun k => k = b ∨ k = b + 1 ∨ k = b + 2) mem mem' := by
  obtain ⟨hA, hB, -⟩ := jl_mA hb
  obtain ⟨ls', mem', hI, he⟩ := jr_loop (P := pX1_start) (pc := 17) (lm := lm) (fun i ls m => ls = [.ref b, .int (nI i)] ∧ m b 1 = nI 0 ∧ m b 2 = nI 0 ∧ m b 3 = nI 0 ∧ (∀ r, r < i → m (b + 1) r = nI r ∧ m (b + 2) r = nI 0) ∧ jl_F (fun k => k = b ∨ k = b + 1 ∨ k = b + 2) mem m) 8 (by
    intro i ls m hi ⟨hl, h1, h2, h3, h4, h5⟩
    subst hl
    have e3 : ¬ 8 ≤ i := by omega
    refine ⟨[.ref b, .int (nI (i + 1))], jl_s (jl_s m (b + 1) i (nI i)) (b + 2) i (nI 0), ⟨rfl, ?_, ?_, ?_, ?_, ?_⟩, ?_⟩
    · rw [js_mk (by omega), js_mk (by omega), h1]
    · rw [js_mk (by omega), js_mk (by omega), h2]
    · rw [js_mk (by omega), js_mk (by omega), h3]
    · intro r hr
      by_cases e : r = i
      · subst e
        rw [js_mk (by omega), js_hit, js_hit]
        exact ⟨rfl, rfl⟩
      · rw [js_mk (by omega), js_mj e, js_mj e, js_mk (by omega)]
        exact h4 r (by omega)
    · intro k hk
      rw [js_ne (by omega), js_ne (by omega)]
      exact h5 k hk
    · refine Eq.trans ?_ eX1_start_40
      simp (disch := first | assumption | omega) only [eX1_start_17, eX1_start_18, eX1_start_20, eX1_start_23, eX1_start_24, eX1_start_27, eX1_start_28, eX1_start_29, eX1_start_30, eX1_start_31, eX1_start_34, eX1_start_35, eX1_start_36, eX1_start_37, e3, nI_leI, nI_ltI, nI_eq, nI_add, if_true, if_false, ↓reduceIte, Nat.reduceAdd, Nat.zero_add]) 8 0 [.ref b, .int (nI 0)] (jl_s (jl_s (jl_s mem b 1 (nI 0)) b 2 (nI 0)) b 3 (nI 0)) (by omega) ⟨rfl, by simp [js_at], by simp [js_at], by simp [js_at], fun r hr => absurd hr (by omega), fun k hk => by rw [js_ne (by omega), js_ne (by omega), js_ne (by omega)]⟩
  obtain ⟨rfl, h1, h2, h3, h4, h5⟩ := hI
  refine ⟨mem', ?_, ⟨h1, h2, h3, fun r hr => ?_, fun r hr => ?_⟩, h5⟩
  · simp (disch := first | assumption | omega) only [eX1_start, eX1_start_0, eX1_start_1, eX1_start_2, eX1_start_5, eX1_start_6, eX1_start_7, eX1_start_10, eX1_start_11, eX1_start_12, eX1_start_15, eX1_start_16]
    rw [he]
    simp (disch := first | assumption | omega) only [eX1_start_17, eX1_start_18, eX1_start_20, eX1_start_43, nI_leI, nI_ltI, nI_eq, nI_add, if_true, if_false, ↓reduceIte, Nat.reduceAdd, Nat.zero_add, Nat.le_refl]
  · rw [(h4 r hr).1]
    unfold jq_m0
    rw [if_pos (by omega)]
    congr 1
    omega
  · rw [(h4 r hr).2]
    unfold jq_m0
    rw [if_neg (by omega)]
theorem jm_copy {b c : Nat} {mo : jq_M} {mem : jl_M} {lm : jl_L} (hb : jl_K b = 4) (hc : jl_K c = 4) (hbc : c ≠ b ∧ c ≠ b + 1 ∧ c ≠ b + 2 ∧ c + 1 ≠ b ∧ c + 2 ≠ b) (hM : jx_M mem c mo) : ∃ mem', xX1_copy [.ref b, .ref c] (jl_w mem lm) = some (none, jl_w mem' lm) ∧ jx_M mem' b mo ∧ jl_F (fun k => k = b ∨ k = b + 1 ∨ k = b + 2) mem mem' := by
  obtain ⟨hA, hB, -⟩ := jl_mA hb
  obtain ⟨hA', hB', -⟩ := jl_mA hc
  obtain ⟨m1, m2, m3, m4, m5⟩ := hM
  obtain ⟨ls', mem', hI, he⟩ := jr_loop (P := pX1_copy) (pc := 26) (lm := lm) (fun i ls m => ls = [.ref b, .ref c, .int (nI i)] ∧ m b 1 = nI (mo 0) ∧ m b 2 = nI (mo 1) ∧ m b 3 = nI (mo 2) ∧ (∀ r, r < i → m (b + 1) r = nI (mo (3 + r)) ∧ m (b + 2) r = nI (mo (11 + r))) ∧ jl_F (fun k => k = b ∨ k = b + 1 ∨ k = b + 2) mem m) 8 (by
    intro i ls m hi ⟨hl, h1, h2, h3, h4, h5⟩
    subst hl
    have e3 : ¬ 8 ≤ i := by omega
    have e4 : m (c + 1) i = nI (mo (3 + i)) := by rw [h5 (c + 1) (by omega)]; exact m4 i hi
    have e5 : m (c + 2) i = nI (mo (11 + i)) := by rw [h5 (c + 2) (by omega)]; exact m5 i hi
    refine ⟨[.ref b, .ref c, .int (nI (i + 1))], jl_s (jl_s m (b + 1) i (nI (mo (3 + i)))) (b + 2) i (nI (mo (11 + i))), ⟨rfl, ?_, ?_, ?_, ?_, ?_⟩, ?_⟩
    · rw [js_mk (by omega), js_mk (by omega), h1]
    · rw [js_mk (by omega), js_mk (by omega), h2]
    · rw [js_mk (by omega), js_mk (by omega), h3]
    · intro r hr
      by_cases e : r = i
      · subst e
        rw [js_mk (by omega), js_hit, js_hit]
        exact ⟨rfl, rfl⟩
      · rw [js_mk (by omega), js_mj e, js_mj e, js_mk (by omega)]
        exact h4 r (by omega)
    · intro k hk
      rw [js_ne (by omega), js_ne (by omega)]
      exact h5 k hk
    · have e6 : jl_s m (b + 1) i (nI (mo (3 + i))) (c + 2) i = nI (mo (11 + i)) := by rw [js_mk (by omega), e5]
      refine Eq.trans ?_ eX1_copy_59
      simp (disch := first | assumption | omega) only [eX1_copy_26, eX1_copy_27, eX1_copy_29, eX1_copy_32, eX1_copy_33, eX1_copy_36, eX1_copy_37, eX1_copy_38, eX1_copy_41, eX1_copy_42, eX1_copy_43, eX1_copy_44, eX1_copy_45, eX1_copy_48, eX1_copy_49, eX1_copy_50, eX1_copy_53, eX1_copy_54, eX1_copy_55, eX1_copy_56, e3, e4, e6, nI_leI, nI_ltI, nI_eq, nI_add, if_true, if_false, ↓reduceIte, Nat.reduceAdd, Nat.zero_add]) 8 0 [.ref b, .ref c, .int (nI 0)] (jl_s (jl_s (jl_s mem b 1 (nI (mo 0))) b 2 (nI (mo 1))) b 3 (nI (mo 2))) (by omega) ⟨rfl, by simp [js_at], by simp [js_at], by simp [js_at], fun r hr => absurd hr (by omega), fun k hk => by rw [js_ne (by omega), js_ne (by omega), js_ne (by omega)]⟩
  obtain ⟨rfl, h1, h2, h3, h4, h5⟩ := hI
  refine ⟨mem', ?_, ⟨h1, h2, h3, fun r hr => (h4 r hr).1, fun r hr => (h4 r hr).2⟩, h5⟩
  have q1 : jl_s mem b 1 (nI (mo 0)) c 2 = nI (mo 1) := by rw [js_mk hbc.1, m2]
  have q2 : jl_s (jl_s mem b 1 (nI (mo 0))) b 2 (nI (mo 1)) c 3 = nI (mo 2) := by rw [js_mk hbc.1, js_mk hbc.1, m3]
  simp (disch := first | assumption | omega) only [eX1_copy, eX1_copy_0, eX1_copy_1, eX1_copy_2, eX1_copy_5, eX1_copy_8, eX1_copy_9, eX1_copy_10, eX1_copy_13, eX1_copy_16, eX1_copy_17, eX1_copy_18, eX1_copy_21, eX1_copy_24, eX1_copy_25, m1, q1, q2]
  rw [he]
  simp (disch := first | assumption | omega) only [eX1_copy_26, eX1_copy_27, eX1_copy_29, eX1_copy_62, nI_leI, nI_ltI, nI_eq, nI_add, if_true, if_false, ↓reduceIte, Nat.reduceAdd, Nat.zero_add, Nat.le_refl]

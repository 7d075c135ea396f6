/-! ===== Moment ===== -/
theorem jm_rodAt {b n t r0 : Nat} {f : Nat → Nat} {mem : jl_M} {lm : jl_L} (hb : jl_K b = 4) (hn : mem 7 0 = nI n) (hn8 : n ≤ 8) (hf : ∀ r, r < n → mem (b + 1) r = nI (f r) ∧ f r < 100) (ht : t < 100) (h0 : r0 < n) (h1 : f r0 = t) (h2 : ∀ r, r < r0 → f r ≠ t) : xX1_rodAt [.ref b, .int (nI t)] (jl_w mem lm) = some (some (.int (nI r0)), jl_w mem lm) := by
  have hA := (jl_mA hb).1
  have key : ∀ k r, r + k = r0 → jr_ev pX1_rodAt 2 [.ref b, .int (nI t), .int (nI r)] [] (jl_w mem lm) = some (some (.int (nI r0)), jl_w mem lm) := by
    intro k
    induction k with
    | zero =>
      intro r hr
      have e : r = r0 := by omega
      subst e
      have e1 := (hf r h0).1
      rw [h1] at e1
      have e3 : ¬ n ≤ r := by omega
      simp (disch := first | assumption | omega) only [eX1_rodAt_2, eX1_rodAt_3, eX1_rodAt_4, eX1_rodAt_7, eX1_rodAt_10, eX1_rodAt_13, eX1_rodAt_14, eX1_rodAt_17, eX1_rodAt_18, eX1_rodAt_19, eX1_rodAt_20, eX1_rodAt_23, eX1_rodAt_24, hn, e1, e3, nI_leI, nI_ltI, nI_eq, nI_add, if_true, if_false, ↓reduceIte, Nat.reduceAdd]
    | succ k ih =>
      intro r hr
      have hrn : r < n := by omega
      have e1 := hf r hrn
      have e2 := h2 r (by omega)
      have e3 : ¬ n ≤ r := by omega
      simp (disch := first | assumption | omega) only [eX1_rodAt_2, eX1_rodAt_3, eX1_rodAt_4, eX1_rodAt_7, eX1_rodAt_10, eX1_rodAt_13, eX1_rodAt_14, eX1_rodAt_17, eX1_rodAt_18, eX1_rodAt_19, eX1_rodAt_20, eX1_rodAt_23, eX1_rodAt_24, eX1_rodAt_25, hn, e1.1, e2, e3, nI_leI, nI_ltI, nI_eq, nI_add, if_true, if_false, ↓reduceIte, Nat.reduceAdd]
      rw [eX1_rodAt_28]
      exact ih (r + 1) (by omega)
  simp only [eX1_rodAt, eX1_rodAt_0, eX1_rodAt_1]
  exact key r0 0 (by omega)

set_option maxRecDepth 100000
/-! ===== the start ===== -/
theorem jl_dw : jl_d = jl_w jl_d.2.2.1 jl_d.2.2.2 := by
  unfold jl_w
  rw [jl_o1, jl_o2]
theorem jl_dz {k j : Nat} (hk : k < 76) (hj : j < if jl_n k = 0 then 30 else jl_n k) : jl_d.2.2.1 k j = jl_m0 k j := by
  have h1 := List.all_eq_true.mp jl_fact.2.2 k (List.mem_range.mpr hk)
  simp only [jl_q, Bool.and_eq_true, decide_eq_true_eq, List.all_eq_true, List.mem_range] at h1
  exact h1.2 j hj
theorem jl_J0 : jJ jl_d.2.2.1 jl_d.2.2.2 := by
  have z : ∀ k j, k < 76 → (j < if jl_n k = 0 then 30 else jl_n k) → ¬ ((k = 3 ∧ j = 1) ∨ (k = 7 ∧ j = 1) ∨ (k = 62 ∧ j = 10)) → jl_d.2.2.1 k j = nI 0 := fun k j h1 h2 h3 => by
    rw [jl_dz h1 h2]
    unfold jl_m0
    rw [if_neg h3]
    rfl
  have o1 : jl_d.2.2.1 7 1 = nI 1 := by rw [jl_dz (by omega) (by decide)]; rfl
  have o2 : jl_d.2.2.1 62 10 = nI 1 := by rw [jl_dz (by omega) (by decide)]; rfl
  generalize jl_d.2.2.1 = mem at *
  refine ⟨(0, fun _ => 0), (0, 1, fun _ => 0, fun _ => 0, fun _ => 0), fun _ => 0, [], fun _ => none, (0, fun _ => 0, fun _ => 0, fun _ => 0), 0, ⟨⟨z 1 1 (by omega) (by decide) (by omega), fun i hi => absurd hi (Nat.not_lt_zero _)⟩, ⟨z 7 0 (by omega) (by decide) (by omega), o1, fun r hr => absurd hr (Nat.not_lt_zero _)⟩, ⟨z 11 1 (by omega) (by decide) (by omega), z 11 2 (by omega) (by decide) (by omega), z 11 3 (by omega) (by decide) (by omega), fun r hr => z 12 r (by omega) (by show r < 8; exact hr) (by omega), fun r hr => z 13 r (by omega) (by show r < 8; exact hr) (by omega)⟩, ⟨0, by omega, z 0 5 (by omega) (by decide) (by omega), z 0 6 (by omega) (by decide) (by omega), fun i m hm => by simp at hm⟩, fun i hi => ⟨fun _ => z 21 i (by omega) (by show i < 2; exact hi) (by omega), fun m hm => (by cases hm)⟩, ⟨z 0 12 (by omega) (by decide) (by omega), fun i hi => absurd hi (Nat.not_lt_zero _)⟩, jl_fact.2.1.1⟩, ⟨⟨z 62 3 (by omega) (by decide) (by omega), fun i hi => absurd hi (Nat.not_lt_zero _)⟩, ⟨z 62 9 (by omega) (by decide) (by omega), o2, fun r hr => absurd hr (Nat.not_lt_zero _)⟩, fun j hj => z 67 j (by omega) (by show j < 19; exact hj) (by omega), ⟨z 62 22 (by omega) (by decide) (by omega), fun i m hm => by simp at hm⟩, fun i hi => ⟨fun _ => z 70 i (by omega) (by show i < 2; exact hi) (by omega), fun m hm => (by cases hm)⟩, ⟨z 62 26 (by omega) (by decide) (by omega), fun i hi => absurd hi (Nat.not_lt_zero _)⟩, jl_fact.2.1.2⟩, ?_⟩
  refine ⟨⟨by show 0 ≤ 120; omega, fun i hi => absurd hi (Nat.not_lt_zero _)⟩, ⟨by show 0 ≤ 8; omega, ⟨by show 1 ≤ 1; omega, by show 1 ≤ 3; omega⟩, fun r hr => absurd hr (Nat.not_lt_zero _)⟩, ⟨⟨fun _ => rfl, by show 0 ≤ 9; omega, fun h => absurd h (Nat.not_lt_zero _), by show 0 < 8; omega, fun r hr => ⟨by show 0 < 8; omega, by show 0 ≤ 9; omega⟩, fun r hr => absurd hr (Nat.not_lt_zero _), fun r s hr => absurd hr (Nat.not_lt_zero _), fun t ht => absurd ht (Nat.not_lt_zero _)⟩, by show 0 ≤ 999; omega⟩, ⟨by show 0 ≤ 10; omega, fun m hm => (by cases hm)⟩, fun i m _ hm => (by cases hm), ⟨by show 0 ≤ 6; omega, fun i hi => absurd hi (Nat.not_lt_zero _)⟩⟩

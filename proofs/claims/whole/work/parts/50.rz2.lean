def jY_P (mem : jl_M) (tx : jq_X) (F : Nat ⊕ jp_Q) (i : Nat) (q : jp_Q) : Prop := mem 62 8 = -1 ∧ F = jp_T tx i q ∧ jY_A mem tx i
def jY_N (mem : jl_M) (tx : jq_X) (F : Nat ⊕ jp_Q) : Prop := ∃ f, f ≤ tx.1 ∧ mem 62 8 = nI f ∧ F = .inl f
/-- what reading a number may change -/
def jl_an (mem mem' : jl_M) : Prop := (∀ k, k ≠ 62 → mem' k = mem k) ∧ ∀ j, j ≠ 4 → j ≠ 5 → j ≠ 6 → j ≠ 7 → j ≠ 8 → mem' 62 j = mem 62 j
theorem jl_an.rf {m : jl_M} : jl_an m m := ⟨fun _ _ => rfl, fun _ _ _ _ _ _ => rfl⟩
theorem jl_an.tr {a b c : jl_M} (h1 : jl_an a b) (h2 : jl_an b c) : jl_an a c := ⟨fun k x => (h2.1 k x).trans (h1.1 k x), fun j x y z w v => (h2.2 j x y z w v).trans (h1.2 j x y z w v)⟩
theorem jl_an.a {a b : jl_M} (h : jl_av a b) : jl_an a b := ⟨h.1, fun j x y z w _ => h.2 j x y z w⟩
theorem jl_an.f {m : jl_M} {x : Int32} : jl_an m (jl_s m 62 8 x) := ⟨fun k y => js_ne y, fun i _ _ _ _ h => js_mj h⟩
/-- what reading may change -/
def jl_rv (mem mem' : jl_M) : Prop := (∀ k, k ≠ 62 → k ≠ 64 → k ≠ 65 → k ≠ 66 → mem' k = mem k) ∧ (∀ j, j = 3 ∨ j = 9 ∨ j = 10 ∨ j = 22 ∨ j = 26 → mem' 62 j = mem 62 j) ∧ ∀ k j, (k = 64 ∨ k = 65 ∨ k = 66) → j < 8 → mem' k j = mem k j
theorem jl_rv.rf {m : jl_M} : jl_rv m m := ⟨fun _ _ _ _ _ => rfl, fun _ _ => rfl, fun _ _ _ _ => rfl⟩
theorem jl_rv.tr {a b c : jl_M} (h1 : jl_rv a b) (h2 : jl_rv b c) : jl_rv a c := ⟨fun k x y z w => (h2.1 k x y z w).trans (h1.1 k x y z w), fun j x => (h2.2.1 j x).trans (h1.2.1 j x), fun k j x y => (h2.2.2 k j x y).trans (h1.2.2 k j x y)⟩
theorem jl_rv.n {a b : jl_M} (h : jl_an a b) : jl_rv a b := ⟨fun k x _ _ _ => h.1 k x, fun j x => h.2 j (by omega) (by omega) (by omega) (by omega) (by omega), fun k j x _ => by rw [h.1 k (by omega)]⟩
theorem jl_rv.f {m : jl_M} {j : Nat} {x : Int32} (h : j = 0 ∨ (4 ≤ j ∧ j ≤ 8) ∨ (11 ≤ j ∧ j ≤ 13)) : jl_rv m (jl_s m 62 j x) := ⟨fun k y _ _ _ => js_ne y, fun i _ => js_mj (by omega), fun k i q _ => js_mk (by omega)⟩
theorem jl_rv.r {m : jl_M} {k j : Nat} {x : Int32} (h : k = 64 ∨ k = 65 ∨ k = 66) (hj : 8 ≤ j) : jl_rv m (jl_s m k j x) := ⟨fun i _ _ _ _ => js_ne (by omega), fun i _ => js_mk (by omega), fun k' i q _ => by
  by_cases e : k' = k
  · subst e; exact js_mj (by omega)
  · exact js_mk e⟩
section YT
variable {mem : jl_M} {lm : jl_L} {tx : jq_X} {F : Nat ⊕ jp_Q}
theorem jY_T.rv {mem' : jl_M} (h : jY_T mem tx) (f : jl_rv mem mem') : jY_T mem' tx := h.keep (f.2.1 3 (by omega)) (f.1 63 (by omega) (by omega) (by omega) (by omega))
theorem Y_well (h : mem 62 8 = -1) : xX5_isWell [.ref 62] (jl_w mem lm) = some (some (.int (nI 1)), jl_w mem lm) := by
  have e : ¬ (0 : Int32) ≤ -1 := by decide
  simp only [eX5_isWell, eX5_isWell_0, eX5_isWell_1, eX5_isWell_4, eX5_isWell_7, eX5_isWell_8, eX5_isWell_11, eX5_isWell_12_0, eX5_isWell_12_1, h, e, if_false]
theorem Y_ill {f : Nat} (h : mem 62 8 = nI f) (hf : f ≤ 1000) : xX5_isWell [.ref 62] (jl_w mem lm) = some (some (.int (nI 0)), jl_w mem lm) := by
  have e : (0 : Int32) ≤ nI f := nI_pos' (by omega)
  simp only [eX5_isWell, eX5_isWell_0, eX5_isWell_1, eX5_isWell_4, eX5_isWell_7, eX5_isWell_8, eX5_isWell_11, eX5_isWell_12_0, eX5_isWell_12_1, h, e, if_true]
theorem Y_takesN {x : Int32} (hL : tx.1 ≤ 120) (h : jY_N mem tx F) : xX5_takes [.ref 62, .int x] (jl_w mem lm) = some (some (.int (nI 0)), jl_w mem lm) := by
  obtain ⟨f, f1, f2, f3⟩ := h
  simp only [eX5_takes, eX5_takes_0]
  rw [eX5_takes_1 (Y_ill f2 (by omega))]
  simp only [eX5_takes_4, eX5_takes_7, eX5_takes_8, je0, if_true]
theorem Y_takes0 {p i : Nat} {q : jp_Q} (hP : jY_P mem tx F i q) (h6 : mem 62 6 = nI p) (hp : p ≤ tx.1) (hF : F = .inl p) : xX5_takes [.ref 62, .int (nI 0)] (jl_w mem lm) = some (some (.int (nI 0)), jl_w (jl_s mem 62 8 (nI p)) lm) ∧ jY_N (jl_s mem 62 8 (nI p)) tx F := by
  refine ⟨?_, ⟨p, hp, js_hit, hF⟩⟩
  simp only [eX5_takes, eX5_takes_0]
  rw [eX5_takes_1 (Y_well hP.1)]
  simp only [eX5_takes_4, eX5_takes_7, eX5_takes_8, eX5_takes_9, eX5_takes_10, eX5_takes_13, eX5_takes_14, eX5_takes_15, eX5_takes_18, eX5_takes_21, eX5_takes_22, je1, if_false, je0, if_true, h6]
theorem Y_takes1 {p e t v i : Nat} {q : jp_Q} (hL : tx.1 ≤ 120 ∧ ∀ i, i < tx.1 → tx.2 i ≤ 255) (hT : jY_T mem tx) (hP : mem 62 8 = -1) (h4 : mem 62 4 = nI e) (h7 : mem 62 7 = nI v) (he : e ≤ tx.1) (hB : jp_B tx e) (hF : F = jp_T tx e (jp_tok tx q p)) : ∃ mem', xX5_takes [.ref 62, .int (nI 1)] (jl_w mem lm) = some (some (.int (nI v)), jl_w mem' lm) ∧ jY_P mem' tx F e (jp_tok tx q p) ∧ jl_av mem mem' := by
  obtain ⟨m1, e1, A1, f1⟩ := Y_advances (lm := lm) hL hT he h4 hB
  refine ⟨m1, ?_, ⟨?_, hF, A1⟩, f1⟩
  · simp only [eX5_takes, eX5_takes_0]
    rw [eX5_takes_1 (Y_well hP)]
    simp only [eX5_takes_4, eX5_takes_7, eX5_takes_8, eX5_takes_9, eX5_takes_10, eX5_takes_23, eX5_takes_24, eX5_takes_27, eX5_takes_28, je1, if_false, h7]
    rw [eX5_takes_29 e1]
    simp only [eX5_takes_32, eX5_takes_33]
  · rw [f1.2 8 (by omega) (by omega) (by omega) (by omega)]; exact hP
theorem Y_inx {x y z : Int32} : ∃ b, xX5_in [.int x, .int y, .int z] (jl_w mem lm) = some (some (.int (nI b)), jl_w mem lm) ∧ b ≤ 1 := by
  by_cases h1 : x < y
  · exact ⟨0, Y_inn (Or.inl h1), by omega⟩
  · by_cases h2 : z < x
    · exact ⟨0, Y_inn (Or.inr h2), by omega⟩
    · exact ⟨1, by simp only [eX5_in, eX5_in_0, eX5_in_1, eX5_in_2, eX5_in_5, eX5_in_6, eX5_in_7, eX5_in_10, eX5_in_11, eX5_in_14, eX5_in_15_0, eX5_in_15_1, h1, h2, if_false], by omega⟩
theorem Y_numberN {x y : Int32} (hL : tx.1 ≤ 120) (h : jY_N mem tx F) : xX5_number [.ref 62, .int x, .int y] (jl_w mem lm) = some (some (.int (nI 0)), jl_w mem lm) := by
  by_cases h2 : mem 62 5 = nI 2
  · obtain ⟨b, hb, hb1⟩ := Y_inx (mem := mem) (lm := lm) (x := mem 62 7) (y := x) (z := y)
    simp only [eX5_number, eX5_number_0, eX5_number_1, eX5_number_2, eX5_number_5, eX5_number_6, eX5_number_9, eX5_number_10, eX5_number_13, eX5_number_14, h2, if_true]
    rw [eX5_number_15 hb]
    by_cases hb0 : b = 0
    · subst hb0
      simp only [eX5_number_18, eX5_number_25, je0, if_true]
      rw [eX5_number_26 (Y_takesN hL h)]
      simp only [eX5_number_29]
    · have hz : ¬ nI b = 0 := fun q => hb0 ((jz_eq (by omega)).mp q)
      simp only [eX5_number_18, eX5_number_21, eX5_number_22, hz, if_false]
      rw [eX5_number_26 (Y_takesN hL h)]
      simp only [eX5_number_29]
  · simp only [eX5_number, eX5_number_0, eX5_number_1, eX5_number_2, eX5_number_5, eX5_number_6, eX5_number_25, h2, if_false]
    rw [eX5_number_26 (Y_takesN hL h)]
    simp only [eX5_number_29]
theorem Y_number {lo hi i : Nat} {q : jp_Q} (hL : tx.1 ≤ 120 ∧ ∀ i, i < tx.1 → tx.2 i ≤ 255) (hT : jY_T mem tx) (hP : jY_P mem tx F i q) (hh : lo ≤ 1000 ∧ hi ≤ 1000) (hq : q.1 ≠ 0) (hlet : ∀ c, (jp_let q c).1 = 6) (hok : ∀ v, lo ≤ v → v ≤ hi → (jp_num q v).1 ≠ 6) (hno : ∀ v, ¬ (lo ≤ v ∧ v ≤ hi) → (jp_num q v).1 = 6) : ∃ v mem', xX5_number [.ref 62, .int (nI lo), .int (nI hi)] (jl_w mem lm) = some (some (.int (nI v)), jl_w mem' lm) ∧ jl_an mem mem' ∧ ((lo ≤ v ∧ v ≤ hi ∧ ∃ e, i < e ∧ jY_P mem' tx F e (jp_num q v)) ∨ jY_N mem' tx F) := by
  obtain ⟨p8, pF, p, e, t, v, c4, c5, c6, c7, hv9, ht4, hip, hp, hR, hc⟩ := hP
  have bad : F = .inl p → ∃ v mem', (jr_ev pX5_number 25 [.ref 62, .int (nI lo), .int (nI hi)] [.ref 62] (jl_w mem lm)) = some (some (.int (nI v)), jl_w mem' lm) ∧ jl_an mem mem' ∧ ((lo ≤ v ∧ v ≤ hi ∧ ∃ e, i < e ∧ jY_P mem' tx F e (jp_num q v)) ∨ jY_N mem' tx F) := by
    intro hF
    obtain ⟨k1, k2⟩ := Y_takes0 (lm := lm) (q := q) ⟨p8, pF, p, e, t, v, c4, c5, c6, c7, hv9, ht4, hip, hp, hR, hc⟩ c6 hp hF
    refine ⟨0, _, ?_, jl_an.f, Or.inr k2⟩
    simp only [eX5_number_25]
    rw [eX5_number_26 k1]
    simp only [eX5_number_29]
  by_cases h2 : t = 2
  · rcases hc with ⟨h0, _⟩ | ⟨h0, hpl, hpe, hel, hBe, hRp, hc⟩
    · omega
    · have hdn : jp_d tx p = true ∧ jp_n tx p = some v := by
        rcases hc with ⟨hd, ⟨_, hn⟩ | ⟨h4, _⟩⟩ | ⟨_, _, h4⟩
        · exact ⟨hd, hn⟩
        · omega
        · split at h4
          · omega
          · split at h4 <;> omega
      have htok : jp_tok tx q p = jp_num q v := by
        unfold jp_tok
        rw [if_pos hdn.1, hdn.2]
      have c7' := c7 h0
      subst h2
      simp only [eX5_number, eX5_number_0, eX5_number_1, eX5_number_2, eX5_number_5, eX5_number_6, eX5_number_9, eX5_number_10, eX5_number_13, eX5_number_14, c5, c7', if_true]
      by_cases hr : lo ≤ v ∧ v ≤ hi
      · rw [eX5_number_15 (Y_in hr.1 hr.2 (by omega))]
        have hF2 : F = jp_T tx e (jp_tok tx q p) := by rw [pF, hR, hRp, if_neg (by rw [htok]; exact hok v hr.1 hr.2)]
        obtain ⟨m1, k1, k2, k3⟩ := Y_takes1 (lm := lm) (t := 0) (i := i) hL hT p8 c4 c7' hel hBe hF2
        rw [htok] at k2
        refine ⟨v, m1, ?_, jl_an.a k3, Or.inl ⟨hr.1, hr.2, e, by omega, k2⟩⟩
        simp only [eX5_number_18, eX5_number_21, eX5_number_22, je1, if_false]
        rw [eX5_number_26 k1]
        simp only [eX5_number_29]
      · have hF2 : F = .inl p := by rw [pF, hR, hRp, if_pos (by rw [htok]; exact hno v hr)]
        have hnn : nI v < nI lo ∨ nI hi < nI v := by
          by_cases h3 : v < lo
          · exact Or.inl ((nI_ltI (by omega) (by omega)).mpr h3)
          · exact Or.inr ((nI_ltI (by omega) (by omega)).mpr (by omega))
        rw [eX5_number_15 (Y_inn hnn)]
        simp only [eX5_number_18, je0, if_true]
        exact bad hF2
  · have hF2 : F = .inl p := by
      rw [pF, hR]
      rcases hc with ⟨h0, hpe⟩ | ⟨h0, hpl, hpe, hel, hBe, hRp, hc⟩
      · rw [hpe, jp_T_e]
        unfold jp_end
        rw [if_neg (fun x => hq x.1)]
      · rw [hRp, if_pos]
        unfold jp_tok
        rcases hc with ⟨hd, ⟨h4, _⟩ | ⟨_, hn⟩⟩ | ⟨hd, _, _⟩
        · omega
        · rw [if_pos hd, hn]; rfl
        · rw [if_neg (by rw [hd]; decide)]
          exact hlet _
    simp (disch := first | assumption | omega) only [eX5_number, eX5_number_0, eX5_number_1, eX5_number_2, eX5_number_5, eX5_number_6, c5, nI_eq, h2, if_false]
    exact bad hF2
/-- the draft -/
def jY_D (mem : jl_M) (q : jp_Q) : Prop := mem 62 11 = nI q.2.1.1 ∧ mem 62 12 = nI q.2.1.2.1 ∧ mem 62 13 = nI q.2.2.2.1 ∧ ∀ r, r < q.2.1.1 → mem 64 (8 + r) = nI (q.2.1.2.2.1 r) ∧ mem 65 (8 + r) = nI (q.2.1.2.2.2.1 r) ∧ mem 66 (8 + r) = nI (q.2.1.2.2.2.2 r)
theorem jY_P.s {i : Nat} {q : jp_Q} {k j : Nat} {x : Int32} (h : jY_P mem tx F i q) (hk : k ≠ 62 ∨ (11 ≤ j ∧ j ≤ 13)) : jY_P (jl_s mem k j x) tx F i q := by
  obtain ⟨p8, pF, p, e, t, v, c4, c5, c6, c7, r⟩ := h
  have hs : ∀ j', j' ≤ 8 → jl_s mem k j x 62 j' = mem 62 j' := fun j' hj => by
    by_cases e : k = 62
    · subst e
      exact js_mj (by omega)
    · exact js_mk (fun q => e q.symm)
  exact ⟨by rw [hs 8 (by omega)]; exact p8, pF, p, e, t, v, by rw [hs 4 (by omega)]; exact c4, by rw [hs 5 (by omega)]; exact c5, by rw [hs 6 (by omega)]; exact c6, fun q => by rw [hs 7 (by omega)]; exact c7 q, r⟩
theorem jY_N.s {k j : Nat} {x : Int32} (h : jY_N mem tx F) (hk : k ≠ 62 ∨ (11 ≤ j ∧ j ≤ 13)) : jY_N (jl_s mem k j x) tx F := by
  obtain ⟨f, f1, f2, f3⟩ := h
  refine ⟨f, f1, ?_, f3⟩
  by_cases e : k = 62
  · subst e
    rw [js_mj (by omega)]; exact f2
  · rw [js_mk (fun q => e q.symm)]; exact f2
end YT

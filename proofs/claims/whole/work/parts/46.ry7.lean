theorem jq_sh {m k : Nat} (hm : m < 256) (hk : k < 8) : nI m >>> (nI k &&& 31) &&& nI 1 = nI ((m >>> k) % 2) := by
  have h : ∀ k, k < 8 → ∀ m, m < 256 → nI m >>> (nI k &&& 31) &&& nI 1 = nI ((m >>> k) % 2) := by decide +kernel
  exact h k hk m hm
theorem jq_tb {m k : Nat} (hm : m < 256) (hk : k < 8) : (m >>> k) % 2 = if m.testBit k = true then 1 else 0 := by
  have h : ∀ k, k < 8 → ∀ m, m < 256 → (m >>> k) % 2 = if m.testBit k = true then 1 else 0 := by decide +kernel
  exact h k hk m hm
theorem jq_gcd {u v : Nat} (hu : u ≤ 8) (hv : v ≤ 8) (h0 : 0 < v) : jq_gs u v v = Nat.gcd u v := by
  have h : ∀ v, v < 9 → 0 < v → ∀ u, u < 9 → jq_gs u v v = Nat.gcd u v := by decide +kernel
  exact h v (by omega) h0 u (by omega)
section YM
variable {mem : jl_M} {lm : jl_L} {tx : jq_X} {K : jq_K} {mo : jq_M} {un : List jq_M} {im : Nat → Option jq_M} {hd : jq_H} {tr : Int64}
theorem Y_ones {m : Nat} (hm : m < 256) : xX5_ones [.int (nI m)] (jl_w mem lm) = some (some (.int (nI (jq_pop m))), jl_w mem lm) := by
  obtain ⟨ls', mem', hI, he⟩ := jr_loop (P := pX5_ones) (pc := 4) (lm := lm) (fun i ls m1 => ls = [.int (nI m), .int (nI (jq_sum (fun k => (m >>> k) % 2) i)), .int (nI i)] ∧ m1 = mem) 8 (by
    intro i ls m1 hi ⟨hl, hm1⟩
    subst hl hm1
    have e3 : ¬ 8 ≤ i := by omega
    have e4 := jq_sh hm hi
    refine ⟨[.int (nI m), .int (nI (jq_sum (fun k => (m >>> k) % 2) (i + 1))), .int (nI (i + 1))], m1, ⟨rfl, rfl⟩, ?_⟩
    refine Eq.trans ?_ eX5_ones_21
    have es : jq_sum (fun k => (m >>> k) % 2) (i + 1) = jq_sum (fun k => (m >>> k) % 2) i + (m >>> i) % 2 := rfl
    rw [es]
    simp (disch := first | assumption | omega) only [eX5_ones_4, eX5_ones_5, eX5_ones_7, eX5_ones_10, eX5_ones_11, eX5_ones_12, eX5_ones_13, eX5_ones_14, eX5_ones_15, eX5_ones_16, eX5_ones_17, eX5_ones_18, nI_leI, e3, if_false, e4, nI_add]) 8 0 [.int (nI m), .int (nI 0), .int (nI 0)] mem (by omega) ⟨rfl, rfl⟩
  obtain ⟨rfl, rfl⟩ := hI
  simp only [eX5_ones, eX5_ones_0, eX5_ones_1, eX5_ones_2, eX5_ones_3]
  rw [he]
  simp (disch := first | assumption | omega) only [eX5_ones_4, eX5_ones_5, eX5_ones_7, eX5_ones_24, eX5_ones_25, nI_leI, Nat.le_refl, if_true]
  rfl
theorem Y_has {m r : Nat} (hm : m < 256) (hr : r < 8) : xX5_has [.int (nI m), .int (nI r)] (jl_w mem lm) = some (some (.int (nI (if m.testBit r = true then 1 else 0))), jl_w mem lm) := by
  have e4 := jq_sh hm hr
  have e5 := jq_tb hm hr
  have n01 : ¬ (0 : Nat) = 1 := by omega
  by_cases h : m.testBit r = true
  · rw [if_pos h] at e5 ⊢
    simp (disch := first | assumption | omega) only [eX5_has, eX5_has_0, eX5_has_1, eX5_has_2, eX5_has_3, eX5_has_4, eX5_has_5, eX5_has_6, eX5_has_9, eX5_has_10, eX5_has_13, eX5_has_14_0, eX5_has_14_1, e4, e5, if_true]
  · rw [if_neg h] at e5 ⊢
    simp (disch := first | assumption | omega) only [eX5_has, eX5_has_0, eX5_has_1, eX5_has_2, eX5_has_3, eX5_has_4, eX5_has_5, eX5_has_6, eX5_has_9, eX5_has_10, eX5_has_13, eX5_has_14_0, eX5_has_14_1, e4, e5, nI_eq, n01, if_false]
theorem Y_gcd {u v : Nat} (hu : u ≤ 8) (hv : v ≤ 8) : xX5_gcd [.int (nI u), .int (nI v)] (jl_w mem lm) = some (some (.int (nI (Nat.gcd u v))), jl_w mem lm) := by
  have key : ∀ b x y (t : Value), y ≤ b → x ≤ 8 → y ≤ 8 → jr_ev pX5_gcd 4 [.int (nI u), .int (nI v), .int (nI x), .int (nI y), t] [] (jl_w mem lm) = some (some (.int (nI (Nat.gcd x y))), jl_w mem lm) := by
    intro b
    induction b with
    | zero =>
      intro x y t hy hx hy8
      have e : y = 0 := by omega
      subst e
      rw [Nat.gcd_zero_right]
      simp only [eX5_gcd_4, eX5_gcd_5, eX5_gcd_21, eX5_gcd_22, je0, if_true]
    | succ b ih =>
      intro x y t hy hx hy8
      by_cases e : y = 0
      · subst e
        rw [Nat.gcd_zero_right]
        simp only [eX5_gcd_4, eX5_gcd_5, eX5_gcd_21, eX5_gcd_22, je0, if_true]
      · have hz : ¬ nI y = 0 := fun q => e ((jz_eq (by omega)).mp q)
        have hrem : nI x - nI x / nI y * nI y = nI (x % y) := pk_rem (by omega) (by omega) (by omega)
        have hlt := Nat.mod_lt x (show 0 < y by omega)
        have h1 := ih y (x % y) (.int (nI (x % y))) (by omega) hy8 (by omega)
        rw [Nat.gcd_comm x y, Nat.gcd_rec y x, Nat.gcd_comm (x % y) y, ← h1]
        refine Eq.trans ?_ eX5_gcd_18
        simp (disch := first | assumption | omega) only [eX5_gcd_4, eX5_gcd_5, eX5_gcd_8, eX5_gcd_9, eX5_gcd_10, eX5_gcd_11, eX5_gcd_13, eX5_gcd_14, eX5_gcd_15, eX5_gcd_17, hz, if_false, hrem]
  simp only [eX5_gcd, eX5_gcd_0, eX5_gcd_1, eX5_gcd_2, eX5_gcd_3]
  exact key 8 u v .null hv hu hv
theorem Y_odds_b {x y z u : Int32} (hK : jy_K mem K) (hk : jq_WK K) (h : (x < nI 1 ∨ nI 9 < x) ∨ ((∃ g, 1 ≤ g ∧ g ≤ 9 ∧ x = nI g) ∧ (y < nI 0 ∨ nI 20 < y)) ∨ ((∃ g, 1 ≤ g ∧ g ≤ 9 ∧ x = nI g) ∧ (∃ n, n ≤ 20 ∧ y = nI n) ∧ (z < 0 ∨ nI K.1 ≤ z)) ∨ ((∃ g, 1 ≤ g ∧ g ≤ 9 ∧ x = nI g) ∧ (∃ n, n ≤ 20 ∧ y = nI n) ∧ (∃ r, r < K.1 ∧ z = nI r) ∧ (u < nI 0 ∨ nI 1 < u))) : xX5_odds [.ref 62, .int x, .int y, .int z, .int u] (jl_w mem lm) = some (some (.int (-1)), jl_w (jl_s mem 62 0 (nI 0)) lm) := by
  have h0 := hK.V (jl_V.t (x := nI 0))
  simp only [eX5_odds, eX5_odds_0, eX5_odds_1, eX5_odds_2, eX5_odds_5, eX5_odds_6, eX5_odds_7]
  rcases h with h | ⟨⟨g, g1, g2, rfl⟩, h⟩ | ⟨⟨g, g1, g2, rfl⟩, ⟨n, hn, rfl⟩, h⟩ | ⟨⟨g, g1, g2, rfl⟩, ⟨n, hn, rfl⟩, ⟨r, hr, rfl⟩, h⟩
  · rw [eX5_odds_9 (Y_inn h)]
    simp only [eX5_odds_12, eX5_odds_43, eX5_odds_44, je0, if_true]
  · rw [eX5_odds_9 (Y_in g1 g2 (by omega))]
    simp only [eX5_odds_12, eX5_odds_15, eX5_odds_16, eX5_odds_17, je1, if_false]
    rw [eX5_odds_19 (Y_inn h)]
    simp only [eX5_odds_22, eX5_odds_43, eX5_odds_44, je0, if_true]
  · rw [eX5_odds_9 (Y_in g1 g2 (by omega))]
    simp only [eX5_odds_12, eX5_odds_15, eX5_odds_16, eX5_odds_17, je1, if_false]
    rw [eX5_odds_19 (Y_in (Nat.zero_le _) hn (by omega))]
    simp only [eX5_odds_22, eX5_odds_25, eX5_odds_26, je1, if_false]
    rw [eX5_odds_27 (Y_isRodn h0.1 hk.1 h)]
    simp only [eX5_odds_30, eX5_odds_43, eX5_odds_44, je0, if_true]
  · rw [eX5_odds_9 (Y_in g1 g2 (by omega))]
    simp only [eX5_odds_12, eX5_odds_15, eX5_odds_16, eX5_odds_17, je1, if_false]
    rw [eX5_odds_19 (Y_in (Nat.zero_le _) hn (by omega))]
    simp only [eX5_odds_22, eX5_odds_25, eX5_odds_26, je1, if_false]
    rw [eX5_odds_27 (Y_isRod h0.1 hk.1 hr)]
    simp only [eX5_odds_30, eX5_odds_33, eX5_odds_35, eX5_odds_36, je1, if_false]
    rw [eX5_odds_37 (Y_inn h)]
    simp only [eX5_odds_40, eX5_odds_43, eX5_odds_44, je0, if_true]
theorem Y_odds_o {g n r w : Nat} (h : jY mem lm tx K mo un im hd tr) (hk : jq_WK K) (hw : jq_WM K.1 mo) (hg : 1 ≤ g ∧ g ≤ 9) (hn : n ≤ 20) (hr : r < K.1) (h1 : w ≤ 1) : ∃ mem', xX5_odds [.ref 62, .int (nI g), .int (nI n), .int (nI r), .int (nI w)] (jl_w mem lm) = some (some (.int (nI ((if w = 0 then jq_up K mo g n r else K.1) / jq_gs (jq_up K mo g n r) K.1 K.1))), jl_w mem' lm) ∧ jl_V mem mem' := by
  have h0 := h.V (jl_V.t (x := nI 0))
  have v0 := jl_V.t (m := mem) (x := nI 0)
  have h8 := hk.1
  simp only [eX5_odds, eX5_odds_0, eX5_odds_1, eX5_odds_2, eX5_odds_5, eX5_odds_6, eX5_odds_7]
  rw [eX5_odds_9 (Y_in hg.1 hg.2 (by omega))]
  simp only [eX5_odds_12, eX5_odds_15, eX5_odds_16, eX5_odds_17, je1, if_false]
  rw [eX5_odds_19 (Y_in (Nat.zero_le _) hn (by omega))]
  simp only [eX5_odds_22, eX5_odds_25, eX5_odds_26, je1, if_false]
  rw [eX5_odds_27 (Y_isRod h0.2.1.1 hk.1 hr)]
  simp only [eX5_odds_30, eX5_odds_33, eX5_odds_35, eX5_odds_36, je1, if_false]
  rw [eX5_odds_37 (Y_in (Nat.zero_le _) h1 (by omega))]
  simp only [eX5_odds_40, eX5_odds_43, eX5_odds_44, eX5_odds_45, eX5_odds_46, eX5_odds_48, eX5_odds_49, je1, if_false]
  generalize jl_s mem 62 0 (nI 0) = m0 at h0 v0 ⊢
  obtain ⟨ls', m1, hI, he⟩ := jr_loop (P := pX5_odds) (pc := 51) (lm := lm) (fun s ls m => ls = [.ref 62, .int (nI g), .int (nI n), .int (nI r), .int (nI w), .int (nI (jq_sum (fun s => if (jq_go K n (jq_g0 K s g mo)).2.1.testBit r = true then 1 else 0) s)), .int (nI s)] ∧ jl_V m0 m) K.1 (by
    intro s ls m hs ⟨hl, v1⟩
    subst hl
    have Y1 := h0.V v1
    have e3 : ¬ K.1 ≤ s := by omega
    obtain ⟨m2, e2, c2, c3, G2⟩ := Y_gust (lm := lm) (s := s) (g := g) (n := n) Y1.2.1 Y1.2.2.1 hk hw hs hg.2 hn
    have h256 := (jq_WS_go hk (by omega) (jq_WS_g0 hk hs hg.2 hw) n).2.1
    refine ⟨[.ref 62, .int (nI g), .int (nI n), .int (nI r), .int (nI w), .int (nI (jq_sum (fun s => if (jq_go K n (jq_g0 K s g mo)).2.1.testBit r = true then 1 else 0) (s + 1))), .int (nI (s + 1))], m2, ⟨rfl, v1.tr (jl_V.G G2)⟩, ?_⟩
    refine Eq.trans ?_ eX5_odds_92
    have es : jq_sum (fun s => if (jq_go K n (jq_g0 K s g mo)).2.1.testBit r = true then 1 else 0) (s + 1) = jq_sum (fun s => if (jq_go K n (jq_g0 K s g mo)).2.1.testBit r = true then 1 else 0) s + (if (jq_go K n (jq_g0 K s g mo)).2.1.testBit r = true then 1 else 0) := rfl
    rw [es]
    simp (disch := first | assumption | omega) only [eX5_odds_51, eX5_odds_53, eX5_odds_54, eX5_odds_57, eX5_odds_60, eX5_odds_61, eX5_odds_63, eX5_odds_64, Y1.2.1.1, nI_leI, e3, if_false]
    rw [eX5_odds_65 e2]
    simp only [eX5_odds_68, eX5_odds_70, eX5_odds_71, eX5_odds_74, c2]
    rw [eX5_odds_75 (Y_has h256 (by omega))]
    by_cases hb : (jq_go K n (jq_g0 K s g mo)).2.1.testBit r = true
    · rw [if_pos hb]
      simp only [eX5_odds_78, eX5_odds_81, eX5_odds_82, eX5_odds_85, eX5_odds_86, eX5_odds_87, eX5_odds_89, je1, if_false, nI_add]
    · rw [if_neg hb]
      simp only [eX5_odds_78, eX5_odds_85, eX5_odds_86, eX5_odds_87, eX5_odds_89, je0, if_true, nI_add]) K.1 0 [.ref 62, .int (nI g), .int (nI n), .int (nI r), .int (nI w), .int (nI 0), .int (nI 0)] m0 (by omega) ⟨rfl, jl_V.rf⟩
  obtain ⟨rfl, v1⟩ := hI
  have Y1 := h0.V v1
  refine ⟨m1, ?_, v0.tr v1⟩
  rw [he]
  have hup : jq_sum (fun s => if (jq_go K n (jq_g0 K s g mo)).2.1.testBit r = true then 1 else 0) K.1 = jq_up K mo g n r := rfl
  have hle := jq_up_le (K := K) (mo := mo) (g := g) (n := n) (r := r)
  rw [hup, jq_gcd (by omega) h8 (by omega)]
  generalize jq_up K mo g n r = u at *
  simp (disch := first | assumption | omega) only [eX5_odds_51, eX5_odds_53, eX5_odds_54, eX5_odds_57, eX5_odds_95, eX5_odds_97, eX5_odds_98, Y1.2.1.1, nI_leI, Nat.le_refl, if_true]
  rw [eX5_odds_101 (Y_gcd (by omega) h8)]
  have hp : 0 < Nat.gcd u K.1 := Nat.gcd_pos_of_pos_right _ (by omega)
  have hg8 : Nat.gcd u K.1 ≤ 8 := Nat.le_trans (Nat.gcd_le_right _ (by omega)) h8
  generalize Nat.gcd u K.1 = d at *
  have hz : ¬ nI d = 0 := fun q => absurd ((jz_eq (by omega)).mp q) (by omega)
  have d1 : nI u / nI d = nI (u / d) := pk_div (by omega) (by omega) (by omega)
  have d2 : nI K.1 / nI d = nI (K.1 / d) := pk_div (by omega) (by omega) (by omega)
  by_cases hw0 : w = 0
  · subst hw0
    simp (disch := first | assumption | omega) only [eX5_odds_104, eX5_odds_106, eX5_odds_108, eX5_odds_111, eX5_odds_113, eX5_odds_115, eX5_odds_116, eX5_odds_119, eX5_odds_120, eX5_odds_123, eX5_odds_125, eX5_odds_126, je0, if_true, d1]
  · have hwz : ¬ nI w = 0 := fun q => hw0 ((jz_eq (by omega)).mp q)
    simp (disch := first | assumption | omega) only [eX5_odds_104, eX5_odds_106, eX5_odds_108, eX5_odds_111, eX5_odds_113, eX5_odds_115, eX5_odds_116, eX5_odds_119, eX5_odds_120, eX5_odds_123, eX5_odds_125, eX5_odds_126, hwz, hw0, if_false, Y1.2.1.1, d2]
theorem Y_best_b {x y : Int32} (h : (x < nI 0 ∨ nI 20 < x) ∨ ((∃ n, n ≤ 20 ∧ x = nI n) ∧ (y < nI 0 ∨ nI 1 < y))) : xX5_best [.ref 62, .int x, .int y] (jl_w mem lm) = some (some (.int (-1)), jl_w (jl_s mem 62 0 (nI 0)) lm) := by
  simp only [eX5_best, eX5_best_0, eX5_best_1, eX5_best_2, eX5_best_5, eX5_best_6, eX5_best_7]
  rcases h with h | ⟨⟨n, hn, rfl⟩, h⟩
  · rw [eX5_best_9 (Y_inn h)]
    simp only [eX5_best_12, eX5_best_24, eX5_best_25, je0, if_true]
  · rw [eX5_best_9 (Y_in (Nat.zero_le _) hn (by omega))]
    simp only [eX5_best_12, eX5_best_15, eX5_best_16, eX5_best_17, je1, if_false]
    rw [eX5_best_18 (Y_inn h)]
    simp only [eX5_best_21, eX5_best_24, eX5_best_25, je0, if_true]
theorem Y_best1 {p g S : Nat} {a1 a2 a5 a6 v8 v9 : Value} {a3 a4 : Int32} {m : jl_M} (hS : S < 256) (h27 : m 62 27 = nI S) (hp : jq_pop S = p) : ∃ v8', jr_ev pX5_best 78 [.ref 62, a1, a2, .int a3, .int a4, a5, a6, .int (nI g), v8, v9] [] (jl_w m lm) = jr_ev pX5_best 128 [.ref 62, a1, a2, .int (if nI p ≤ a4 then a3 else nI g), .int (if nI p ≤ a4 then a4 else nI p), a5, a6, .int (nI g), v8', v9] [] (jl_w m lm) := by
  have ho := Y_ones (mem := m) (lm := lm) hS
  rw [hp] at ho
  by_cases h : nI p ≤ a4
  · refine ⟨.int (nI 0), ?_⟩
    simp only [eX5_best_78, eX5_best_79, h27]
    rw [eX5_best_82 ho]
    simp only [eX5_best_85, eX5_best_87, eX5_best_90, eX5_best_91, eX5_best_94, eX5_best_95, eX5_best_97, eX5_best_99, eX5_best_102, eX5_best_104, eX5_best_107, eX5_best_108, eX5_best_109, eX5_best_111, eX5_best_124, eX5_best_126, h, if_true, je0]
  · refine ⟨.int (nI 1), ?_⟩
    simp only [eX5_best_78, eX5_best_79, h27]
    rw [eX5_best_82 ho]
    simp only [eX5_best_85, eX5_best_87, eX5_best_90, eX5_best_91, eX5_best_94, eX5_best_95, eX5_best_97, eX5_best_99, eX5_best_102, eX5_best_104, eX5_best_107, eX5_best_108, eX5_best_109, eX5_best_111, eX5_best_114, eX5_best_115, h, if_false, je1, h27]
    rw [eX5_best_118 ho]
    simp only [eX5_best_121, eX5_best_124, eX5_best_126]
theorem Y_best2 {H g S : Nat} {a1 a2 a3 a4 v8 v9 : Value} {a5 a6 : Int32} {m : jl_M} (hS : S < 256) (h27 : m 62 27 = nI S) (h28 : m 62 28 = nI H) : ∃ v9', jr_ev pX5_best 128 [.ref 62, a1, a2, a3, a4, .int a5, .int a6, .int (nI g), v8, v9] [] (jl_w m lm) = jr_ev pX5_best 181 [.ref 62, a1, a2, a3, a4, .int (if S = 0 ∨ a6 ≤ nI H then a5 else nI g), .int (if S = 0 ∨ a6 ≤ nI H then a6 else nI H), .int (nI g), v8, v9'] [] (jl_w m lm) := by
  by_cases h0 : S = 0
  · refine ⟨.int (nI 0), ?_⟩
    have hor : S = 0 ∨ a6 ≤ nI H := Or.inl h0
    rw [if_pos hor, if_pos hor]
    simp (disch := first | assumption | omega) only [eX5_best_128, eX5_best_129, eX5_best_132, eX5_best_135, eX5_best_136, eX5_best_139, eX5_best_141, eX5_best_144, eX5_best_145, eX5_best_148, eX5_best_149, eX5_best_151, eX5_best_153, eX5_best_156, eX5_best_158, eX5_best_161, eX5_best_163, eX5_best_165, eX5_best_167, eX5_best_170, eX5_best_171, eX5_best_174, eX5_best_177, eX5_best_179, h27, h0, if_true, je0]
  · have hz : ¬ nI S = 0 := fun q => h0 ((jz_eq (by omega)).mp q)
    by_cases h : a6 ≤ nI H
    · refine ⟨.int (nI 0), ?_⟩
      have hor : S = 0 ∨ a6 ≤ nI H := Or.inr h
      rw [if_pos hor, if_pos hor]
      simp (disch := first | assumption | omega) only [eX5_best_128, eX5_best_129, eX5_best_132, eX5_best_135, eX5_best_136, eX5_best_139, eX5_best_141, eX5_best_144, eX5_best_145, eX5_best_148, eX5_best_149, eX5_best_151, eX5_best_153, eX5_best_156, eX5_best_158, eX5_best_161, eX5_best_163, eX5_best_165, eX5_best_167, eX5_best_170, eX5_best_171, eX5_best_174, eX5_best_177, eX5_best_179, h27, h28, hz, h, if_true, if_false, je0]
    · refine ⟨.int (nI 1), ?_⟩
      have hor : ¬ (S = 0 ∨ a6 ≤ nI H) := fun q => q.elim h0 h
      rw [if_neg hor, if_neg hor]
      simp (disch := first | assumption | omega) only [eX5_best_128, eX5_best_129, eX5_best_132, eX5_best_135, eX5_best_136, eX5_best_139, eX5_best_141, eX5_best_144, eX5_best_145, eX5_best_148, eX5_best_149, eX5_best_151, eX5_best_153, eX5_best_156, eX5_best_158, eX5_best_161, eX5_best_163, eX5_best_165, eX5_best_167, eX5_best_170, eX5_best_171, eX5_best_174, eX5_best_177, eX5_best_179, h27, h28, hz, h, if_false, je1]
/-- the class's best so far, the reference's best so far -/
def jq_b4 (A : Int32 × Int32) (x : Int32) : Prop := (x = -1 ∧ A.2 = -1000) ∨ ∃ p, p ≤ 8 ∧ x = nI p ∧ A.2 = nI p
def jq_b6 (A : Int32 × Int32) (x : Int32) : Prop := ∃ L, L ≤ 99 ∧ x = nI L ∧ ((L = 99 ∧ A.2 = -1000) ∨ (L ≤ 64 ∧ A.2 = -nI L))
theorem jq_b4_s {A : Int32 × Int32} {x : Int32} {n g : Nat} (h : jq_b4 A x) : jq_b4 (jq_fb K mo n 0 A g) (if nI (jq_pop (jq_G K mo n g).2.1) ≤ x then x else nI (jq_pop (jq_G K mo n g).2.1)) ∧ (jq_fb K mo n 0 A g).1 = if nI (jq_pop (jq_G K mo n g).2.1) ≤ x then A.1 else nI g := by
  have hp := jq_pop_le (m := (jq_G K mo n g).2.1)
  have hfb : jq_fb K mo n 0 A g = if nI (jq_pop (jq_G K mo n g).2.1) ≤ A.2 then A else (nI g, nI (jq_pop (jq_G K mo n g).2.1)) := rfl
  rw [hfb]
  generalize jq_pop (jq_G K mo n g).2.1 = p at *
  have d1 : ∀ p, p ≤ 8 → ¬ nI p ≤ -1 := by decide
  have d2 : ∀ p, p ≤ 8 → ¬ nI p ≤ -1000 := by decide
  rcases h with ⟨rfl, h⟩ | ⟨q, hq, rfl, h⟩
  · rw [h, if_neg (d2 p hp), if_neg (d1 p hp), if_neg (d1 p hp)]
    exact ⟨Or.inr ⟨p, hp, rfl, rfl⟩, rfl⟩
  · rw [h]
    by_cases e : nI p ≤ nI q
    · rw [if_pos e, if_pos e, if_pos e]
      exact ⟨Or.inr ⟨q, hq, rfl, h⟩, rfl⟩
    · rw [if_neg e, if_neg e, if_neg e]
      exact ⟨Or.inr ⟨p, hp, rfl, rfl⟩, rfl⟩
theorem jq_neg {a b : Nat} (ha : a ≤ 64) (hb : b ≤ 64) : (-nI a ≤ -nI b) ↔ b ≤ a := by
  have h : ∀ a, a < 65 → ∀ b, b < 65 → ((-nI a ≤ -nI b) ↔ b ≤ a) := by decide +kernel
  exact h a (by omega) b (by omega)
theorem jq_b6_s {A : Int32 × Int32} {x : Int32} {n g : Nat} (hH : (jq_G K mo n g).2.2 ≤ 64) (h : jq_b6 A x) : jq_b6 (jq_fb K mo n 1 A g) (if (jq_G K mo n g).2.1 = 0 ∨ x ≤ nI (jq_G K mo n g).2.2 then x else nI (jq_G K mo n g).2.2) ∧ (jq_fb K mo n 1 A g).1 = if (jq_G K mo n g).2.1 = 0 ∨ x ≤ nI (jq_G K mo n g).2.2 then A.1 else nI g := by
  have hfb : jq_fb K mo n 1 A g = if (if (jq_G K mo n g).2.1 = 0 then (-1000 : Int32) else -nI (jq_G K mo n g).2.2) ≤ A.2 then A else (nI g, if (jq_G K mo n g).2.1 = 0 then (-1000 : Int32) else -nI (jq_G K mo n g).2.2) := rfl
  rw [hfb]
  generalize (jq_G K mo n g).2.2 = H at *
  generalize (jq_G K mo n g).2.1 = S at *
  have d1 : ∀ L, L ≤ 64 → (-1000 : Int32) ≤ -nI L := by decide
  have d2 : ∀ L, L ≤ 64 → ¬ -nI L ≤ (-1000 : Int32) := by decide
  have d3 : ¬ nI 99 ≤ nI H := fun q => absurd ((nI_leI (by omega) (by omega)).mp q) (by omega)
  obtain ⟨L, hL, rfl, h⟩ := h
  by_cases e0 : S = 0
  · rw [if_pos e0]
    have hor : S = 0 ∨ nI L ≤ nI H := Or.inl e0
    have hle : (-1000 : Int32) ≤ A.2 := by
      rcases h with ⟨_, h⟩ | ⟨h1, h⟩
      · rw [h]; decide
      · rw [h]; exact d1 L h1
    rw [if_pos hor, if_pos hor, if_pos hle]
    exact ⟨⟨L, hL, rfl, h⟩, rfl⟩
  · rw [if_neg e0]
    rcases h with ⟨rfl, h⟩ | ⟨h1, h⟩
    · have hor : ¬ (S = 0 ∨ nI 99 ≤ nI H) := fun q => q.elim e0 d3
      rw [if_neg hor, if_neg hor, h, if_neg (d2 H hH)]
      exact ⟨⟨H, by omega, rfl, Or.inr ⟨hH, rfl⟩⟩, rfl⟩
    · have hnn := jq_neg hH h1
      by_cases e : L ≤ H
      · have hor : S = 0 ∨ nI L ≤ nI H := Or.inr ((nI_leI (by omega) (by omega)).mpr e)
        rw [if_pos hor, if_pos hor, h, if_pos (hnn.mpr e)]
        exact ⟨⟨L, hL, rfl, Or.inr ⟨h1, h⟩⟩, rfl⟩
      · have hor : ¬ (S = 0 ∨ nI L ≤ nI H) := fun q => q.elim e0 (fun q => e ((nI_leI (by omega) (by omega)).mp q))
        rw [if_neg hor, if_neg hor, h, if_neg (fun q => e (hnn.mp q))]
        exact ⟨⟨H, by omega, rfl, Or.inr ⟨hH, rfl⟩⟩, rfl⟩
theorem Y_best_o {n w : Nat} (h : jY mem lm tx K mo un im hd tr) (hk : jq_WK K) (hw : jq_WM K.1 mo) (hn : n ≤ 20) (h1 : w ≤ 1) : ∃ mem', xX5_best [.ref 62, .int (nI n), .int (nI w)] (jl_w mem lm) = some (some (.int (jq_acc (jq_fb K mo n w) (-9, -1000) (10 * K.1)).1), jl_w mem' lm) ∧ jl_V mem mem' := by
  have h0 := h.V (jl_V.t (x := nI 0))
  have v0 := jl_V.t (m := mem) (x := nI 0)
  have h8 := hk.1
  simp only [eX5_best, eX5_best_0, eX5_best_1, eX5_best_2, eX5_best_5, eX5_best_6, eX5_best_7]
  rw [eX5_best_9 (Y_in (Nat.zero_le _) hn (by omega))]
  simp only [eX5_best_12, eX5_best_15, eX5_best_16, eX5_best_17, je1, if_false]
  rw [eX5_best_18 (Y_in (Nat.zero_le _) h1 (by omega))]
  simp only [eX5_best_21, eX5_best_24, eX5_best_25, eX5_best_26, eX5_best_28, eX5_best_29, eX5_best_30, eX5_best_32, eX5_best_34, eX5_best_36, eX5_best_38, eX5_best_40, eX5_best_41, je1, if_false]
  generalize jl_s mem 62 0 (nI 0) = m0 at h0 v0 ⊢
  obtain ⟨ls', m1, hI, he⟩ := jr_loop (P := pX5_best) (pc := 43) (lm := lm) (fun g ls m => (∃ a4 a6 v8 v9, ls = [.ref 62, .int (nI n), .int (nI w), .int (jq_acc (jq_fb K mo n 0) (-9, -1000) g).1, .int a4, .int (jq_acc (jq_fb K mo n 1) (-9, -1000) g).1, .int a6, .int (nI g), v8, v9] ∧ jq_b4 (jq_acc (jq_fb K mo n 0) (-9, -1000) g) a4 ∧ jq_b6 (jq_acc (jq_fb K mo n 1) (-9, -1000) g) a6) ∧ jl_V m0 m) (10 * K.1) (by
    intro g ls m hg ⟨⟨a4, a6, v8, v9, hl, b4, b6⟩, v1⟩
    subst hl
    have Y1 := h0.V v1
    have e3 : ¬ 10 * K.1 ≤ g := by omega
    have e10 : ¬ nI 10 = 0 := by decide
    have em : nI 10 * nI K.1 = nI (10 * K.1) := pk_mul _ _
    have er : nI g - nI g / nI 10 * nI 10 = nI (g % 10) := pk_rem (by omega) (by omega) (by omega)
    have ed : nI g / nI 10 = nI (g / 10) := pk_div (by omega) (by omega) (by omega)
    have er' : nI g - nI (g / 10) * nI 10 = nI (g % 10) := by rw [← ed]; exact er
    have hm10 : g % 10 < 10 := Nat.mod_lt _ (by omega)
    by_cases hg0 : g % 10 = 0
    · have s0 : ∀ w, jq_acc (jq_fb K mo n w) ((-9 : Int32), (-1000 : Int32)) (g + 1) = jq_acc (jq_fb K mo n w) (-9, -1000) g := fun w => by
        show (if g % 10 = 0 then _ else _) = _
        rw [if_pos hg0]
      refine ⟨[.ref 62, .int (nI n), .int (nI w), .int (jq_acc (jq_fb K mo n 0) (-9, -1000) (g + 1)).1, .int a4, .int (jq_acc (jq_fb K mo n 1) (-9, -1000) (g + 1)).1, .int a6, .int (nI (g + 1)), v8, v9], m, ⟨⟨a4, a6, v8, v9, rfl, by rw [s0]; exact b4, by rw [s0]; exact b6⟩, v1⟩, ?_⟩
      refine Eq.trans ?_ eX5_best_184
      rw [s0, s0]
      have hz : nI (g % 10) ≤ 0 := (jz_le (by omega)).mpr hg0
      simp (disch := first | assumption | omega) only [eX5_best_43, eX5_best_45, eX5_best_47, eX5_best_48, eX5_best_51, eX5_best_52, eX5_best_55, eX5_best_57, eX5_best_59, eX5_best_60, eX5_best_181, Y1.2.1.1, em, nI_leI, e3, if_false, er, hz, if_true, nI_add]
    · have s0 : ∀ w, jq_acc (jq_fb K mo n w) ((-9 : Int32), (-1000 : Int32)) (g + 1) = jq_fb K mo n w (jq_acc (jq_fb K mo n w) (-9, -1000) g) g := fun w => by
        show (if g % 10 = 0 then _ else _) = _
        rw [if_neg hg0]
      have hdv : g / 10 < K.1 := by omega
      obtain ⟨m2, e2, c2, c3, G2⟩ := Y_gust (lm := lm) (s := g / 10) (g := g % 10) (n := n) Y1.2.1 Y1.2.2.1 hk hw hdv (by omega) hn
      have hws := jq_WS_go hk (by omega) (jq_WS_g0 hk hdv (show g % 10 ≤ 9 by omega) hw) n
      have q4 := jq_b4_s (K := K) (mo := mo) (n := n) (g := g) b4
      have q6 := jq_b6_s (K := K) (mo := mo) (n := n) (g := g) hws.2.2.1 b6
      obtain ⟨v8', k1⟩ := Y_best1 (lm := lm) (g := g) (a1 := .int (nI n)) (a2 := .int (nI w)) (a3 := (jq_acc (jq_fb K mo n 0) (-9, -1000) g).1) (a4 := a4) (a5 := .int (jq_acc (jq_fb K mo n 1) (-9, -1000) g).1) (a6 := .int a6) (v8 := v8) (v9 := v9) hws.2.1 c2 rfl
      obtain ⟨v9', k2⟩ := Y_best2 (lm := lm) (g := g) (a1 := .int (nI n)) (a2 := .int (nI w)) (a3 := .int (if nI (jq_pop (jq_G K mo n g).2.1) ≤ a4 then (jq_acc (jq_fb K mo n 0) (-9, -1000) g).1 else nI g)) (a4 := .int (if nI (jq_pop (jq_G K mo n g).2.1) ≤ a4 then a4 else nI (jq_pop (jq_G K mo n g).2.1))) (a5 := (jq_acc (jq_fb K mo n 1) (-9, -1000) g).1) (a6 := a6) (v8 := v8') (v9 := v9) hws.2.1 c2 c3
      refine ⟨[.ref 62, .int (nI n), .int (nI w), .int (jq_acc (jq_fb K mo n 0) (-9, -1000) (g + 1)).1, .int (if nI (jq_pop (jq_G K mo n g).2.1) ≤ a4 then a4 else nI (jq_pop (jq_G K mo n g).2.1)), .int (jq_acc (jq_fb K mo n 1) (-9, -1000) (g + 1)).1, .int (if (jq_G K mo n g).2.1 = 0 ∨ a6 ≤ nI (jq_G K mo n g).2.2 then a6 else nI (jq_G K mo n g).2.2), .int (nI (g + 1)), v8', v9'], m2, ⟨⟨_, _, v8', v9', rfl, by rw [s0]; exact q4.1, by rw [s0]; exact q6.1⟩, v1.tr (jl_V.G G2)⟩, ?_⟩
      refine Eq.trans ?_ eX5_best_184
      rw [s0, s0, q4.2, q6.2]
      have hz : ¬ nI (g % 10) ≤ 0 := fun q => hg0 ((jz_le (by omega)).mp q)
      simp (disch := first | assumption | omega) only [eX5_best_43, eX5_best_45, eX5_best_47, eX5_best_48, eX5_best_51, eX5_best_52, eX5_best_55, eX5_best_57, eX5_best_59, eX5_best_60, eX5_best_63, eX5_best_64, eX5_best_66, eX5_best_68, eX5_best_69, eX5_best_71, eX5_best_73, eX5_best_74, Y1.2.1.1, em, nI_leI, e3, if_false, er', hz, ed]
      rw [eX5_best_75 e2, k1, k2]
      simp only [eX5_best_181, nI_add]) (10 * K.1) 0 [.ref 62, .int (nI n), .int (nI w), .int (-9), .int (-1), .int (-9), .int (nI 99), .int (nI 0), .null, .null] m0 (by omega) ⟨⟨-1, nI 99, .null, .null, rfl, Or.inl ⟨rfl, rfl⟩, ⟨99, by omega, rfl, Or.inl ⟨rfl, rfl⟩⟩⟩, jl_V.rf⟩
  obtain ⟨⟨a4, a6, v8, v9, rfl, b4, b6⟩, v1⟩ := hI
  have Y1 := h0.V v1
  have em : nI 10 * nI K.1 = nI (10 * K.1) := pk_mul _ _
  refine ⟨m1, ?_, v0.tr v1⟩
  rw [he]
  by_cases hw0 : w = 0
  · subst hw0
    simp (disch := first | assumption | omega) only [eX5_best_43, eX5_best_45, eX5_best_47, eX5_best_48, eX5_best_51, eX5_best_52, eX5_best_187, eX5_best_188, eX5_best_191, eX5_best_192, eX5_best_195, eX5_best_197, Y1.2.1.1, em, nI_leI, Nat.le_refl, if_true, je0]
  · have hw1 : w = 1 := by omega
    subst hw1
    simp (disch := first | assumption | omega) only [eX5_best_43, eX5_best_45, eX5_best_47, eX5_best_48, eX5_best_51, eX5_best_52, eX5_best_187, eX5_best_188, eX5_best_191, eX5_best_192, eX5_best_195, eX5_best_197, Y1.2.1.1, em, nI_leI, Nat.le_refl, if_true, je1, if_false]
end YM

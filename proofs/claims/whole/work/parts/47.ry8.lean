theorem jq_ex2 {a c : Nat} {mo : jq_M} (j : Nat) : jq_ex a c (jq_ex a c mo) j = mo j := by
  unfold jq_ex
  by_cases h1 : j = 3 + a
  · rw [if_pos h1]
    by_cases h2 : 3 + c = 3 + a
    · rw [if_pos h2, h1, h2]
    · rw [if_neg h2, if_pos rfl, h1]
  · rw [if_neg h1]
    by_cases h2 : j = 3 + c
    · rw [if_pos h2, if_pos rfl, h2]
    · rw [if_neg h2, if_neg h1, if_neg h2]
/-- what the reference's search for a swap may change -/
def jl_Sw (mem mem' : jl_M) : Prop := (∀ k, k ≠ 62 → k ≠ 67 → k ≠ 68 → mem' k = mem k) ∧ ∀ j, j ≠ 27 → j ≠ 28 → mem' 62 j = mem 62 j
theorem jl_Sw.rf {m : jl_M} : jl_Sw m m := ⟨fun _ _ _ _ => rfl, fun _ _ _ => rfl⟩
theorem jl_Sw.tr {a b c : jl_M} (h1 : jl_Sw a b) (h2 : jl_Sw b c) : jl_Sw a c := ⟨fun k x y z => (h2.1 k x y z).trans (h1.1 k x y z), fun j x y => (h2.2 j x y).trans (h1.2 j x y)⟩
theorem jl_Sw.G {a b : jl_M} (h : jl_G a b) : jl_Sw a b := ⟨fun k x _ y => h.1 k x y, h.2⟩
theorem jl_Sw.F {a b : jl_M} (h : jl_F (fun k => k = 67) a b) : jl_Sw a b := ⟨fun k _ x _ => h k x, fun j _ _ => by rw [h 62 (by omega)]⟩
section YM
variable {mem : jl_M} {lm : jl_L} {tx : jq_X} {K : jq_K} {mo : jq_M} {un : List jq_M} {im : Nat → Option jq_M} {hd : jq_H} {tr : Int64}
theorem jy_K.S {mem' : jl_M} (h : jy_K mem K) (f : jl_Sw mem mem') : jy_K mem' K := h.keep (f.2 9 (by omega) (by omega)) (f.2 10 (by omega) (by omega)) (f.1 64 (by omega) (by omega) (by omega)) (f.1 65 (by omega) (by omega) (by omega)) (f.1 66 (by omega) (by omega) (by omega))
theorem jY.S {mem' : jl_M} (h : jY mem lm tx K mo un im hd tr) (f : jl_Sw mem mem') (hM : jy_M mem' 67 mo) : jY mem' lm tx K mo un im hd tr :=
  ⟨h.1.keep (f.2 3 (by omega) (by omega)) (f.1 63 (by omega) (by omega) (by omega)), h.2.1.S f, hM, h.2.2.2.1.keep (f.2 22 (by omega) (by omega)) (f.1 71 (by omega) (by omega) (by omega)), h.2.2.2.2.1.keep (f.1 69 (by omega) (by omega) (by omega)) (f.1 70 (by omega) (by omega) (by omega)), h.2.2.2.2.2.1.keep (f.2 26 (by omega) (by omega)) (f.1 72 (by omega) (by omega) (by omega)) (f.1 73 (by omega) (by omega) (by omega)) (f.1 74 (by omega) (by omega) (by omega)), h.2.2.2.2.2.2⟩
theorem Y_swap_b {x y z : Int32} (hK : jy_K mem K) (hk : jq_WK K) (h : (x < 0 ∨ nI K.1 ≤ x) ∨ ((∃ r, r < K.1 ∧ x = nI r) ∧ (y < nI 1 ∨ nI 9 < y)) ∨ ((∃ r, r < K.1 ∧ x = nI r) ∧ (∃ g, 1 ≤ g ∧ g ≤ 9 ∧ y = nI g) ∧ (z < nI 0 ∨ nI 20 < z))) : xX5_swap [.ref 62, .int x, .int y, .int z] (jl_w mem lm) = some (some (.int (-1)), jl_w (jl_s mem 62 0 (nI 0)) lm) := by
  have h0 := hK.V (jl_V.t (x := nI 0))
  simp only [eX5_swap, eX5_swap_0, eX5_swap_1, eX5_swap_2, eX5_swap_5, eX5_swap_6]
  rcases h with h | ⟨⟨r, hr, rfl⟩, h⟩ | ⟨⟨r, hr, rfl⟩, ⟨g, g1, g2, rfl⟩, h⟩
  · rw [eX5_swap_7 (Y_isRodn h0.1 hk.1 h)]
    simp only [eX5_swap_10, eX5_swap_33, eX5_swap_34, je0, if_true]
  · rw [eX5_swap_7 (Y_isRod h0.1 hk.1 hr)]
    simp only [eX5_swap_10, eX5_swap_13, eX5_swap_14, eX5_swap_15, je1, if_false]
    rw [eX5_swap_17 (Y_inn h)]
    simp only [eX5_swap_20, eX5_swap_33, eX5_swap_34, je0, if_true]
  · rw [eX5_swap_7 (Y_isRod h0.1 hk.1 hr)]
    simp only [eX5_swap_10, eX5_swap_13, eX5_swap_14, eX5_swap_15, je1, if_false]
    rw [eX5_swap_17 (Y_in g1 g2 (by omega))]
    simp only [eX5_swap_20, eX5_swap_23, eX5_swap_24, eX5_swap_25, je1, if_false]
    rw [eX5_swap_27 (Y_inn h)]
    simp only [eX5_swap_30, eX5_swap_33, eX5_swap_34, je0, if_true]
theorem Y_swap_o {s g n : Nat} (h : jY mem lm tx K mo un im hd tr) (hk : jq_WK K) (hw : jq_WM K.1 mo) (hs : s < K.1) (hg : 1 ≤ g ∧ g ≤ 9) (hn : n ≤ 20) : ∃ mem', xX5_swap [.ref 62, .int (nI s), .int (nI g), .int (nI n)] (jl_w mem lm) = some (some (.int (jq_fr (jq_fo K mo s g n) (-9, (jq_go K n (jq_g0 K s g mo)).2.2) 0 K.1).1), jl_w mem' lm) ∧ jY mem' lm tx K mo un im hd tr ∧ jl_lo mem mem' := by
  have h0 := h.V (jl_V.t (x := nI 0))
  have l0 := (jl_V.t (m := mem) (x := nI 0)).lo
  have h8 := hk.1
  simp only [eX5_swap, eX5_swap_0, eX5_swap_1, eX5_swap_2, eX5_swap_5, eX5_swap_6]
  rw [eX5_swap_7 (Y_isRod h0.2.1.1 hk.1 hs)]
  simp only [eX5_swap_10, eX5_swap_13, eX5_swap_14, eX5_swap_15, je1, if_false]
  rw [eX5_swap_17 (Y_in hg.1 hg.2 (by omega))]
  simp only [eX5_swap_20, eX5_swap_23, eX5_swap_24, eX5_swap_25, je1, if_false]
  rw [eX5_swap_27 (Y_in (Nat.zero_le _) hn (by omega))]
  simp only [eX5_swap_30, eX5_swap_33, eX5_swap_34, eX5_swap_35, eX5_swap_36, eX5_swap_37, eX5_swap_38, je1, if_false]
  generalize jl_s mem 62 0 (nI 0) = mz at h0 l0 ⊢
  have a2 := h0.2.1
  have a3 := h0.2.2.1
  have hle : ∀ a c, a < K.1 → c < K.1 → (jq_go K n (jq_g0 K s g (jq_ex a c mo))).2.2 ≤ 64 := fun a c ha hc => jq_h_go_le hk (jq_WM_ex hk.1 ha hc hw) hs hg.2
  have inner : ∀ a (x : Int32 × Nat) (m : jl_M), a < K.1 → x.2 ≤ 64 → jl_Sw mz m → jy_M m 67 mo → ∃ ls' m', (ls' = [.ref 62, .int (nI s), .int (nI g), .int (nI n), .int (nI (jq_fo K mo s g n x a).2), .int (jq_fo K mo s g n x a).1, .int (nI a), .int (nI K.1)] ∧ (jl_Sw mz m' ∧ jy_M m' 67 mo) ∧ (jq_fo K mo s g n x a).2 ≤ 64) ∧ jr_ev pX5_swap 70 [.ref 62, .int (nI s), .int (nI g), .int (nI n), .int (nI x.2), .int x.1, .int (nI a), .int (nI (a + 1))] [] (jl_w m lm) = jr_ev pX5_swap 70 ls' [] (jl_w m' lm) := by
    intro a x m ha hx hF hFm
    obtain ⟨ls', m', ⟨q1, q2, q3, q4⟩, q5⟩ := jr_loop (P := pX5_swap) (pc := 70) (lm := lm) (fun i ls m => (ls = [.ref 62, .int (nI s), .int (nI g), .int (nI n), .int (nI (jq_fr (jq_fs K mo s g n a) x (a + 1) (i - (a + 1))).2), .int (jq_fr (jq_fs K mo s g n a) x (a + 1) (i - (a + 1))).1, .int (nI a), .int (nI i)] ∧ (jl_Sw mz m ∧ jy_M m 67 mo) ∧ (jq_fr (jq_fs K mo s g n a) x (a + 1) (i - (a + 1))).2 ≤ 64 ∧ a < i)) K.1 (by
      intro i ls m hi ⟨hl, ⟨hF, hFm⟩, hx, hai⟩
      subst hl
      have k1 := a2.S hF
      have hwx := jq_WM_ex (c := i) hk.1 ha hi hw
      obtain ⟨m1, e1, r1, f1⟩ := Y_trades (lm := lm) (a := a) (c := i) hFm (by omega) (by omega)
      have S1 := hF.tr (jl_Sw.F f1)
      obtain ⟨m2, e2, c2, c3, G2⟩ := Y_gust (lm := lm) (s := s) (g := g) (n := n) (a2.S S1) r1 hk hwx hs hg.2 hn
      have r2 := r1.keep (G2.1 67 (by omega) (by omega))
      obtain ⟨m3, e4, r3, f3⟩ := Y_trades (lm := lm) (a := a) (c := i) r2 (by omega) (by omega)
      have S3 := (S1.tr (jl_Sw.G G2)).tr (jl_Sw.F f3)
      have r4 : jy_M m3 67 mo := fun j hj => by rw [r3 j hj, jq_ex2]
      have c4 : m3 62 28 = nI (jq_go K n (jq_g0 K s g (jq_ex a i mo))).2.2 := by rw [f3 62 (by omega)]; exact c3
      have e3 : ¬ K.1 ≤ i := by omega
      have hst : jq_fr (jq_fs K mo s g n a) x (a + 1) (i + 1 - (a + 1)) = jq_fs K mo s g n a (jq_fr (jq_fs K mo s g n a) x (a + 1) (i - (a + 1))) i := by
        rw [show i + 1 - (a + 1) = (i - (a + 1)) + 1 by omega]
        show jq_fs K mo s g n a _ (a + 1 + (i - (a + 1))) = _
        rw [show a + 1 + (i - (a + 1)) = i by omega]
      have hl64 := hle a i ha hi
      have hfs : ∀ A, jq_fs K mo s g n a A i = if (jq_go K n (jq_g0 K s g (jq_ex a i mo))).2.2 < A.2 then (nI (10 * a + i), (jq_go K n (jq_g0 K s g (jq_ex a i mo))).2.2) else A := fun A => rfl
      refine ⟨[.ref 62, .int (nI s), .int (nI g), .int (nI n), .int (nI (jq_fr (jq_fs K mo s g n a) x (a + 1) (i + 1 - (a + 1))).2), .int (jq_fr (jq_fs K mo s g n a) x (a + 1) (i + 1 - (a + 1))).1, .int (nI a), .int (nI (i + 1))], m3, ⟨rfl, ⟨S3, r4⟩, ?_, by omega⟩, ?_⟩
      · rw [hst, hfs]
        split
        · exact hl64
        · exact hx
      · refine Eq.trans ?_ eX5_swap_157
        simp (disch := first | assumption | omega) only [eX5_swap_70, eX5_swap_72, eX5_swap_73, eX5_swap_76, eX5_swap_79, eX5_swap_80, eX5_swap_81, eX5_swap_84, eX5_swap_86, k1.1, nI_leI, e3, if_false]
        rw [eX5_swap_88 e1]
        simp only [eX5_swap_91, eX5_swap_92, eX5_swap_93, eX5_swap_94]
        rw [eX5_swap_95 e2]
        simp only [eX5_swap_98, eX5_swap_99, eX5_swap_100, eX5_swap_103, eX5_swap_105]
        rw [eX5_swap_107 e4, hst, hfs]
        generalize jq_fr (jq_fs K mo s g n a) x (a + 1) (i - (a + 1)) = A at *
        by_cases hlt : (jq_go K n (jq_g0 K s g (jq_ex a i mo))).2.2 < A.2
        · have hge : ¬ A.2 ≤ (jq_go K n (jq_g0 K s g (jq_ex a i mo))).2.2 := by omega
          rw [if_pos hlt]
          simp (disch := first | assumption | omega) only [eX5_swap_110, eX5_swap_111, eX5_swap_114, eX5_swap_116, eX5_swap_119, eX5_swap_121, eX5_swap_123, eX5_swap_124, eX5_swap_126, eX5_swap_127, eX5_swap_130, eX5_swap_132, eX5_swap_134, eX5_swap_135, eX5_swap_138, eX5_swap_140, eX5_swap_143, eX5_swap_144, eX5_swap_147, eX5_swap_150, eX5_swap_152, eX5_swap_154, c4, nI_leI, hge, if_false, pk_mul, nI_add]
        · have hge : A.2 ≤ (jq_go K n (jq_g0 K s g (jq_ex a i mo))).2.2 := by omega
          rw [if_neg hlt]
          simp (disch := first | assumption | omega) only [eX5_swap_110, eX5_swap_111, eX5_swap_114, eX5_swap_116, eX5_swap_119, eX5_swap_121, eX5_swap_123, eX5_swap_124, eX5_swap_126, eX5_swap_127, eX5_swap_130, eX5_swap_132, eX5_swap_134, eX5_swap_135, eX5_swap_138, eX5_swap_140, eX5_swap_143, eX5_swap_144, eX5_swap_147, eX5_swap_150, eX5_swap_152, eX5_swap_154, c4, nI_leI, hge, if_true, nI_add]) (K.1 - (a + 1)) (a + 1) [.ref 62, .int (nI s), .int (nI g), .int (nI n), .int (nI x.2), .int x.1, .int (nI a), .int (nI (a + 1))] m (by omega) ⟨by rw [Nat.sub_self]; rfl, ⟨hF, hFm⟩, by rw [Nat.sub_self]; exact hx, by omega⟩
    exact ⟨ls', m', ⟨q1, q2, q3⟩, q5⟩
  obtain ⟨m0, e0, c2, c3, G0⟩ := Y_gust (lm := lm) (s := s) (g := g) (n := n) a2 a3 hk hw hs hg.2 hn
  have h64 := jq_h_go_le (n := n) hk hw hs hg.2
  obtain ⟨ls', mem', hI, he⟩ := jr_loop (P := pX5_swap) (pc := 55) (lm := lm) (fun a ls m => (∃ v, ls = [.ref 62, .int (nI s), .int (nI g), .int (nI n), .int (nI (jq_fr (jq_fo K mo s g n) (-9, (jq_go K n (jq_g0 K s g mo)).2.2) 0 a).2), .int (jq_fr (jq_fo K mo s g n) (-9, (jq_go K n (jq_g0 K s g mo)).2.2) 0 a).1, .int (nI a), v]) ∧ (jl_Sw mz m ∧ jy_M m 67 mo) ∧ (jq_fr (jq_fo K mo s g n) (-9, (jq_go K n (jq_g0 K s g mo)).2.2) 0 a).2 ≤ 64) K.1 (by
    intro a ls m ha ⟨⟨v, hl⟩, ⟨hF, hFm⟩, hx⟩
    subst hl
    have k1 := a2.S hF
    have e3 : ¬ K.1 ≤ a := by omega
    have hst : jq_fr (jq_fo K mo s g n) ((-9 : Int32), (jq_go K n (jq_g0 K s g mo)).2.2) 0 (a + 1) = jq_fo K mo s g n (jq_fr (jq_fo K mo s g n) (-9, (jq_go K n (jq_g0 K s g mo)).2.2) 0 a) a := by
      show jq_fo K mo s g n _ (0 + a) = _
      rw [Nat.zero_add]
    obtain ⟨ls1, m1, ⟨rfl, f1, x1⟩, e1⟩ := inner a _ m ha hx hF hFm
    refine ⟨[.ref 62, .int (nI s), .int (nI g), .int (nI n), .int (nI (jq_fr (jq_fo K mo s g n) (-9, (jq_go K n (jq_g0 K s g mo)).2.2) 0 (a + 1)).2), .int (jq_fr (jq_fo K mo s g n) (-9, (jq_go K n (jq_g0 K s g mo)).2.2) 0 (a + 1)).1, .int (nI (a + 1)), .int (nI K.1)], m1, ⟨⟨_, rfl⟩, f1, by rw [hst]; exact x1⟩, ?_⟩
    refine Eq.trans ?_ eX5_swap_163
    have k1' := a2.S f1.1
    simp (disch := first | assumption | omega) only [eX5_swap_55, eX5_swap_57, eX5_swap_58, eX5_swap_61, eX5_swap_64, eX5_swap_66, eX5_swap_67, eX5_swap_68, k1.1, nI_leI, e3, if_false, nI_add]
    rw [e1, hst]
    simp (disch := first | assumption | omega) only [eX5_swap_70, eX5_swap_72, eX5_swap_73, eX5_swap_76, eX5_swap_160, k1'.1, nI_leI, Nat.le_refl, if_true, nI_add]) K.1 0 [.ref 62, .int (nI s), .int (nI g), .int (nI n), .int (nI (jq_go K n (jq_g0 K s g mo)).2.2), .int (-9), .int (nI 0), .null] m0 (by omega) ⟨⟨_, rfl⟩, ⟨jl_Sw.G G0, a3.keep (G0.1 67 (by omega) (by omega))⟩, h64⟩
  obtain ⟨⟨v, rfl⟩, hF, hx⟩ := hI
  have k1 := a2.S hF.1
  refine ⟨mem', ?_, h0.S hF.1 hF.2, fun k hk => by rw [hF.1.1 k (by omega) (by omega) (by omega), l0 k hk]⟩
  rw [eX5_swap_39 e0]
  simp only [eX5_swap_42, eX5_swap_43, eX5_swap_46, eX5_swap_48, eX5_swap_50, eX5_swap_52, eX5_swap_53, c3]
  rw [he]
  simp (disch := first | assumption | omega) only [eX5_swap_55, eX5_swap_57, eX5_swap_58, eX5_swap_61, eX5_swap_166, eX5_swap_168, k1.1, nI_leI, Nat.le_refl, if_true]
/-! ===== what was heard ===== -/
theorem Y_fits {g : Nat} (h : jY mem lm tx K mo un im hd tr) (hk : jq_WK K) (hw : jq_WM K.1 mo) (hh : hd.1 ≤ 6 ∧ ∀ i, i < hd.1 → hd.2.1 i < K.1 ∧ hd.2.2.1 i ≤ 20 ∧ hd.2.2.2 i ≤ 1) (hg : g < 10 * K.1) : ∃ mem', xX5_isAsHeard [.ref 62, .int (nI g)] (jl_w mem lm) = some (some (.int (nI (if g % 10 ≠ 0 ∧ jq_fit K mo hd g hd.1 = true then 1 else 0))), jl_w mem' lm) ∧ jl_G mem mem' := by
  have h8 := hk.1
  have e10 : ¬ nI 10 = 0 := by decide
  have er : nI g - nI g / nI 10 * nI 10 = nI (g % 10) := pk_rem (by omega) (by omega) (by omega)
  have ed : nI g / nI 10 = nI (g / 10) := pk_div (by omega) (by omega) (by omega)
  have er' : nI g - nI (g / 10) * nI 10 = nI (g % 10) := by rw [← ed]; exact er
  have hm10 : g % 10 < 10 := Nat.mod_lt _ (by omega)
  have hdv : g / 10 < K.1 := by omega
  by_cases hg0 : g % 10 = 0
  · refine ⟨mem, ?_, jl_G.rf⟩
    have hz : nI (g % 10) ≤ 0 := (jz_le (by omega)).mpr hg0
    rw [if_neg (fun q => q.1 hg0)]
    simp (disch := first | assumption | omega) only [eX5_isAsHeard, eX5_isAsHeard_0, eX5_isAsHeard_1, eX5_isAsHeard_3, eX5_isAsHeard_4, eX5_isAsHeard_7, eX5_isAsHeard_8, eX5_isAsHeard_11, eX5_isAsHeard_12, eX5_isAsHeard_13, eX5_isAsHeard_14, er, hz, if_true]
    by_cases hd0 : hd.1 ≤ 0
    · simp (disch := first | assumption | omega) only [eX5_isAsHeard_15, eX5_isAsHeard_16, eX5_isAsHeard_17, eX5_isAsHeard_20, eX5_isAsHeard_79, eX5_isAsHeard_80_0, eX5_isAsHeard_80_1, h.2.2.2.2.2.1.1, nI_leI, hd0, if_true]
    · simp (disch := first | assumption | omega) only [eX5_isAsHeard_15, eX5_isAsHeard_16, eX5_isAsHeard_17, eX5_isAsHeard_20, eX5_isAsHeard_23, eX5_isAsHeard_24, eX5_isAsHeard_79, eX5_isAsHeard_80_0, eX5_isAsHeard_80_1, h.2.2.2.2.2.1.1, nI_leI, hd0, if_false, je0, if_true]
  · have hz : ¬ nI (g % 10) ≤ 0 := fun q => hg0 ((jz_le (by omega)).mp q)
    have key : ∀ k i (m : jl_M), i + k = hd.1 → jl_G mem m → jq_fit K mo hd g i = true → ∃ mem', jr_ev pX5_isAsHeard 15 [.ref 62, .int (nI g), .int (nI 1), .int (nI i)] [] (jl_w m lm) = some (some (.int (nI (if jq_fit K mo hd g hd.1 = true then 1 else 0))), jl_w mem' lm) ∧ jl_G mem mem' := by
      intro k
      induction k with
      | zero =>
        intro i m hi hG hf
        have e : i = hd.1 := by omega
        subst e
        refine ⟨m, ?_, hG⟩
        have H1 := (h.2.2.2.2.2.1.V (jl_V.G hG)).1
        rw [if_pos hf]
        simp (disch := first | assumption | omega) only [eX5_isAsHeard_15, eX5_isAsHeard_16, eX5_isAsHeard_17, eX5_isAsHeard_20, eX5_isAsHeard_79, eX5_isAsHeard_80_0, eX5_isAsHeard_80_1, H1, nI_leI, Nat.le_refl, if_true]
      | succ k ih =>
        intro i m hi hG hf
        have Y1 := h.V (jl_V.G hG)
        have H1 := Y1.2.2.2.2.2.1.1
        obtain ⟨u1, u2, u3⟩ := Y1.2.2.2.2.2.1.2 i (by omega)
        obtain ⟨w1, w2, w3⟩ := hh.2 i (by omega)
        obtain ⟨m2, e2, c2, c3, G2⟩ := Y_gust (lm := lm) (s := g / 10) (g := g % 10) (n := hd.2.2.1 i) Y1.2.1 Y1.2.2.1 hk hw hdv (by omega) w2
        have hws := jq_WS_go hk (by omega) (jq_WS_g0 hk hdv (show g % 10 ≤ 9 by omega) hw) (hd.2.2.1 i)
        have c2 : m2 62 27 = nI (jq_G K mo (hd.2.2.1 i) g).2.1 := c2
        have hS : (jq_G K mo (hd.2.2.1 i) g).2.1 < 256 := hws.2.1
        have u1' : m2 72 i = nI (hd.2.1 i) := by rw [G2.1 72 (by omega) (by omega)]; exact u1
        have u3' : m2 74 i = nI (hd.2.2.2 i) := by rw [G2.1 74 (by omega) (by omega)]; exact u3
        have e3 : ¬ hd.1 ≤ i := by omega
        have hi6 : i < 6 := by omega
        have esh := jq_sh hS (show hd.2.1 i < 8 by omega)
        have etb := jq_tb hS (show hd.2.1 i < 8 by omega)
        have hhb : jq_hb K mo g (hd.2.1 i) (hd.2.2.1 i) = ((jq_G K mo (hd.2.2.1 i) g).2.1 >>> hd.2.1 i) % 2 := etb.symm
        have hfs : jq_fit K mo hd g (i + 1) = (jq_fit K mo hd g i && decide (jq_hb K mo g (hd.2.1 i) (hd.2.2.1 i) = hd.2.2.2 i)) := rfl
        rw [hf, Bool.true_and, hhb] at hfs
        generalize ((jq_G K mo (hd.2.2.1 i) g).2.1 >>> hd.2.1 i) % 2 = b at *
        have hb2 : b ≤ 1 := by
          rw [etb]; split <;> omega
        by_cases hbe : b = hd.2.2.2 i
        · have hf1 : jq_fit K mo hd g (i + 1) = true := by rw [hfs]; exact decide_eq_true hbe
          obtain ⟨mem', g1, g2⟩ := ih (i + 1) m2 (by omega) (hG.tr G2) hf1
          refine ⟨mem', ?_, g2⟩
          simp (disch := first | assumption | omega) only [eX5_isAsHeard_15, eX5_isAsHeard_16, eX5_isAsHeard_17, eX5_isAsHeard_20, eX5_isAsHeard_23, eX5_isAsHeard_24, eX5_isAsHeard_27, eX5_isAsHeard_28, eX5_isAsHeard_29, eX5_isAsHeard_31, eX5_isAsHeard_32, eX5_isAsHeard_33, eX5_isAsHeard_35, eX5_isAsHeard_36, eX5_isAsHeard_37, eX5_isAsHeard_40, eX5_isAsHeard_41, H1, nI_leI, e3, if_false, je1, ed, er', u2]
          rw [eX5_isAsHeard_42 e2]
          simp (disch := first | assumption | omega) only [eX5_isAsHeard_45, eX5_isAsHeard_46, eX5_isAsHeard_49, eX5_isAsHeard_50, eX5_isAsHeard_53, eX5_isAsHeard_54, eX5_isAsHeard_55, eX5_isAsHeard_56, eX5_isAsHeard_57, eX5_isAsHeard_58, eX5_isAsHeard_59, eX5_isAsHeard_62, eX5_isAsHeard_63, eX5_isAsHeard_64, eX5_isAsHeard_67, eX5_isAsHeard_68, eX5_isAsHeard_71, eX5_isAsHeard_72, eX5_isAsHeard_73, c2, u1', u3', esh, hbe, if_true, nI_add]
          rw [eX5_isAsHeard_76, g1]
        · have hf1 : jq_fit K mo hd g (i + 1) = false := by rw [hfs]; exact decide_eq_false hbe
          have hfin : ¬ jq_fit K mo hd g hd.1 = true := fun q => by
            have := jq_fit_mono (K := K) (mo := mo) (hd := hd) (g := g) hd.1 (i + 1) (by omega) q
            rw [hf1] at this; cases this
          refine ⟨m2, ?_, hG.tr G2⟩
          have H2 := (h.2.2.2.2.2.1.V (jl_V.G (hG.tr G2))).1
          rw [if_neg hfin]
          simp (disch := first | assumption | omega) only [eX5_isAsHeard_15, eX5_isAsHeard_16, eX5_isAsHeard_17, eX5_isAsHeard_20, eX5_isAsHeard_23, eX5_isAsHeard_24, eX5_isAsHeard_27, eX5_isAsHeard_28, eX5_isAsHeard_29, eX5_isAsHeard_31, eX5_isAsHeard_32, eX5_isAsHeard_33, eX5_isAsHeard_35, eX5_isAsHeard_36, eX5_isAsHeard_37, eX5_isAsHeard_40, eX5_isAsHeard_41, H1, nI_leI, e3, if_false, je1, ed, er', u2]
          rw [eX5_isAsHeard_42 e2]
          simp (disch := first | assumption | omega) only [eX5_isAsHeard_45, eX5_isAsHeard_46, eX5_isAsHeard_49, eX5_isAsHeard_50, eX5_isAsHeard_53, eX5_isAsHeard_54, eX5_isAsHeard_55, eX5_isAsHeard_56, eX5_isAsHeard_57, eX5_isAsHeard_58, eX5_isAsHeard_59, eX5_isAsHeard_62, eX5_isAsHeard_63, eX5_isAsHeard_64, eX5_isAsHeard_67, eX5_isAsHeard_68, eX5_isAsHeard_71, eX5_isAsHeard_72, eX5_isAsHeard_73, c2, u1', u3', esh, nI_eq, hbe, if_false, nI_add]
          rw [eX5_isAsHeard_76]
          by_cases hd0 : hd.1 ≤ i + 1
          · simp (disch := first | assumption | omega) only [eX5_isAsHeard_15, eX5_isAsHeard_16, eX5_isAsHeard_17, eX5_isAsHeard_20, eX5_isAsHeard_79, eX5_isAsHeard_80_0, eX5_isAsHeard_80_1, H2, nI_leI, hd0, if_true]
          · simp (disch := first | assumption | omega) only [eX5_isAsHeard_15, eX5_isAsHeard_16, eX5_isAsHeard_17, eX5_isAsHeard_20, eX5_isAsHeard_23, eX5_isAsHeard_24, eX5_isAsHeard_79, eX5_isAsHeard_80_0, eX5_isAsHeard_80_1, H2, nI_leI, hd0, if_false, je0, if_true]
    obtain ⟨mem', g1, g2⟩ := key hd.1 0 mem (by omega) jl_G.rf rfl
    refine ⟨mem', ?_, g2⟩
    simp (disch := first | assumption | omega) only [eX5_isAsHeard, eX5_isAsHeard_0, eX5_isAsHeard_1, eX5_isAsHeard_3, eX5_isAsHeard_4, eX5_isAsHeard_7, eX5_isAsHeard_8, eX5_isAsHeard_11, eX5_isAsHeard_12, eX5_isAsHeard_13, eX5_isAsHeard_14, er, hz, if_false]
    rw [g1]
    by_cases hf : jq_fit K mo hd g hd.1 = true
    · rw [if_pos hf, if_pos ⟨hg0, hf⟩]
    · rw [if_neg hf, if_neg (fun q => hf q.2)]
theorem Y_gusts_b {x : Int32} (h : x < nI 0 ∨ nI 1 < x) : xX5_gusts [.ref 62, .int x] (jl_w mem lm) = some (some (.int (-1)), jl_w (jl_s mem 62 0 (nI 0)) lm) := by
  simp only [eX5_gusts, eX5_gusts_0, eX5_gusts_1, eX5_gusts_2, eX5_gusts_5, eX5_gusts_6, eX5_gusts_7]
  rw [eX5_gusts_8 (Y_inn h)]
  simp only [eX5_gusts_11, eX5_gusts_14, eX5_gusts_15, je0, if_true]
theorem Y_gusts_o {w : Nat} (h : jY mem lm tx K mo un im hd tr) (hk : jq_WK K) (hw : jq_WM K.1 mo) (hh : hd.1 ≤ 6 ∧ ∀ i, i < hd.1 → hd.2.1 i < K.1 ∧ hd.2.2.1 i ≤ 20 ∧ hd.2.2.2 i ≤ 1) (h1 : w ≤ 1) : ∃ mem', xX5_gusts [.ref 62, .int (nI w)] (jl_w mem lm) = some (some (.int (if w = 0 then nI (jq_acc (jq_fg K mo hd) (0, -9) (10 * K.1)).1 else (jq_acc (jq_fg K mo hd) (0, -9) (10 * K.1)).2)), jl_w mem' lm) ∧ jl_V mem mem' := by
  have h0 := h.V (jl_V.t (x := nI 0))
  have v0 := jl_V.t (m := mem) (x := nI 0)
  have h8 := hk.1
  have em : nI 10 * nI K.1 = nI (10 * K.1) := pk_mul _ _
  simp only [eX5_gusts, eX5_gusts_0, eX5_gusts_1, eX5_gusts_2, eX5_gusts_5, eX5_gusts_6, eX5_gusts_7]
  rw [eX5_gusts_8 (Y_in (Nat.zero_le _) h1 (by omega))]
  simp only [eX5_gusts_11, eX5_gusts_14, eX5_gusts_15, eX5_gusts_16, eX5_gusts_17, eX5_gusts_18, eX5_gusts_20, eX5_gusts_21, eX5_gusts_22, je1, if_false]
  generalize jl_s mem 62 0 (nI 0) = m0 at h0 v0 ⊢
  obtain ⟨ls', m1, hI, he⟩ := jr_loop (P := pX5_gusts) (pc := 24) (lm := lm) (fun g ls m => ls = [.ref 62, .int (nI w), .int (nI (jq_acc (jq_fg K mo hd) (0, -9) g).1), .int (jq_acc (jq_fg K mo hd) (0, -9) g).2, .int (nI g)] ∧ jl_V m0 m ∧ (jq_acc (jq_fg K mo hd) (0, -9) g).1 ≤ g ∧ ((jq_acc (jq_fg K mo hd) (0, -9) g).1 = 0 ↔ (jq_acc (jq_fg K mo hd) (0, -9) g).2 = -9)) (10 * K.1) (by
    intro g ls m hg ⟨hl, v1, ub, iff9⟩
    subst hl
    have Y1 := h0.V v1
    have e3 : ¬ 10 * K.1 ≤ g := by omega
    obtain ⟨m2, e2, G2⟩ := Y_fits (lm := lm) (g := g) Y1 hk hw hh hg
    have hst : jq_acc (jq_fg K mo hd) ((0 : Nat), (-9 : Int32)) (g + 1) = if g % 10 ≠ 0 ∧ jq_fit K mo hd g hd.1 = true then ((jq_acc (jq_fg K mo hd) (0, -9) g).1 + 1, if (jq_acc (jq_fg K mo hd) (0, -9) g).2 = -9 then nI g else (jq_acc (jq_fg K mo hd) (0, -9) g).2) else jq_acc (jq_fg K mo hd) (0, -9) g := by
      show (if g % 10 = 0 then _ else jq_fg K mo hd _ g) = _
      by_cases hg0 : g % 10 = 0
      · rw [if_pos hg0, if_neg (fun q => q.1 hg0)]
      · rw [if_neg hg0]
        by_cases hf : jq_fit K mo hd g hd.1 = true
        · rw [if_pos ⟨hg0, hf⟩]
          show (if jq_fit K mo hd g hd.1 = true then _ else _) = _
          rw [if_pos hf]
        · rw [if_neg (fun q => hf q.2)]
          show (if jq_fit K mo hd g hd.1 = true then _ else _) = _
          rw [if_neg hf]
    refine ⟨[.ref 62, .int (nI w), .int (nI (jq_acc (jq_fg K mo hd) (0, -9) (g + 1)).1), .int (jq_acc (jq_fg K mo hd) (0, -9) (g + 1)).2, .int (nI (g + 1))], m2, ⟨rfl, v1.tr (jl_V.G G2), ?_, ?_⟩, ?_⟩
    · rw [hst]
      split
      · show _ + 1 ≤ _; omega
      · omega
    · rw [hst]
      have hn9 : ∀ g, g < 80 → ¬ nI g = -9 := by decide +kernel
      split
      · show _ + 1 = 0 ↔ (if _ then _ else _) = _
        split
        · exact ⟨fun q => absurd q (by omega), fun q => absurd q (hn9 g (by omega))⟩
        · next hne => exact ⟨fun q => absurd q (by omega), fun q => absurd q hne⟩
      · exact iff9
    · refine Eq.trans ?_ eX5_gusts_62
      rw [hst]
      generalize jq_acc (jq_fg K mo hd) ((0 : Nat), (-9 : Int32)) g = A at *
      simp (disch := first | assumption | omega) only [eX5_gusts_24, eX5_gusts_26, eX5_gusts_28, eX5_gusts_29, eX5_gusts_32, eX5_gusts_33, eX5_gusts_36, eX5_gusts_37, Y1.2.1.1, em, nI_leI, e3, if_false]
      rw [eX5_gusts_39 e2]
      by_cases hc : g % 10 ≠ 0 ∧ jq_fit K mo hd g hd.1 = true
      · rw [if_pos hc, if_pos hc]
        by_cases hA : A.1 = 0
        · have hz : nI A.1 = 0 := (jz_eq (by omega)).mpr hA
          rw [if_pos (iff9.mp hA)]
          simp (disch := first | assumption | omega) only [eX5_gusts_42, eX5_gusts_45, eX5_gusts_46, eX5_gusts_49, eX5_gusts_51, eX5_gusts_54, eX5_gusts_55, eX5_gusts_56, eX5_gusts_59, je1, if_false, hz, if_true, nI_add]
          rw [hA] ; rfl
        · have hz : ¬ nI A.1 = 0 := fun q => hA ((jz_eq (by omega)).mp q)
          rw [if_neg (fun q => hA (iff9.mpr q))]
          simp (disch := first | assumption | omega) only [eX5_gusts_42, eX5_gusts_45, eX5_gusts_46, eX5_gusts_49, eX5_gusts_51, eX5_gusts_54, eX5_gusts_55, eX5_gusts_56, eX5_gusts_59, je1, if_false, hz, nI_add]
      · rw [if_neg hc, if_neg hc]
        simp (disch := first | assumption | omega) only [eX5_gusts_42, eX5_gusts_59, je0, if_true, nI_add]) (10 * K.1) 0 [.ref 62, .int (nI w), .int (nI 0), .int (-9), .int (nI 0)] m0 (by omega) ⟨rfl, jl_V.rf, Nat.le_refl _, ⟨fun _ => rfl, fun _ => rfl⟩⟩
  obtain ⟨rfl, v1, -, -⟩ := hI
  have Y1 := h0.V v1
  refine ⟨m1, ?_, v0.tr v1⟩
  rw [he]
  by_cases hw0 : w = 0
  · subst hw0
    simp (disch := first | assumption | omega) only [eX5_gusts_24, eX5_gusts_26, eX5_gusts_28, eX5_gusts_29, eX5_gusts_32, eX5_gusts_33, eX5_gusts_65, eX5_gusts_66, eX5_gusts_69, eX5_gusts_70, eX5_gusts_73, eX5_gusts_74, Y1.2.1.1, em, nI_leI, Nat.le_refl, if_true, je0]
  · have hw1 : w = 1 := by omega
    subst hw1
    simp (disch := first | assumption | omega) only [eX5_gusts_24, eX5_gusts_26, eX5_gusts_28, eX5_gusts_29, eX5_gusts_32, eX5_gusts_33, eX5_gusts_65, eX5_gusts_66, eX5_gusts_69, eX5_gusts_70, eX5_gusts_73, eX5_gusts_74, Y1.2.1.1, em, nI_leI, Nat.le_refl, if_true, je1, if_false, Nat.one_ne_zero]
end YM

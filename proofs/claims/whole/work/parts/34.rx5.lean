def jq_gs (u v : Nat) : Nat → Nat
  | 0 => 1
  | b + 1 => if b + 1 ≤ 1 then 1 else if u % (b + 1) = 0 ∧ v % (b + 1) = 0 then b + 1 else jq_gs u v b
/-- the gust g, n calm beats: is rod r struck -/
def jq_hb (K : jq_K) (mo : jq_M) (g r n : Nat) : Nat := if (jq_G K mo n g).2.1.testBit r = true then 1 else 0
/-- all that was heard is so by the gust g -/
def jq_fit (K : jq_K) (mo : jq_M) (hd : jq_H) (g : Nat) : Nat → Bool
  | 0 => true
  | i + 1 => jq_fit K mo hd g i && decide (jq_hb K mo g (hd.2.1 i) (hd.2.2.1 i) = hd.2.2.2 i)
def jq_fg (K : jq_K) (mo : jq_M) (hd : jq_H) (a : Nat × Int32) (g : Nat) : Nat × Int32 := if jq_fit K mo hd g hd.1 = true then (a.1 + 1, if a.2 = -9 then nI g else a.2) else a
/-- how many gusts fit, and how many of them strike each rod -/
def jq_fc (K : jq_K) (mo : jq_M) (hd : jq_H) (n : Nat) (a : Nat × (Nat → Nat)) (g : Nat) : Nat × (Nat → Nat) := if jq_fit K mo hd g hd.1 = true then (a.1 + 1, fun r => if r < K.1 then a.2 r + jq_hb K mo g r n else a.2 r) else a
def jq_fl (all : Nat) (t : Nat → Nat) (x : Int32 × Nat) (r : Nat) : Int32 × Nat := if max (t r) (all - t r) < x.2 then (nI r, max (t r) (all - t r)) else x
section XM
variable {mem : jl_M} {lm : jl_L} {tx : jq_X} {K : jq_K} {mo : jq_M} {un : List jq_M} {im : Nat → Option jq_M} {hd : jq_H} {tr : Int64}
theorem X_swap_b {x y z : Int32} (hK : jx_K mem K) (hk : jq_WK K) (h : (x < 0 ∨ nI K.1 ≤ x) ∨ ((∃ r, r < K.1 ∧ x = nI r) ∧ (y < nI 1 ∨ nI 9 < y)) ∨ ((∃ r, r < K.1 ∧ x = nI r) ∧ (∃ g, 1 ≤ g ∧ g ≤ 9 ∧ y = nI g) ∧ (z < nI 0 ∨ nI 20 < z))) : xX4_swap [.ref 0, .int x, .int y, .int z] (jl_w mem lm) = some (some (.int (-1)), jl_w mem lm) := by
  simp only [eX4_swap, eX4_swap_0, eX4_swap_1]
  rcases h with h | ⟨⟨r, hr, rfl⟩, h⟩ | ⟨⟨r, hr, rfl⟩, ⟨g, h1, h2, rfl⟩, h⟩
  · rw [eX4_swap_2 (jm_siden hK.1 h)]
    simp only [eX4_swap_5, eX4_swap_22, eX4_swap_23, je0, if_true]
  · rw [eX4_swap_2 (jm_side hK.1 hk.1 hr)]
    simp only [eX4_swap_5, eX4_swap_8, je1, if_false]
    rw [eX4_swap_9 (jm_strn h)]
    simp only [eX4_swap_12, eX4_swap_22, eX4_swap_23, je0, if_true]
  · rw [eX4_swap_2 (jm_side hK.1 hk.1 hr)]
    simp only [eX4_swap_5, eX4_swap_8, je1, if_false]
    rw [eX4_swap_9 (jm_str h1 h2)]
    simp only [eX4_swap_12, eX4_swap_15, je1, if_false]
    rw [eX4_swap_16 (jm_caln h)]
    simp only [eX4_swap_19, eX4_swap_22, eX4_swap_23, je0, if_true]
theorem jq_h_go_le {K : jq_K} {s g n : Nat} {mo : jq_M} (hk : jq_WK K) (hw : jq_WM K.1 mo) (hs : s < K.1) (hg : g ≤ 9) : (jq_go K n (jq_g0 K s g mo)).2.2 ≤ 64 := (jq_WS_go hk (by omega) (jq_WS_g0 hk hs hg hw) n).2.2.1
theorem X_swap_o {s g n : Nat} (h : jX mem lm tx K mo un im hd tr) (hk : jq_WK K) (hw : jq_WM K.1 mo) (hs : s < K.1) (hg : 1 ≤ g ∧ g ≤ 9) (hn : n ≤ 20) : ∃ mem', xX4_swap [.ref 0, .int (nI s), .int (nI g), .int (nI n)] (jl_w mem lm) = some (some (.int (jq_fr (jq_fo K mo s g n) (-9, (jq_go K n (jq_g0 K s g mo)).2.2) 0 K.1).1), jl_w mem' lm) ∧ jl_F jl_co mem mem' := by
  have a2 := h.2.1
  have a3 := h.2.2.1
  have h8 := hk.1
  have h5 : jl_K 7 = 5 := rfl
  have hle : ∀ a c, a < K.1 → c < K.1 → (jq_go K n (jq_g0 K s g (jq_ex a c mo))).2.2 ≤ 64 := fun a c ha hc => jq_h_go_le hk (jq_WM_ex hk.1 ha hc hw) hs hg.2
  have inner : ∀ a (x : Int32 × Nat) (m : jl_M), a < K.1 → x.2 ≤ 64 → jl_F jl_co mem m → ∃ ls' m', (ls' = [.ref 0, .int (nI s), .int (nI g), .int (nI n), .int (nI (jq_fo K mo s g n x a).2), .int (jq_fo K mo s g n x a).1, .int (nI a), .int (nI K.1)] ∧ jl_F jl_co mem m' ∧ (jq_fo K mo s g n x a).2 ≤ 64) ∧ jr_ev pX4_swap 65 [.ref 0, .int (nI s), .int (nI g), .int (nI n), .int (nI x.2), .int x.1, .int (nI a), .int (nI (a + 1))] [] (jl_w m lm) = jr_ev pX4_swap 65 ls' [] (jl_w m' lm) := by
    intro a x m ha hx hF
    obtain ⟨ls', m', ⟨q1, q2, q3, q4⟩, q5⟩ := jr_loop (P := pX4_swap) (pc := 65) (lm := lm) (fun i ls m => (ls = [.ref 0, .int (nI s), .int (nI g), .int (nI n), .int (nI (jq_fr (jq_fs K mo s g n a) x (a + 1) (i - (a + 1))).2), .int (jq_fr (jq_fs K mo s g n a) x (a + 1) (i - (a + 1))).1, .int (nI a), .int (nI i)] ∧ jl_F jl_co mem m ∧ (jq_fr (jq_fs K mo s g n a) x (a + 1) (i - (a + 1))).2 ≤ 64 ∧ a < i)) K.1 (by
      intro i ls m hi ⟨hl, hF, hx, hai⟩
      subst hl
      obtain ⟨k1, k2⟩ := jx_fr a2 a3 hF
      obtain ⟨m1, e1, c3, f1⟩ := jm_followC (lm := lm) (a := a) (c := i) (s := s) (g := g) (n := n) k1 k2 hk hw ha hi hs hg hn
      have e3 : ¬ K.1 ≤ i := by omega
      have hst : jq_fr (jq_fs K mo s g n a) x (a + 1) (i + 1 - (a + 1)) = jq_fs K mo s g n a (jq_fr (jq_fs K mo s g n a) x (a + 1) (i - (a + 1))) i := by
        rw [show i + 1 - (a + 1) = (i - (a + 1)) + 1 by omega]
        show jq_fs K mo s g n a _ (a + 1 + (i - (a + 1))) = _
        rw [show a + 1 + (i - (a + 1)) = i by omega]
      have hl64 := hle a i ha hi
      have hfs : ∀ A, jq_fs K mo s g n a A i = if (jq_go K n (jq_g0 K s g (jq_ex a i mo))).2.2 < A.2 then (nI (10 * a + i), (jq_go K n (jq_g0 K s g (jq_ex a i mo))).2.2) else A := fun A => rfl
      refine ⟨[.ref 0, .int (nI s), .int (nI g), .int (nI n), .int (nI (jq_fr (jq_fs K mo s g n a) x (a + 1) (i + 1 - (a + 1))).2), .int (jq_fr (jq_fs K mo s g n a) x (a + 1) (i + 1 - (a + 1))).1, .int (nI a), .int (nI (i + 1))], m1, ⟨rfl, hF.trans (T := fun _ => True) f1, ?_, by omega⟩, ?_⟩
      · rw [hst, hfs]
        split
        · exact hl64
        · exact hx
      · refine Eq.trans ?_ eX4_swap_122
        simp (disch := first | assumption | omega) only [eX4_swap_65, eX4_swap_67, eX4_swap_68, eX4_swap_71, eX4_swap_74, eX4_swap_77, eX4_swap_78, eX4_swap_80, eX4_swap_82, eX4_swap_83, eX4_swap_84, k1.1, nI_leI, e3, if_false]
        rw [eX4_swap_85 e1, hst, hfs]
        generalize jq_fr (jq_fs K mo s g n a) x (a + 1) (i - (a + 1)) = A at *
        by_cases hlt : (jq_go K n (jq_g0 K s g (jq_ex a i mo))).2.2 < A.2
        · have hge : ¬ A.2 ≤ (jq_go K n (jq_g0 K s g (jq_ex a i mo))).2.2 := by omega
          rw [if_pos hlt]
          simp (disch := first | assumption | omega) only [eX4_swap_88, eX4_swap_89, eX4_swap_92, eX4_swap_95, eX4_swap_97, eX4_swap_100, eX4_swap_102, eX4_swap_104, eX4_swap_105, eX4_swap_107, eX4_swap_108, eX4_swap_110, eX4_swap_111, eX4_swap_114, eX4_swap_117, eX4_swap_119, c3, nI_leI, hge, if_false, pk_mul, nI_add]
        · have hge : A.2 ≤ (jq_go K n (jq_g0 K s g (jq_ex a i mo))).2.2 := by omega
          rw [if_neg hlt]
          simp (disch := first | assumption | omega) only [eX4_swap_88, eX4_swap_89, eX4_swap_92, eX4_swap_95, eX4_swap_97, eX4_swap_119, c3, nI_leI, hge, if_true, nI_add]) (K.1 - (a + 1)) (a + 1) [.ref 0, .int (nI s), .int (nI g), .int (nI n), .int (nI x.2), .int x.1, .int (nI a), .int (nI (a + 1))] m (by omega) ⟨by rw [Nat.sub_self]; rfl, hF, by rw [Nat.sub_self]; exact hx, by omega⟩
    exact ⟨ls', m', ⟨q1, q2, q3⟩, q5⟩
  obtain ⟨m0, e0, c2, c3, c4, f0⟩ := jm_follow (lm := lm) (s := s) (g := g) (n := n) a2 a3 hk hw hs hg hn
  have h64 := jq_h_go_le (n := n) hk hw hs hg.2
  obtain ⟨ls', mem', hI, he⟩ := jr_loop (P := pX4_swap) (pc := 47) (lm := lm) (fun a ls m => (∃ v, ls = [.ref 0, .int (nI s), .int (nI g), .int (nI n), .int (nI (jq_fr (jq_fo K mo s g n) (-9, (jq_go K n (jq_g0 K s g mo)).2.2) 0 a).2), .int (jq_fr (jq_fo K mo s g n) (-9, (jq_go K n (jq_g0 K s g mo)).2.2) 0 a).1, .int (nI a), v]) ∧ jl_F jl_co mem m ∧ (jq_fr (jq_fo K mo s g n) (-9, (jq_go K n (jq_g0 K s g mo)).2.2) 0 a).2 ≤ 64) K.1 (by
    intro a ls m ha ⟨⟨v, hl⟩, hF, hx⟩
    subst hl
    obtain ⟨k1, k2⟩ := jx_fr a2 a3 hF
    have e3 : ¬ K.1 ≤ a := by omega
    have hst : jq_fr (jq_fo K mo s g n) ((-9 : Int32), (jq_go K n (jq_g0 K s g mo)).2.2) 0 (a + 1) = jq_fo K mo s g n (jq_fr (jq_fo K mo s g n) (-9, (jq_go K n (jq_g0 K s g mo)).2.2) 0 a) a := by
      show jq_fo K mo s g n _ (0 + a) = _
      rw [Nat.zero_add]
    obtain ⟨ls1, m1, ⟨rfl, f1, x1⟩, e1⟩ := inner a _ m ha hx hF
    refine ⟨[.ref 0, .int (nI s), .int (nI g), .int (nI n), .int (nI (jq_fr (jq_fo K mo s g n) (-9, (jq_go K n (jq_g0 K s g mo)).2.2) 0 (a + 1)).2), .int (jq_fr (jq_fo K mo s g n) (-9, (jq_go K n (jq_g0 K s g mo)).2.2) 0 (a + 1)).1, .int (nI (a + 1)), .int (nI K.1)], m1, ⟨⟨_, rfl⟩, f1, by rw [hst]; exact x1⟩, ?_⟩
    refine Eq.trans ?_ eX4_swap_128
    obtain ⟨k1', k2'⟩ := jx_fr a2 a3 f1
    simp (disch := first | assumption | omega) only [eX4_swap_47, eX4_swap_49, eX4_swap_50, eX4_swap_53, eX4_swap_56, eX4_swap_59, eX4_swap_61, eX4_swap_62, eX4_swap_63, k1.1, nI_leI, e3, if_false, nI_add]
    rw [e1, hst]
    simp (disch := first | assumption | omega) only [eX4_swap_65, eX4_swap_67, eX4_swap_68, eX4_swap_71, eX4_swap_74, eX4_swap_125, k1'.1, nI_leI, Nat.le_refl, if_true, nI_add]) K.1 0 [.ref 0, .int (nI s), .int (nI g), .int (nI n), .int (nI (jq_go K n (jq_g0 K s g mo)).2.2), .int (-9), .int (nI 0), .null] m0 (by omega) ⟨⟨_, rfl⟩, f0, h64⟩
  obtain ⟨⟨v, rfl⟩, hF, hx⟩ := hI
  obtain ⟨k1, k2⟩ := jx_fr a2 a3 hF
  refine ⟨mem', ?_, hF⟩
  simp only [eX4_swap, eX4_swap_0, eX4_swap_1]
  rw [eX4_swap_2 (jm_side a2.1 hk.1 hs)]
  simp only [eX4_swap_5, eX4_swap_8, je1, if_false]
  rw [eX4_swap_9 (jm_str hg.1 hg.2)]
  simp only [eX4_swap_12, eX4_swap_15, je1, if_false]
  rw [eX4_swap_16 (jm_cal hn)]
  simp only [eX4_swap_19, eX4_swap_24, eX4_swap_25, eX4_swap_26, eX4_swap_27, je1, if_false]
  rw [eX4_swap_28 e0]
  simp only [eX4_swap_31, eX4_swap_32, eX4_swap_35, eX4_swap_38, eX4_swap_40, eX4_swap_42, eX4_swap_44, eX4_swap_45, c3]
  rw [he]
  simp (disch := first | assumption | omega) only [eX4_swap_47, eX4_swap_49, eX4_swap_50, eX4_swap_53, eX4_swap_56, eX4_swap_131, eX4_swap_133, k1.1, nI_leI, Nat.le_refl, if_true]
theorem X_gsh {u v : Nat} (hu : u ≤ 8) (hv : v ≤ 8) : xX4_greatestShared [.int (nI u), .int (nI v)] (jl_w mem lm) = some (some (.int (nI (jq_gs u v v))), jl_w mem lm) := by
  have key : ∀ b, b ≤ 8 → jr_ev pX4_greatestShared 2 [.int (nI u), .int (nI v), .int (nI b)] [] (jl_w mem lm) = some (some (.int (nI (jq_gs u v b))), jl_w mem lm) := by
    intro b
    induction b with
    | zero =>
      intro _
      have e : 0 ≤ 1 := by omega
      simp (disch := first | assumption | omega) only [eX4_greatestShared_2, eX4_greatestShared_3, eX4_greatestShared_4, eX4_greatestShared_27, eX4_greatestShared_28, nI_leI, e, if_true]
      rfl
    | succ b ih =>
      intro hb
      have ih := ih (by omega)
      unfold jq_gs
      by_cases h1 : b + 1 ≤ 1
      · rw [if_pos h1]
        simp (disch := first | assumption | omega) only [eX4_greatestShared_2, eX4_greatestShared_3, eX4_greatestShared_4, eX4_greatestShared_27, eX4_greatestShared_28, nI_leI, h1, if_true]
      · rw [if_neg h1]
        have hne : ¬ nI (b + 1) = 0 := nI_ne0 (by omega) (by omega)
        have m1 : u % (b + 1) ≤ 8 := Nat.le_trans (Nat.mod_le _ _) hu
        have m2 : v % (b + 1) ≤ 8 := Nat.le_trans (Nat.mod_le _ _) hv
        have hdec : nI (b + 1) + (-1) = nI b := pk_m1 b
        by_cases h2 : u % (b + 1) = 0
        · by_cases h3 : v % (b + 1) = 0
          · rw [if_pos ⟨h2, h3⟩]
            simp (disch := first | assumption | omega) only [eX4_greatestShared_2, eX4_greatestShared_3, eX4_greatestShared_4, eX4_greatestShared_7, eX4_greatestShared_8, eX4_greatestShared_9, eX4_greatestShared_10, eX4_greatestShared_13, eX4_greatestShared_14, eX4_greatestShared_15, eX4_greatestShared_16, eX4_greatestShared_19, eX4_greatestShared_20, nI_leI, h1, if_false, pk_rem, jz_eq, h2, h3, if_true]
          · rw [if_neg (fun q => h3 q.2)]
            simp (disch := first | assumption | omega) only [eX4_greatestShared_2, eX4_greatestShared_3, eX4_greatestShared_4, eX4_greatestShared_7, eX4_greatestShared_8, eX4_greatestShared_9, eX4_greatestShared_10, eX4_greatestShared_13, eX4_greatestShared_14, eX4_greatestShared_15, eX4_greatestShared_16, eX4_greatestShared_19, eX4_greatestShared_20, eX4_greatestShared_21, nI_leI, h1, if_false, pk_rem, jz_eq, h2, h3, if_true, hdec]
            rw [eX4_greatestShared_24]
            exact ih
        · rw [if_neg (fun q => h2 q.1)]
          simp (disch := first | assumption | omega) only [eX4_greatestShared_2, eX4_greatestShared_3, eX4_greatestShared_4, eX4_greatestShared_7, eX4_greatestShared_8, eX4_greatestShared_9, eX4_greatestShared_10, eX4_greatestShared_21, nI_leI, h1, if_false, pk_rem, jz_eq, h2, hdec]
          rw [eX4_greatestShared_24]
          exact ih
  simp only [eX4_greatestShared, eX4_greatestShared_0, eX4_greatestShared_1]
  exact key v hv
theorem X_odds_b {x y z u : Int32} (hK : jx_K mem K) (hk : jq_WK K) (h : (x < nI 1 ∨ nI 9 < x) ∨ ((∃ g, 1 ≤ g ∧ g ≤ 9 ∧ x = nI g) ∧ (y < nI 0 ∨ nI 20 < y)) ∨ ((∃ g, 1 ≤ g ∧ g ≤ 9 ∧ x = nI g) ∧ (∃ n, n ≤ 20 ∧ y = nI n) ∧ (z < 0 ∨ nI K.1 ≤ z)) ∨ ((∃ g, 1 ≤ g ∧ g ≤ 9 ∧ x = nI g) ∧ (∃ n, n ≤ 20 ∧ y = nI n) ∧ (∃ r, r < K.1 ∧ z = nI r) ∧ (u < nI 0 ∨ nI 1 < u))) : xX4_odds [.ref 0, .int x, .int y, .int z, .int u] (jl_w mem lm) = some (some (.int (-1)), jl_w mem lm) := by
  simp only [eX4_odds, eX4_odds_0]
  rcases h with h | ⟨⟨g, h1, h2, rfl⟩, h⟩ | ⟨⟨g, h1, h2, rfl⟩, ⟨n, hn, rfl⟩, h⟩ | ⟨⟨g, h1, h2, rfl⟩, ⟨n, hn, rfl⟩, ⟨r, hr, rfl⟩, h⟩
  · rw [eX4_odds_1 (jm_strn h)]
    simp only [eX4_odds_4, eX4_odds_35, eX4_odds_36, je0, if_true]
  · rw [eX4_odds_1 (jm_str h1 h2)]
    simp only [eX4_odds_4, eX4_odds_7, je1, if_false]
    rw [eX4_odds_8 (jm_caln h)]
    simp only [eX4_odds_11, eX4_odds_35, eX4_odds_36, je0, if_true]
  · rw [eX4_odds_1 (jm_str h1 h2)]
    simp only [eX4_odds_4, eX4_odds_7, je1, if_false]
    rw [eX4_odds_8 (jm_cal hn)]
    simp only [eX4_odds_11, eX4_odds_14, eX4_odds_15, eX4_odds_18, je1, if_false]
    rw [eX4_odds_19 (jm_hasn hK.1 h)]
    simp only [eX4_odds_22, eX4_odds_35, eX4_odds_36, je0, if_true]
  · rw [eX4_odds_1 (jm_str h1 h2)]
    simp only [eX4_odds_4, eX4_odds_7, je1, if_false]
    rw [eX4_odds_8 (jm_cal hn)]
    simp only [eX4_odds_11, eX4_odds_14, eX4_odds_15, eX4_odds_18, je1, if_false]
    rw [eX4_odds_19 (jm_has hK.1 hk.1 hr)]
    simp only [eX4_odds_22, eX4_odds_25, eX4_odds_27, eX4_odds_28, je1, if_false]
    rw [eX4_odds_29 (jm_winn h)]
    simp only [eX4_odds_32, eX4_odds_35, eX4_odds_36, je0, if_true]
/-- from how many sides a gust strikes the rod -/
def jq_up (K : jq_K) (mo : jq_M) (g n r : Nat) : Nat := jq_sum (fun s => if (jq_go K n (jq_g0 K s g mo)).2.1.testBit r = true then 1 else 0) K.1
theorem jq_up_le {K : jq_K} {mo : jq_M} {g n r : Nat} : jq_up K mo g n r ≤ K.1 := by
  have := jq_sum_bd (f := fun s => if (jq_go K n (jq_g0 K s g mo)).2.1.testBit r = true then 1 else 0) (c := 1) (fun i => by show (if _ then 1 else 0) ≤ 1; split <;> omega) K.1
  unfold jq_up
  omega
theorem X_odds_o {g n r w : Nat} (h : jX mem lm tx K mo un im hd tr) (hk : jq_WK K) (hw : jq_WM K.1 mo) (hg : 1 ≤ g ∧ g ≤ 9) (hn : n ≤ 20) (hr : r < K.1) (h1 : w ≤ 1) : ∃ mem', xX4_odds [.ref 0, .int (nI g), .int (nI n), .int (nI r), .int (nI w)] (jl_w mem lm) = some (some (.int (nI ((if w = 0 then jq_up K mo g n r else K.1) / jq_gs (jq_up K mo g n r) K.1 K.1))), jl_w mem' lm) ∧ jl_F jl_co mem mem' := by
  have a2 := h.2.1
  have a3 := h.2.2.1
  have h8 := hk.1
  have h5 : jl_K 7 = 5 := rfl
  obtain ⟨ls', mem', hI, he⟩ := jr_loop (P := pX4_odds) (pc := 43) (lm := lm) (fun s ls m => ls = [.ref 0, .int (nI g), .int (nI n), .int (nI r), .int (nI w), .int (nI (jq_sum (fun s => if (jq_go K n (jq_g0 K s g mo)).2.1.testBit r = true then 1 else 0) s)), .int (nI s)] ∧ jl_F jl_co mem m) K.1 (by
    intro s ls m hs ⟨hl, hF⟩
    subst hl
    obtain ⟨k1, k2⟩ := jx_fr a2 a3 hF
    obtain ⟨m1, e1, c2, c3, c4, f1⟩ := jm_follow (lm := lm) (s := s) (g := g) (n := n) k1 k2 hk hw hs hg hn
    have e3 : ¬ K.1 ≤ s := by omega
    obtain ⟨w1, w2, w3, w4⟩ := jq_WS_go hk (by omega) (jq_WS_g0 hk hs hg.2 hw) n
    have hwi := jm_within (lm := lm) (mk := fun j => (jq_go K j (jq_g0 K s g mo)).2.1) (n := n) (r := r) (k := n) c2 w2 c4 (by omega) (Nat.le_refl _) hn (fun q => q)
    refine ⟨[.ref 0, .int (nI g), .int (nI n), .int (nI r), .int (nI w), .int (nI (jq_sum (fun s => if (jq_go K n (jq_g0 K s g mo)).2.1.testBit r = true then 1 else 0) (s + 1))), .int (nI (s + 1))], m1, ⟨rfl, hF.trans (T := fun _ => True) f1⟩, ?_⟩
    refine Eq.trans ?_ eX4_odds_81
    have hst : jq_sum (fun s => if (jq_go K n (jq_g0 K s g mo)).2.1.testBit r = true then 1 else 0) (s + 1) = jq_sum (fun s => if (jq_go K n (jq_g0 K s g mo)).2.1.testBit r = true then 1 else 0) s + if (jq_go K n (jq_g0 K s g mo)).2.1.testBit r = true then 1 else 0 := rfl
    simp (disch := first | assumption | omega) only [eX4_odds_43, eX4_odds_45, eX4_odds_46, eX4_odds_49, eX4_odds_52, eX4_odds_55, eX4_odds_56, eX4_odds_58, eX4_odds_59, k1.1, nI_leI, e3, if_false]
    rw [eX4_odds_60 e1]
    simp only [eX4_odds_63, eX4_odds_64, eX4_odds_67, eX4_odds_68]
    rw [eX4_odds_69 hwi, hst]
    by_cases hb : (jq_go K n (jq_g0 K s g mo)).2.1.testBit r = true
    · rw [if_pos hb]
      simp only [eX4_odds_72, eX4_odds_75, eX4_odds_78, je1, if_false, nI_add]
    · rw [if_neg hb]
      simp only [eX4_odds_72, eX4_odds_78, je0, if_true, nI_add, Nat.add_zero]) K.1 0 [.ref 0, .int (nI g), .int (nI n), .int (nI r), .int (nI w), .int (nI 0), .int (nI 0)] mem (by omega) ⟨rfl, fun _ _ => rfl⟩
  obtain ⟨rfl, hF⟩ := hI
  obtain ⟨k1, k2⟩ := jx_fr a2 a3 hF
  have hup := jq_up_le (K := K) (mo := mo) (g := g) (n := n) (r := r)
  have hgs := X_gsh (mem := mem') (lm := lm) (u := jq_up K mo g n r) (v := K.1) (by omega) h8
  have hgp : 0 < jq_gs (jq_up K mo g n r) K.1 K.1 ∧ jq_gs (jq_up K mo g n r) K.1 K.1 ≤ 8 := by
    have hx : ∀ u, u ≤ 8 → ∀ v, v ≤ 8 → 0 < jq_gs u v v ∧ jq_gs u v v ≤ 8 := by decide +kernel
    exact hx _ (by omega) _ h8
  have hne : ¬ nI (jq_gs (jq_up K mo g n r) K.1 K.1) = 0 := nI_ne0 hgp.1 (by omega)
  refine ⟨mem', ?_, hF⟩
  simp only [eX4_odds, eX4_odds_0]
  rw [eX4_odds_1 (jm_str hg.1 hg.2)]
  simp only [eX4_odds_4, eX4_odds_7, je1, if_false]
  rw [eX4_odds_8 (jm_cal hn)]
  simp only [eX4_odds_11, eX4_odds_14, eX4_odds_15, eX4_odds_18, je1, if_false]
  rw [eX4_odds_19 (jm_has a2.1 hk.1 hr)]
  simp only [eX4_odds_22, eX4_odds_25, eX4_odds_27, eX4_odds_28, je1, if_false]
  rw [eX4_odds_29 (jm_win (Nat.zero_le _) h1 (by omega))]
  simp only [eX4_odds_32, eX4_odds_37, eX4_odds_38, eX4_odds_40, eX4_odds_41, je1, if_false]
  rw [he]
  simp (disch := first | assumption | omega) only [eX4_odds_43, eX4_odds_45, eX4_odds_46, eX4_odds_49, eX4_odds_52, eX4_odds_84, eX4_odds_86, eX4_odds_87, eX4_odds_90, k1.1, nI_leI, Nat.le_refl, if_true]
  rw [show jq_sum (fun s => if (jq_go K n (jq_g0 K s g mo)).2.1.testBit r = true then 1 else 0) K.1 = jq_up K mo g n r from rfl, eX4_odds_93 hgs]
  by_cases hw0 : w = 0
  · rw [if_pos hw0]
    simp (disch := first | assumption | omega) only [eX4_odds_96, eX4_odds_98, eX4_odds_100, eX4_odds_103, eX4_odds_105, eX4_odds_108, eX4_odds_109, eX4_odds_112, eX4_odds_115, eX4_odds_117, eX4_odds_118, jz_eq, hw0, if_true, pk_div]
  · rw [if_neg hw0]
    simp (disch := first | assumption | omega) only [eX4_odds_96, eX4_odds_98, eX4_odds_100, eX4_odds_103, eX4_odds_105, eX4_odds_108, eX4_odds_109, eX4_odds_112, eX4_odds_115, eX4_odds_117, eX4_odds_118, jz_eq, hw0, if_false, k1.1, pk_div]
end XM

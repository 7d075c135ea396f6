theorem jq_mx2 {a b : Nat} (ha : a ≤ 1000) (hb : b ≤ 1000) : (if nI a < nI b then nI b else nI a) = nI (max a b) := by
  have e := nI_ltI (a := a) (b := b) (by omega) (by omega)
  by_cases h : a < b
  · rw [if_pos (e.mpr h), Nat.max_eq_right (by omega)]
  · rw [if_neg (fun q => h (e.mp q)), Nat.max_eq_left (by omega)]
theorem jq_fc_le {K : jq_K} {mo : jq_M} {hd : jq_H} {n : Nat} : ∀ g, (jq_acc (jq_fc K mo hd n) (0, fun _ => 0) g).1 ≤ g ∧ ∀ r, (jq_acc (jq_fc K mo hd n) (0, fun _ => 0) g).2 r ≤ (jq_acc (jq_fc K mo hd n) (0, fun _ => 0) g).1
  | 0 => ⟨Nat.le_refl _, fun _ => Nat.le_refl _⟩
  | g + 1 => by
    obtain ⟨h1, h2⟩ := jq_fc_le (K := K) (mo := mo) (hd := hd) (n := n) g
    have e : jq_acc (jq_fc K mo hd n) (0, fun _ => 0) (g + 1) = if g % 10 = 0 then jq_acc (jq_fc K mo hd n) (0, fun _ => 0) g else jq_fc K mo hd n (jq_acc (jq_fc K mo hd n) (0, fun _ => 0) g) g := rfl
    rw [e]
    generalize jq_acc (jq_fc K mo hd n) (0, fun _ => 0) g = A at *
    split
    · exact ⟨by omega, h2⟩
    · unfold jq_fc
      split
      · refine ⟨?_, fun r => ?_⟩
        · show A.1 + 1 ≤ g + 1
          omega
        · show (if r < K.1 then A.2 r + jq_hb K mo g r n else A.2 r) ≤ A.1 + 1
          have hb : jq_hb K mo g r n ≤ 1 := by unfold jq_hb; split <;> omega
          have := h2 r
          split <;> omega
      · exact ⟨by omega, h2⟩
abbrev jl_ls : Nat → Prop := fun k => (14 ≤ k ∧ k ≤ 18) ∨ k = 25
section XM
variable {mem : jl_M} {lm : jl_L} {tx : jq_X} {K : jq_K} {mo : jq_M} {un : List jq_M} {im : Nat → Option jq_M} {hd : jq_H} {tr : Int64}
theorem X_cntS {n : Nat} (h : jX mem lm tx K mo un im hd tr) (hk : jq_WK K) (hw : jq_WM K.1 mo) (hh : hd.1 ≤ 6 ∧ ∀ i, i < hd.1 → hd.2.1 i < K.1 ∧ hd.2.2.1 i ≤ 20 ∧ hd.2.2.2 i ≤ 1) (hn : n ≤ 20) : ∃ mem', xX4_countStrikes [.ref 0, .int (nI n)] (jl_w mem lm) = some (some (.int (nI (jq_acc (jq_fc K mo hd n) (0, fun _ => 0) (10 * K.1)).1)), jl_w mem' lm) ∧ (∀ r, r < 8 → mem' 25 r = nI ((jq_acc (jq_fc K mo hd n) (0, fun _ => 0) (10 * K.1)).2 r)) ∧ jl_F jl_ls mem mem' := by
  have a2 := h.2.1
  have a3 := h.2.2.1
  have a6 := h.2.2.2.2.2.1
  have h8 := hk.1
  have h5 : jl_K 7 = 5 := rfl
  have frK : ∀ m, jl_F jl_ls mem m → jx_K m K ∧ jx_M m 11 mo ∧ jX_H m hd := fun m f => ⟨a2.frame f (fun k hk => by omega), a3.keep (f 11 (by omega)) (f 12 (by omega)) (f 13 (by omega)), a6.keep (by rw [f 0 (by omega)]) (f 22 (by omega)) (f 23 (by omega)) (f 24 (by omega))⟩
  -- the row of strikes is cleared
  obtain ⟨lsz, mz, hZ, hez⟩ := jr_loop (P := pX4_countStrikes) (pc := 2) (lm := lm) (fun i ls m => ls = [.ref 0, .int (nI n), .int (nI i), .null, .null] ∧ (∀ r, r < i → m 25 r = nI 0) ∧ jl_F jl_ls mem m) 8 (by
    intro i ls m hi ⟨hl, hr, hF⟩
    subst hl
    have e3 : ¬ 8 ≤ i := by omega
    refine ⟨[.ref 0, .int (nI n), .int (nI (i + 1)), .null, .null], jl_s m 25 i (nI 0), ⟨rfl, fun r hr' => ?_, fun k hk => by rw [js_ne (by omega)]; exact hF k hk⟩, ?_⟩
    · by_cases e : r = i
      · rw [e, js_hit]
      · rw [js_mj e]; exact hr r (by omega)
    · refine Eq.trans ?_ eX4_countStrikes_18
      simp (disch := first | assumption | omega) only [eX4_countStrikes_2, eX4_countStrikes_3, eX4_countStrikes_5, eX4_countStrikes_8, eX4_countStrikes_9, eX4_countStrikes_12, eX4_countStrikes_13, eX4_countStrikes_14, eX4_countStrikes_15, nI_leI, e3, if_false, nI_add]) 8 0 [.ref 0, .int (nI n), .int (nI 0), .null, .null] mem (by omega) ⟨rfl, fun r hr => absurd hr (by omega), fun _ _ => rfl⟩
  obtain ⟨rfl, hz0, hzF⟩ := hZ
  have inner : ∀ s (m : jl_M), s < K.1 → jl_F jl_ls mem m → (∀ r, r < 8 → m 25 r = nI ((jq_acc (jq_fc K mo hd n) (0, fun _ => 0) (10 * s + 1)).2 r)) → ∃ ls' m', (ls' = [.ref 0, .int (nI n), .int (nI (jq_acc (jq_fc K mo hd n) (0, fun _ => 0) (10 * s + 10)).1), .int (nI s), .int (nI 10)] ∧ jl_F jl_ls mem m' ∧ (∀ r, r < 8 → m' 25 r = nI ((jq_acc (jq_fc K mo hd n) (0, fun _ => 0) (10 * s + 10)).2 r))) ∧ jr_ev pX4_countStrikes 39 [.ref 0, .int (nI n), .int (nI (jq_acc (jq_fc K mo hd n) (0, fun _ => 0) (10 * s + 1)).1), .int (nI s), .int (nI 1)] [] (jl_w m lm) = jr_ev pX4_countStrikes 39 ls' [] (jl_w m' lm) := by
    intro s m hs hF hr
    obtain ⟨ls', m', ⟨q1, q2, q3, q4⟩, q5⟩ := jr_loop (P := pX4_countStrikes) (pc := 39) (lm := lm) (fun i ls m => ls = [.ref 0, .int (nI n), .int (nI (jq_acc (jq_fc K mo hd n) (0, fun _ => 0) (10 * s + i)).1), .int (nI s), .int (nI i)] ∧ jl_F jl_ls mem m ∧ (∀ r, r < 8 → m 25 r = nI ((jq_acc (jq_fc K mo hd n) (0, fun _ => 0) (10 * s + i)).2 r)) ∧ 1 ≤ i) 10 (by
      intro i ls m hi ⟨hl, hF, hr, hi1⟩
      subst hl
      obtain ⟨k1, k2, k3⟩ := frK m hF
      obtain ⟨m1, e1, hC, f1⟩ := jx_C_of (lm := lm) (s := s) (i := i) k1 k2 hk hw hs ⟨hi1, by omega⟩
      have hF1 : jl_F jl_ls mem m1 := hF.trans (T := fun _ => True) (f1.up (fun k hk => Or.inl hk))
      obtain ⟨k1', k2', k3'⟩ := frK m1 hF1
      have hfit := X_fits (lm := lm) (g := 10 * s + i) k3' hC h8 hh
      have e9 : ¬ 9 < i := by omega
      have hstep := jq_acc_s (f := jq_fc K mo hd n) (a := (0, fun _ => 0)) (s := s) hi1 (by omega : i ≤ 9)
      have hr1 : ∀ r, r < 8 → m1 25 r = nI ((jq_acc (jq_fc K mo hd n) (0, fun _ => 0) (10 * s + i)).2 r) := fun r h => by rw [f1 25 (by omega)]; exact hr r h
      have hfc : ∀ A, jq_fc K mo hd n A (10 * s + i) = if jq_fit K mo hd (10 * s + i) hd.1 = true then (A.1 + 1, fun r => if r < K.1 then A.2 r + jq_hb K mo (10 * s + i) r n else A.2 r) else A := fun A => rfl
      by_cases hb : jq_fit K mo hd (10 * s + i) hd.1 = true
      · obtain ⟨m2, e2, hr2, f2⟩ := X_addS (lm := lm) (g := 10 * s + i) (n := n) k1' h8 hC hn hr1
        refine ⟨[.ref 0, .int (nI n), .int (nI (jq_acc (jq_fc K mo hd n) (0, fun _ => 0) (10 * s + (i + 1))).1), .int (nI s), .int (nI (i + 1))], m2, ⟨rfl, hF1.trans (T := fun _ => True) (f2.up (fun k hk => Or.inr hk)), ?_, by omega⟩, ?_⟩
        · rw [hstep, hfc, if_pos hb]
          exact hr2
        · refine Eq.trans ?_ eX4_countStrikes_73
          rw [if_pos hb] at hfit
          simp (disch := first | assumption | omega) only [eX4_countStrikes_39, eX4_countStrikes_41, eX4_countStrikes_43, eX4_countStrikes_46, eX4_countStrikes_47, eX4_countStrikes_48, eX4_countStrikes_50, nI_ltI, e9, if_false]
          rw [eX4_countStrikes_52 e1]
          simp only [eX4_countStrikes_55]
          rw [eX4_countStrikes_56 hfit, hstep, hfc, if_pos hb]
          simp only [eX4_countStrikes_59, eX4_countStrikes_62, eX4_countStrikes_65, eX4_countStrikes_66, je1, if_false, nI_add]
          rw [eX4_countStrikes_67 e2]
          simp only [eX4_countStrikes_70, nI_add]
      · refine ⟨[.ref 0, .int (nI n), .int (nI (jq_acc (jq_fc K mo hd n) (0, fun _ => 0) (10 * s + (i + 1))).1), .int (nI s), .int (nI (i + 1))], m1, ⟨rfl, hF1, ?_, by omega⟩, ?_⟩
        · rw [hstep, hfc, if_neg hb]
          exact hr1
        · refine Eq.trans ?_ eX4_countStrikes_73
          rw [if_neg hb] at hfit
          simp (disch := first | assumption | omega) only [eX4_countStrikes_39, eX4_countStrikes_41, eX4_countStrikes_43, eX4_countStrikes_46, eX4_countStrikes_47, eX4_countStrikes_48, eX4_countStrikes_50, nI_ltI, e9, if_false]
          rw [eX4_countStrikes_52 e1]
          simp only [eX4_countStrikes_55]
          rw [eX4_countStrikes_56 hfit, hstep, hfc, if_neg hb]
          simp only [eX4_countStrikes_59, eX4_countStrikes_70, je0, if_true, nI_add]) 9 1 _ m (by omega) ⟨rfl, hF, hr, Nat.le_refl _⟩
    exact ⟨ls', m', ⟨q1, q2, q3⟩, q5⟩
  obtain ⟨ls', mem', hI, he⟩ := jr_loop (P := pX4_countStrikes) (pc := 25) (lm := lm) (fun s ls m => (∃ v, ls = [.ref 0, .int (nI n), .int (nI (jq_acc (jq_fc K mo hd n) (0, fun _ => 0) (10 * s)).1), .int (nI s), v]) ∧ jl_F jl_ls mem m ∧ (∀ r, r < 8 → m 25 r = nI ((jq_acc (jq_fc K mo hd n) (0, fun _ => 0) (10 * s)).2 r))) K.1 (by
    intro s ls m hs ⟨⟨v, hl⟩, hF, hr⟩
    subst hl
    obtain ⟨k1, k2, k3⟩ := frK m hF
    have e3 : ¬ K.1 ≤ s := by omega
    obtain ⟨ls1, m1, ⟨rfl, f1, r1⟩, e1⟩ := inner s m hs hF (by rw [jq_acc_0]; exact hr)
    refine ⟨[.ref 0, .int (nI n), .int (nI (jq_acc (jq_fc K mo hd n) (0, fun _ => 0) (10 * (s + 1))).1), .int (nI (s + 1)), .int (nI 10)], m1, ⟨⟨_, rfl⟩, f1, by rw [show 10 * (s + 1) = 10 * s + 10 by omega]; exact r1⟩, ?_⟩
    refine Eq.trans ?_ eX4_countStrikes_79
    rw [jq_acc_0] at e1
    have e10 : 9 < 10 := by omega
    simp (disch := first | assumption | omega) only [eX4_countStrikes_25, eX4_countStrikes_26, eX4_countStrikes_27, eX4_countStrikes_30, eX4_countStrikes_33, eX4_countStrikes_36, eX4_countStrikes_37, k1.1, nI_leI, e3, if_false]
    rw [e1]
    simp (disch := first | assumption | omega) only [eX4_countStrikes_39, eX4_countStrikes_41, eX4_countStrikes_43, eX4_countStrikes_76, nI_ltI, e10, if_true, nI_add]
    rw [show 10 * (s + 1) = 10 * s + 10 by omega]) K.1 0 [.ref 0, .int (nI n), .int (nI 0), .int (nI 0), .null] mz (by omega) ⟨⟨_, rfl⟩, hzF, fun r hr => hz0 r hr⟩
  obtain ⟨⟨v, rfl⟩, hF, hr⟩ := hI
  obtain ⟨k1, k2, k3⟩ := frK mem' hF
  refine ⟨mem', ?_, hr, hF⟩
  simp only [eX4_countStrikes, eX4_countStrikes_0, eX4_countStrikes_1]
  rw [hez]
  simp (disch := first | assumption | omega) only [eX4_countStrikes_2, eX4_countStrikes_3, eX4_countStrikes_5, eX4_countStrikes_21, eX4_countStrikes_22, eX4_countStrikes_23, eX4_countStrikes_24, nI_leI, Nat.le_refl, if_true]
  rw [he]
  simp (disch := first | assumption | omega) only [eX4_countStrikes_25, eX4_countStrikes_26, eX4_countStrikes_27, eX4_countStrikes_30, eX4_countStrikes_33, eX4_countStrikes_82, eX4_countStrikes_83, k1.1, nI_leI, Nat.le_refl, if_true]
theorem X_listen_b {x : Int32} (h : x < nI 0 ∨ nI 20 < x) : xX4_listen [.ref 0, .int x] (jl_w mem lm) = some (some (.int (-1)), jl_w mem lm) := by
  simp only [eX4_listen, eX4_listen_0]
  rw [eX4_listen_1 (jm_caln h)]
  simp only [eX4_listen_4, eX4_listen_7, eX4_listen_8, je0, if_true]
def jq_li (K : jq_K) (A : Nat × (Nat → Nat)) (b : Nat) : Int32 := if A.1 ≤ 1 then -9 else (jq_fr (jq_fl A.1 A.2) (-9, b) 0 K.1).1
theorem X_listen_o {n : Nat} (h : jX mem lm tx K mo un im hd tr) (hk : jq_WK K) (hw : jq_WM K.1 mo) (hh : hd.1 ≤ 6 ∧ ∀ i, i < hd.1 → hd.2.1 i < K.1 ∧ hd.2.2.1 i ≤ 20 ∧ hd.2.2.2 i ≤ 1) (hn : n ≤ 20) : ∃ mem', xX4_listen [.ref 0, .int (nI n)] (jl_w mem lm) = some (some (.int (jq_li K (jq_acc (jq_fc K mo hd n) (0, fun _ => 0) (10 * K.1)) ((jq_acc (jq_fc K mo hd n) (0, fun _ => 0) (10 * K.1)).1 + 1))), jl_w mem' lm) ∧ jl_F jl_ls mem mem' := by
  have a2 := h.2.1
  have h8 := hk.1
  have h5 : jl_K 7 = 5 := rfl
  obtain ⟨m1, e1, r1, f1⟩ := X_cntS (n := n) h hk hw hh hn
  obtain ⟨b1, b2⟩ := jq_fc_le (K := K) (mo := mo) (hd := hd) (n := n) (10 * K.1)
  generalize jq_acc (jq_fc K mo hd n) (0, fun _ => 0) (10 * K.1) = A at *
  have k1 : m1 7 0 = nI K.1 := by rw [f1 7 (by omega)]; exact a2.1
  refine ⟨m1, ?_, f1⟩
  simp only [eX4_listen, eX4_listen_0]
  rw [eX4_listen_1 (jm_cal hn)]
  simp only [eX4_listen_4, eX4_listen_9, eX4_listen_10, je1, if_false]
  rw [eX4_listen_11 e1]
  unfold jq_li
  by_cases hc : A.1 ≤ 1
  · have hc' : ¬ 1 < A.1 := by omega
    rw [if_pos hc]
    simp (disch := first | assumption | omega) only [eX4_listen_14, eX4_listen_15, eX4_listen_16, eX4_listen_17, eX4_listen_20, eX4_listen_22, nI_ltI, hc', if_false]
  · have hc' : 1 < A.1 := by omega
    rw [if_neg hc]
    have hbd : ∀ r, (jq_fr (jq_fl A.1 A.2) ((-9 : Int32), A.1 + 1) 0 r).2 ≤ 1000 := by
      intro r
      induction r with
      | zero => show A.1 + 1 ≤ 1000; omega
      | succ r ih =>
        show (jq_fl A.1 A.2 _ (0 + r)).2 ≤ 1000
        unfold jq_fl
        split
        · have := b2 (0 + r)
          show max _ _ ≤ 1000
          exact Nat.max_le.mpr ⟨by omega, by omega⟩
        · exact ih
    obtain ⟨ls', mem', hI, he⟩ := jr_loop (P := pX4_listen) (pc := 34) (lm := lm) (fun r ls m => (∃ v, ls = [.ref 0, .int (nI n), .int (nI A.1), .int (jq_fr (jq_fl A.1 A.2) (-9, A.1 + 1) 0 r).1, .int (nI (jq_fr (jq_fl A.1 A.2) (-9, A.1 + 1) 0 r).2), .int (nI r), v]) ∧ m = m1) K.1 (by
      intro r ls m hr ⟨⟨v, hl⟩, hm⟩
      subst hl hm
      have e3 : ¬ K.1 ≤ r := by omega
      have c25 := r1 r (by omega)
      have hb2 := b2 r
      have hmx := jq_mx2 (a := A.2 r) (b := A.1 - A.2 r) (by omega) (by omega)
      have hst : jq_fr (jq_fl A.1 A.2) ((-9 : Int32), A.1 + 1) 0 (r + 1) = jq_fl A.1 A.2 (jq_fr (jq_fl A.1 A.2) (-9, A.1 + 1) 0 r) r := by
        show jq_fl A.1 A.2 _ (0 + r) = _
        rw [Nat.zero_add]
      have hb := hbd r
      refine ⟨[.ref 0, .int (nI n), .int (nI A.1), .int (jq_fr (jq_fl A.1 A.2) (-9, A.1 + 1) 0 (r + 1)).1, .int (nI (jq_fr (jq_fl A.1 A.2) (-9, A.1 + 1) 0 (r + 1)).2), .int (nI (r + 1)), .int (nI (max (A.2 r) (A.1 - A.2 r)))], m, ⟨⟨_, rfl⟩, rfl⟩, ?_⟩
      refine Eq.trans ?_ eX4_listen_84
      rw [hst]
      generalize jq_fr (jq_fl A.1 A.2) ((-9 : Int32), A.1 + 1) 0 r = B at *
      have hmb : max (A.2 r) (A.1 - A.2 r) ≤ 1000 := Nat.max_le.mpr ⟨by omega, by omega⟩
      have hfl : jq_fl A.1 A.2 B r = if max (A.2 r) (A.1 - A.2 r) < B.2 then (nI r, max (A.2 r) (A.1 - A.2 r)) else B := rfl
      rw [hfl]
      generalize max (A.2 r) (A.1 - A.2 r) = M at *
      by_cases hlt : M < B.2
      · have hge : ¬ B.2 ≤ M := by omega
        rw [if_pos hlt]
        simp (disch := first | assumption | omega) only [eX4_listen_34, eX4_listen_36, eX4_listen_37, eX4_listen_40, eX4_listen_43, eX4_listen_46, eX4_listen_47, eX4_listen_50, eX4_listen_52, eX4_listen_53, eX4_listen_54, eX4_listen_55, eX4_listen_58, eX4_listen_60, eX4_listen_61, eX4_listen_62, eX4_listen_65, eX4_listen_67, eX4_listen_69, eX4_listen_71, eX4_listen_74, eX4_listen_76, eX4_listen_77, eX4_listen_79, eX4_listen_81, k1, nI_leI, e3, if_false, c25, pk_sub, hmx, hge, nI_add]
      · have hge : B.2 ≤ M := by omega
        rw [if_neg hlt]
        simp (disch := first | assumption | omega) only [eX4_listen_34, eX4_listen_36, eX4_listen_37, eX4_listen_40, eX4_listen_43, eX4_listen_46, eX4_listen_47, eX4_listen_50, eX4_listen_52, eX4_listen_53, eX4_listen_54, eX4_listen_55, eX4_listen_58, eX4_listen_60, eX4_listen_61, eX4_listen_62, eX4_listen_65, eX4_listen_67, eX4_listen_69, eX4_listen_71, eX4_listen_81, k1, nI_leI, e3, if_false, c25, pk_sub, hmx, hge, if_true, nI_add]) K.1 0 [.ref 0, .int (nI n), .int (nI A.1), .int (-9), .int (nI (A.1 + 1)), .int (nI 0), .null] m1 (by omega) ⟨⟨_, rfl⟩, rfl⟩
    obtain ⟨⟨v, rfl⟩, rfl⟩ := hI
    simp (disch := first | assumption | omega) only [eX4_listen_14, eX4_listen_15, eX4_listen_16, eX4_listen_17, eX4_listen_23, eX4_listen_25, eX4_listen_26, eX4_listen_27, eX4_listen_28, eX4_listen_29, eX4_listen_31, eX4_listen_32, nI_ltI, hc', if_true, nI_add]
    rw [he]
    simp (disch := first | assumption | omega) only [eX4_listen_34, eX4_listen_36, eX4_listen_37, eX4_listen_40, eX4_listen_43, eX4_listen_87, eX4_listen_88, k1, nI_leI, Nat.le_refl, if_true]
end XM

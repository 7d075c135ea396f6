section XM
variable {mem : jl_M} {lm : jl_L} {tx : jq_X} {K : jq_K} {mo : jq_M} {un : List jq_M} {im : Nat → Option jq_M} {hd : jq_H} {tr : Int64}
/-- the Course holds the gust g with its 20 calm beats -/
def jx_C (mem : jl_M) (K : jq_K) (mo : jq_M) (g : Nat) : Prop := mem 14 2 = nI (jq_G K mo 20 g).2.1 ∧ (jq_G K mo 20 g).2.1 < 256 ∧ jx_F mem (fun j => (jq_G K mo j g).2.1) 20
theorem jx_C.hb {g r k : Nat} (h : jx_C mem K mo g) (hr : r < 8) (hk : k ≤ 20) : xX0_hasStruckWithin [.ref 14, .int (nI r), .int (nI k)] (jl_w mem lm) = some (some (.int (nI (jq_hb K mo g r k))), jl_w mem lm) := by
  refine jm_within (mk := fun j => (jq_G K mo j g).2.1) (n := 20) h.1 h.2.1 h.2.2 hr hk (Nat.le_refl _) (fun q => ?_)
  have := jq_go_mono (K := K) (s := jq_g0 K (g / 10) (g % 10) mo) (r := r) (20 - k) k q
  rw [show k + (20 - k) = 20 by omega] at this
  exact this
theorem jx_C_of {s i : Nat} {mem0 : jl_M} (hK : jx_K mem0 K) (hM : jx_M mem0 11 mo) (hk : jq_WK K) (hw : jq_WM K.1 mo) (hs : s < K.1) (hi : 1 ≤ i ∧ i ≤ 9) : ∃ mem', xX4_follow [.ref 0, .int (nI s), .int (nI i), .int (nI 20)] (jl_w mem0 lm) = some (none, jl_w mem' lm) ∧ jx_C mem' K mo (10 * s + i) ∧ jl_F jl_co mem0 mem' := by
  obtain ⟨m1, e1, c2, c3, c4, f1⟩ := jm_follow (lm := lm) (s := s) (g := i) (n := 20) hK hM hk hw hs hi (Nat.le_refl _)
  obtain ⟨w1, w2, w3, w4⟩ := jq_WS_go hk (by omega) (jq_WS_g0 hk hs hi.2 hw) 20
  have hG : ∀ n, jq_G K mo n (10 * s + i) = jq_go K n (jq_g0 K s i mo) := fun n => by
    show jq_go K n (jq_g0 K ((10 * s + i) / 10) ((10 * s + i) % 10) mo) = _
    rw [show (10 * s + i) / 10 = s by omega, show (10 * s + i) % 10 = i by omega]
  refine ⟨m1, e1, ⟨by rw [hG]; exact c2, by rw [hG]; exact w2, ?_⟩, f1⟩
  have : (fun j => (jq_G K mo j (10 * s + i)).2.1) = (fun j => (jq_go K j (jq_g0 K s i mo)).2.1) := funext fun j => by rw [hG]
  rw [this]
  exact c4
theorem jq_fit_mono {g : Nat} : ∀ n i, i ≤ n → jq_fit K mo hd g n = true → jq_fit K mo hd g i = true
  | 0, i, h, q => by have : i = 0 := by omega
                     rw [this]; exact q
  | n + 1, i, h, q => by
    by_cases e : i = n + 1
    · rw [e]; exact q
    · refine jq_fit_mono n i (by omega) ?_
      unfold jq_fit at q
      exact (Bool.and_eq_true _ _ ▸ q).1
theorem X_fits {g : Nat} (hH : jX_H mem hd) (hC : jx_C mem K mo g) (h8 : K.1 ≤ 8) (hh : hd.1 ≤ 6 ∧ ∀ i, i < hd.1 → hd.2.1 i < K.1 ∧ hd.2.2.1 i ≤ 20 ∧ hd.2.2.2 i ≤ 1) : xX4_fitsHeard [.ref 0] (jl_w mem lm) = some (some (.int (nI (if jq_fit K mo hd g hd.1 = true then 1 else 0))), jl_w mem lm) := by
  have key : ∀ k i, i + k = hd.1 → jq_fit K mo hd g i = true → jr_ev pX4_fitsHeard 2 [.ref 0, .int (nI i)] [] (jl_w mem lm) = some (some (.int (nI (if jq_fit K mo hd g hd.1 = true then 1 else 0))), jl_w mem lm) := by
    intro k
    induction k with
    | zero =>
      intro i hi hf
      have e : i = hd.1 := by omega
      subst e
      rw [if_pos hf]
      simp (disch := first | assumption | omega) only [eX4_fitsHeard_2, eX4_fitsHeard_3, eX4_fitsHeard_4, eX4_fitsHeard_7, eX4_fitsHeard_46, eX4_fitsHeard_47_0, eX4_fitsHeard_47_1, hH.1, nI_leI, Nat.le_refl, if_true]
    | succ k ih =>
      intro i hi hf
      have hlt : i < hd.1 := by omega
      obtain ⟨c1, c2, c3⟩ := hH.2 i hlt
      obtain ⟨b1, b2, b3⟩ := hh.2 i hlt
      have e3 : ¬ hd.1 ≤ i := by omega
      have hhb := hC.hb (lm := lm) (r := hd.2.1 i) (k := hd.2.2.1 i) (by omega) b2
      have hb1 : jq_hb K mo g (hd.2.1 i) (hd.2.2.1 i) ≤ 1 := by unfold jq_hb; split <;> omega
      simp (disch := first | assumption | omega) only [eX4_fitsHeard_2, eX4_fitsHeard_3, eX4_fitsHeard_4, eX4_fitsHeard_7, eX4_fitsHeard_10, eX4_fitsHeard_11, eX4_fitsHeard_14, eX4_fitsHeard_15, eX4_fitsHeard_18, eX4_fitsHeard_19, eX4_fitsHeard_20, eX4_fitsHeard_21, eX4_fitsHeard_24, eX4_fitsHeard_25, hH.1, nI_leI, e3, if_false, c1, c2]
      rw [eX4_fitsHeard_26 hhb]
      have hf1 : jq_fit K mo hd g (i + 1) = decide (jq_hb K mo g (hd.2.1 i) (hd.2.2.1 i) = hd.2.2.2 i) := by
        show (jq_fit K mo hd g i && _) = _
        rw [hf, Bool.true_and]
      by_cases he : jq_hb K mo g (hd.2.1 i) (hd.2.2.1 i) = hd.2.2.2 i
      · have hee : (nI (jq_hb K mo g (hd.2.1 i) (hd.2.2.1 i)) = nI (hd.2.2.2 i)) = True := by rw [he]; simp
        simp (disch := first | assumption | omega) only [eX4_fitsHeard_29, eX4_fitsHeard_30, eX4_fitsHeard_33, eX4_fitsHeard_34, eX4_fitsHeard_35, eX4_fitsHeard_40, c3, hee, if_true, nI_add]
        rw [eX4_fitsHeard_43]
        exact ih (i + 1) (by omega) (by rw [hf1, he]; simp)
      · have hee : ¬ nI (jq_hb K mo g (hd.2.1 i) (hd.2.2.1 i)) = nI (hd.2.2.2 i) := fun q => he ((nI_eq (by omega) (by omega)).mp q)
        have hno : ¬ jq_fit K mo hd g hd.1 = true := fun q => by
          have := jq_fit_mono (K := K) (mo := mo) (hd := hd) (g := g) hd.1 (i + 1) (by omega) q
          rw [hf1] at this
          exact he (of_decide_eq_true this)
        rw [if_neg hno]
        simp (disch := first | assumption | omega) only [eX4_fitsHeard_29, eX4_fitsHeard_30, eX4_fitsHeard_33, eX4_fitsHeard_34, eX4_fitsHeard_35, eX4_fitsHeard_38, eX4_fitsHeard_39_0, eX4_fitsHeard_39_1, c3, hee, if_false]
  simp only [eX4_fitsHeard, eX4_fitsHeard_0, eX4_fitsHeard_1]
  exact key hd.1 0 (by omega) rfl
theorem X_gusts_b {x : Int32} (h : x < nI 0 ∨ nI 1 < x) : xX4_gusts [.ref 0, .int x] (jl_w mem lm) = some (some (.int (-1)), jl_w mem lm) := by
  simp only [eX4_gusts, eX4_gusts_0, eX4_gusts_1, eX4_gusts_2]
  rw [eX4_gusts_3 (jm_winn h)]
  simp only [eX4_gusts_6, eX4_gusts_9, eX4_gusts_10, je0, if_true]
theorem jX_H.fr {m : jl_M} (h : jX_H mem hd) (f : jl_F jl_co mem m) : jX_H m hd := h.keep (by rw [f 0 (by omega)]) (f 22 (by omega)) (f 23 (by omega)) (f 24 (by omega))
theorem X_gusts_o {w : Nat} (h : jX mem lm tx K mo un im hd tr) (hk : jq_WK K) (hw : jq_WM K.1 mo) (hh : hd.1 ≤ 6 ∧ ∀ i, i < hd.1 → hd.2.1 i < K.1 ∧ hd.2.2.1 i ≤ 20 ∧ hd.2.2.2 i ≤ 1) (h1 : w ≤ 1) : ∃ mem', xX4_gusts [.ref 0, .int (nI w)] (jl_w mem lm) = some (some (.int (if w = 0 then nI (jq_acc (jq_fg K mo hd) (0, -9) (10 * K.1)).1 else (jq_acc (jq_fg K mo hd) (0, -9) (10 * K.1)).2)), jl_w mem' lm) ∧ jl_F jl_co mem mem' := by
  have a2 := h.2.1
  have a3 := h.2.2.1
  have a6 := h.2.2.2.2.2.1
  have h8 := hk.1
  have h5 : jl_K 7 = 5 := rfl
  have inner : ∀ s (m : jl_M) v, s < K.1 → jl_F jl_co mem m → v = .int (nI 1) → ∃ ls' m', (ls' = [.ref 0, .int (nI w), .int (nI (jq_acc (jq_fg K mo hd) (0, -9) (10 * s + 10)).1), .int (jq_acc (jq_fg K mo hd) (0, -9) (10 * s + 10)).2, .int (nI s), .int (nI 10)] ∧ jl_F jl_co mem m') ∧ jr_ev pX4_gusts 34 [.ref 0, .int (nI w), .int (nI (jq_acc (jq_fg K mo hd) (0, -9) (10 * s + 1)).1), .int (jq_acc (jq_fg K mo hd) (0, -9) (10 * s + 1)).2, .int (nI s), v] [] (jl_w m lm) = jr_ev pX4_gusts 34 ls' [] (jl_w m' lm) := by
    intro s m v hs hF hv
    subst hv
    obtain ⟨ls', m', ⟨q1, q2, q3⟩, q5⟩ := jr_loop (P := pX4_gusts) (pc := 34) (lm := lm) (fun i ls m => ls = [.ref 0, .int (nI w), .int (nI (jq_acc (jq_fg K mo hd) (0, -9) (10 * s + i)).1), .int (jq_acc (jq_fg K mo hd) (0, -9) (10 * s + i)).2, .int (nI s), .int (nI i)] ∧ jl_F jl_co mem m ∧ 1 ≤ i) 10 (by
      intro i ls m hi ⟨hl, hF, hi1⟩
      subst hl
      obtain ⟨k1, k2⟩ := jx_fr a2 a3 hF
      obtain ⟨m1, e1, hC, f1⟩ := jx_C_of (lm := lm) (s := s) (i := i) k1 k2 hk hw hs ⟨hi1, by omega⟩
      have hF1 := hF.trans (T := fun _ => True) f1
      have hfit := X_fits (lm := lm) (g := 10 * s + i) (a6.fr hF1) hC h8 hh
      have e9 : ¬ 9 < i := by omega
      have hstep := jq_acc_s (f := jq_fg K mo hd) (a := (0, (-9 : Int32))) (s := s) hi1 (by omega : i ≤ 9)
      refine ⟨[.ref 0, .int (nI w), .int (nI (jq_acc (jq_fg K mo hd) (0, -9) (10 * s + (i + 1))).1), .int (jq_acc (jq_fg K mo hd) (0, -9) (10 * s + (i + 1))).2, .int (nI s), .int (nI (i + 1))], m1, ⟨rfl, hF1, by omega⟩, ?_⟩
      refine Eq.trans ?_ eX4_gusts_82
      simp (disch := first | assumption | omega) only [eX4_gusts_34, eX4_gusts_36, eX4_gusts_38, eX4_gusts_41, eX4_gusts_42, eX4_gusts_44, eX4_gusts_46, nI_ltI, e9, if_false]
      rw [eX4_gusts_48 e1]
      simp only [eX4_gusts_51]
      rw [eX4_gusts_52 hfit, hstep]
      generalize jq_acc (jq_fg K mo hd) (0, -9) (10 * s + i) = A at *
      have hfg : jq_fg K mo hd A (10 * s + i) = if jq_fit K mo hd (10 * s + i) hd.1 = true then (A.1 + 1, if A.2 = -9 then nI (10 * s + i) else A.2) else A := rfl
      rw [hfg]
      by_cases hb : jq_fit K mo hd (10 * s + i) hd.1 = true
      · rw [if_pos hb, if_pos hb]
        by_cases h9 : A.2 = -9
        · rw [if_pos h9]
          simp only [eX4_gusts_55, eX4_gusts_58, eX4_gusts_61, eX4_gusts_62, eX4_gusts_64, eX4_gusts_67, eX4_gusts_69, je1, if_false, h9, if_true, nI_add]
          rw [eX4_gusts_71 jm_gno]
          simp only [eX4_gusts_74, eX4_gusts_78, eX4_gusts_79, nI_add]
        · rw [if_neg h9]
          simp only [eX4_gusts_55, eX4_gusts_58, eX4_gusts_61, eX4_gusts_62, eX4_gusts_64, eX4_gusts_77, eX4_gusts_78, eX4_gusts_79, je1, if_false, h9, nI_add]
      · rw [if_neg hb, if_neg hb]
        simp only [eX4_gusts_55, eX4_gusts_79, je0, if_true, nI_add]) 9 1 _ m (by omega) ⟨rfl, hF, Nat.le_refl _⟩
    exact ⟨ls', m', ⟨q1, q2⟩, q5⟩
  obtain ⟨ls', mem', hI, he⟩ := jr_loop (P := pX4_gusts) (pc := 19) (lm := lm) (fun s ls m => (∃ v, ls = [.ref 0, .int (nI w), .int (nI (jq_acc (jq_fg K mo hd) (0, -9) (10 * s)).1), .int (jq_acc (jq_fg K mo hd) (0, -9) (10 * s)).2, .int (nI s), v]) ∧ jl_F jl_co mem m) K.1 (by
    intro s ls m hs ⟨⟨v, hl⟩, hF⟩
    subst hl
    obtain ⟨k1, k2⟩ := jx_fr a2 a3 hF
    have e3 : ¬ K.1 ≤ s := by omega
    obtain ⟨ls1, m1, ⟨rfl, f1⟩, e1⟩ := inner s m (.int (nI 1)) hs hF rfl
    refine ⟨[.ref 0, .int (nI w), .int (nI (jq_acc (jq_fg K mo hd) (0, -9) (10 * (s + 1))).1), .int (jq_acc (jq_fg K mo hd) (0, -9) (10 * (s + 1))).2, .int (nI (s + 1)), .int (nI 10)], m1, ⟨⟨_, rfl⟩, f1⟩, ?_⟩
    refine Eq.trans ?_ eX4_gusts_88
    rw [jq_acc_0] at e1
    have e10 : 9 < 10 := by omega
    simp (disch := first | assumption | omega) only [eX4_gusts_19, eX4_gusts_21, eX4_gusts_22, eX4_gusts_25, eX4_gusts_28, eX4_gusts_31, eX4_gusts_32, k1.1, nI_leI, e3, if_false]
    rw [e1]
    simp (disch := first | assumption | omega) only [eX4_gusts_34, eX4_gusts_36, eX4_gusts_38, eX4_gusts_85, nI_ltI, e10, if_true, nI_add]
    rw [show 10 * (s + 1) = 10 * s + 10 by omega]) K.1 0 [.ref 0, .int (nI w), .int (nI 0), .int (-9), .int (nI 0), .null] mem (by omega) ⟨⟨_, rfl⟩, fun _ _ => rfl⟩
  obtain ⟨⟨v, rfl⟩, hF⟩ := hI
  obtain ⟨k1, k2⟩ := jx_fr a2 a3 hF
  refine ⟨mem', ?_, hF⟩
  simp only [eX4_gusts, eX4_gusts_0, eX4_gusts_1, eX4_gusts_2]
  rw [eX4_gusts_3 (jm_win (Nat.zero_le _) h1 (by omega))]
  simp only [eX4_gusts_6, eX4_gusts_11, eX4_gusts_12, eX4_gusts_13, eX4_gusts_15, eX4_gusts_16, eX4_gusts_17, je1, if_false]
  rw [he]
  by_cases hw0 : w = 0
  · rw [if_pos hw0]
    simp (disch := first | assumption | omega) only [eX4_gusts_19, eX4_gusts_21, eX4_gusts_22, eX4_gusts_25, eX4_gusts_28, eX4_gusts_91, eX4_gusts_92, eX4_gusts_95, eX4_gusts_96, eX4_gusts_99, eX4_gusts_100, k1.1, nI_leI, Nat.le_refl, if_true, jz_eq, hw0]
  · rw [if_neg hw0]
    simp (disch := first | assumption | omega) only [eX4_gusts_19, eX4_gusts_21, eX4_gusts_22, eX4_gusts_25, eX4_gusts_28, eX4_gusts_91, eX4_gusts_92, eX4_gusts_95, eX4_gusts_96, eX4_gusts_99, eX4_gusts_100, k1.1, nI_leI, Nat.le_refl, if_true, jz_eq, hw0, if_false]
theorem X_addS {g n : Nat} {t : Nat → Nat} (hK : jx_K mem K) (h8 : K.1 ≤ 8) (hC : jx_C mem K mo g) (hn : n ≤ 20) (ht : ∀ r, r < 8 → mem 25 r = nI (t r)) : ∃ mem', xX4_addStrikes [.ref 0, .int (nI n)] (jl_w mem lm) = some (none, jl_w mem' lm) ∧ (∀ r, r < 8 → mem' 25 r = nI (if r < K.1 then t r + jq_hb K mo g r n else t r)) ∧ jl_F (fun k => k = 25) mem mem' := by
  have h5 : jl_K 7 = 5 := rfl
  obtain ⟨ls', mem', hI, he⟩ := jr_loop (P := pX4_addStrikes) (pc := 2) (lm := lm) (fun i ls m => ls = [.ref 0, .int (nI n), .int (nI i)] ∧ (∀ r, r < 8 → m 25 r = nI (if r < i then t r + jq_hb K mo g r n else t r)) ∧ jl_F (fun k => k = 25) mem m) K.1 (by
    intro i ls m hi ⟨hl, hr, hF⟩
    subst hl
    have e3 : ¬ K.1 ≤ i := by omega
    have k1 : m 7 0 = nI K.1 := by rw [hF 7 (by omega)]; exact hK.1
    have hC' : jx_C m K mo g := ⟨by rw [hF 14 (by omega)]; exact hC.1, hC.2.1, jx_F_of hC.2.2 (fun r _ _ => by rw [hF 15 (by omega)])⟩
    have hhb := hC'.hb (lm := lm) (r := i) (k := n) (by omega) hn
    have hi25 : m 25 i = nI (t i) := by rw [hr i (by omega), if_neg (by omega)]
    by_cases hb : jq_hb K mo g i n = 1
    · refine ⟨[.ref 0, .int (nI n), .int (nI (i + 1))], jl_s m 25 i (nI (t i + 1)), ⟨rfl, fun r hr8 => ?_, fun k hk => by rw [js_ne hk]; exact hF k hk⟩, ?_⟩
      · by_cases e : r = i
        · rw [e, js_hit, if_pos (by omega), hb]
        · rw [js_mj e, hr r hr8]
          by_cases e2 : r < i
          · rw [if_pos e2, if_pos (by omega)]
          · rw [if_neg e2, if_neg (by omega)]
      · refine Eq.trans ?_ eX4_addStrikes_38
        simp (disch := first | assumption | omega) only [eX4_addStrikes_2, eX4_addStrikes_3, eX4_addStrikes_4, eX4_addStrikes_7, eX4_addStrikes_10, eX4_addStrikes_13, eX4_addStrikes_14, eX4_addStrikes_17, eX4_addStrikes_18, k1, nI_leI, e3, if_false]
        rw [eX4_addStrikes_19 hhb]
        have hne : ¬ nI (jq_hb K mo g i n) = 0 := by rw [hb]; decide
        simp (disch := first | assumption | omega) only [eX4_addStrikes_22, eX4_addStrikes_25, eX4_addStrikes_26, eX4_addStrikes_29, eX4_addStrikes_30, eX4_addStrikes_31, eX4_addStrikes_32, eX4_addStrikes_33, eX4_addStrikes_34, eX4_addStrikes_35, hne, if_false, hi25, nI_add]
    · have hb0 : jq_hb K mo g i n = 0 := by
        unfold jq_hb at hb ⊢
        split at hb
        · exact absurd rfl hb
        · rename_i q; rw [if_neg q]
      refine ⟨[.ref 0, .int (nI n), .int (nI (i + 1))], m, ⟨rfl, fun r hr8 => ?_, hF⟩, ?_⟩
      · rw [hr r hr8]
        by_cases e : r = i
        · rw [e, if_neg (by omega), if_pos (by omega), hb0, Nat.add_zero]
        · by_cases e2 : r < i
          · rw [if_pos e2, if_pos (by omega)]
          · rw [if_neg e2, if_neg (by omega)]
      · refine Eq.trans ?_ eX4_addStrikes_38
        simp (disch := first | assumption | omega) only [eX4_addStrikes_2, eX4_addStrikes_3, eX4_addStrikes_4, eX4_addStrikes_7, eX4_addStrikes_10, eX4_addStrikes_13, eX4_addStrikes_14, eX4_addStrikes_17, eX4_addStrikes_18, k1, nI_leI, e3, if_false]
        rw [eX4_addStrikes_19 hhb]
        rw [hb0]
        simp (disch := first | assumption | omega) only [eX4_addStrikes_22, eX4_addStrikes_35, je0, if_true, nI_add]) K.1 0 [.ref 0, .int (nI n), .int (nI 0)] mem (by omega) ⟨rfl, fun r hr => by rw [if_neg (by omega)]; exact ht r hr, fun _ _ => rfl⟩
  obtain ⟨rfl, hr, hF⟩ := hI
  have k1 : mem' 7 0 = nI K.1 := by rw [hF 7 (by omega)]; exact hK.1
  refine ⟨mem', ?_, hr, hF⟩
  simp only [eX4_addStrikes, eX4_addStrikes_0, eX4_addStrikes_1]
  rw [he]
  simp (disch := first | assumption | omega) only [eX4_addStrikes_2, eX4_addStrikes_3, eX4_addStrikes_4, eX4_addStrikes_7, eX4_addStrikes_10, eX4_addStrikes_41, k1, nI_leI, Nat.le_refl, if_true]
end XM

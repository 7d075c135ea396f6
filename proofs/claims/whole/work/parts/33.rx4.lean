theorem jls_hit {lm : jl_L} {k j : Nat} {x : Int64} : jl_sl lm k j x k j = x := by unfold jl_sl vp_updL; simp
theorem jls_ne {lm : jl_L} {k j k' : Nat} {x : Int64} (h : k' ≠ k) : jl_sl lm k j x k' = lm k' := if_neg h
/-- a loop over gusts: those whose strength isn't 0 -/
def jq_acc {α : Type} (f : α → Nat → α) (a : α) : Nat → α
  | 0 => a
  | g + 1 => if g % 10 = 0 then jq_acc f a g else f (jq_acc f a g) g
theorem jq_acc_0 {α : Type} {f : α → Nat → α} {a : α} {s : Nat} : jq_acc f a (10 * s + 1) = jq_acc f a (10 * s) := by
  show (if (10 * s) % 10 = 0 then _ else _) = _
  rw [if_pos (by omega)]
theorem jq_acc_s {α : Type} {f : α → Nat → α} {a : α} {s i : Nat} (h1 : 1 ≤ i) (h2 : i ≤ 9) : jq_acc f a (10 * s + (i + 1)) = f (jq_acc f a (10 * s + i)) (10 * s + i) := by
  show (if (10 * s + i) % 10 = 0 then _ else _) = _
  rw [if_neg (by omega)]
  rfl
/-- a loop of k steps from lo on -/
def jq_fr {α : Type} (f : α → Nat → α) (x : α) (lo : Nat) : Nat → α
  | 0 => x
  | k + 1 => f (jq_fr f x lo k) (lo + k)
abbrev jq_G (K : jq_K) (mo : jq_M) (n g : Nat) : jq_S := jq_go K n (jq_g0 K (g / 10) (g % 10) mo)
def jq_wo (K : jq_K) (mo : jq_M) (n w g : Nat) : Int32 := if w = 0 then nI (jq_pop (jq_G K mo n g).2.1) else if (jq_G K mo n g).2.1 = 0 then -1000 else -nI (jq_G K mo n g).2.2
def jq_fb (K : jq_K) (mo : jq_M) (n w : Nat) (a : Int32 × Int32) (g : Nat) : Int32 × Int32 := if jq_wo K mo n w g ≤ a.2 then a else (nI g, jq_wo K mo n w g)
def jq_fs (K : jq_K) (mo : jq_M) (s g n a : Nat) (x : Int32 × Nat) (c : Nat) : Int32 × Nat := if (jq_go K n (jq_g0 K s g (jq_ex a c mo))).2.2 < x.2 then (nI (10 * a + c), (jq_go K n (jq_g0 K s g (jq_ex a c mo))).2.2) else x
def jq_fo (K : jq_K) (mo : jq_M) (s g n : Nat) (x : Int32 × Nat) (a : Nat) : Int32 × Nat := jq_fr (jq_fs K mo s g n a) x (a + 1) (K.1 - (a + 1))
def jq_rt (K : jq_K) (mo : jq_M) (r w : Nat) : Int32 := match w with
  | 0 => nI (K.2.2.1 r)
  | 1 => nI (K.2.2.1 r) + nI (mo (11 + r))
  | 2 => nI (K.2.2.1 r) - nI (mo 2)
  | 3 => nI 2 * (nI (K.2.2.1 r) + nI (mo (11 + r)))
  | 4 => nI (K.2.2.1 r) - nI (mo 2) + nI r
  | _ => nI (K.2.2.1 r) + nI (mo 0)
def jq_tr (w : Nat) : Int64 := match w with
  | 0 => 1
  | 1 => 11
  | 2 => 101
  | 3 => 1011
  | 4 => 10101
  | _ => 100001
section XM
variable {mem : jl_M} {lm : jl_L} {tx : jq_X} {K : jq_K} {mo : jq_M} {un : List jq_M} {im : Nat → Option jq_M} {hd : jq_H} {tr : Int64}
theorem X_rate_b {x y : Int32} (hK : jx_K mem K) (hk : jq_WK K) (h : (y < 0 ∨ nI K.1 ≤ y) ∨ ((∃ r, r < K.1 ∧ y = nI r) ∧ (x < nI 0 ∨ nI 5 < x))) : xX4_rate [.ref 0, .int x, .int y] (jl_w mem lm) = some (some (.int (-1000000)), jl_w mem lm) := by
  simp only [eX4_rate, eX4_rate_0, eX4_rate_1, eX4_rate_4]
  rcases h with h | ⟨⟨r, hr, rfl⟩, h⟩
  · rw [eX4_rate_5 (jm_hasn hK.1 h)]
    simp only [eX4_rate_8, eX4_rate_11, eX4_rate_13, je0, if_true]
  · rw [eX4_rate_5 (jm_has hK.1 hk.1 hr)]
    simp only [eX4_rate_8, eX4_rate_14, je1, if_false]
    rw [eX4_rate_15, jq_tsn 5 rfl (by decide) h]
    simp only [eX4_rate_88, eX4_rate_90]
theorem X_chm {r : Nat} (hK : jx_K mem K) (hk : jq_WK K) (hr : r < K.1) : xX4_rateChime [.ref 0, .int (nI r)] (jl_w mem lm) = some (some (.int (nI (K.2.2.1 r))), jl_w mem (jl_sl lm 0 14 (lm 0 14 + 1))) := by
  have h8 := hk.1
  have h5 : jl_K 7 = 5 := rfl
  have g1 := (hK.2.2 r hr).1
  simp (disch := first | assumption | omega) only [eX4_rateChime, eX4_rateChime_0, eX4_rateChime_1, eX4_rateChime_2, eX4_rateChime_5, eX4_rateChime_6, eX4_rateChime_7, eX4_rateChime_10, eX4_rateChime_11, eX4_rateChime_14, eX4_rateChime_17, eX4_rateChime_18, eX4_rateChime_19, g1]
theorem X_gls {r : Nat} (hK : jx_K mem K) (hM : jx_M mem 11 mo) (hk : jq_WK K) (hr : r < K.1) : ∃ lm', xX4_rateGlass [.ref 0, .int (nI r)] (jl_w mem lm) = some (some (.int (nI (K.2.2.1 r) + nI (mo (11 + r)))), jl_w mem lm') ∧ lm' 0 14 = lm 0 14 + 11 ∧ lm' 62 = lm 62 := by
  have h8 := hk.1
  have g5 : mem 13 r = nI (mo (11 + r)) := hM.2.2.2.2 r (by omega)
  refine ⟨jl_sl (jl_sl lm 0 14 (lm 0 14 + 10)) 0 14 (jl_sl lm 0 14 (lm 0 14 + 10) 0 14 + 1), ?_, ?_, ?_⟩
  · simp only [eX4_rateGlass, eX4_rateGlass_0, eX4_rateGlass_1, eX4_rateGlass_2, eX4_rateGlass_5, eX4_rateGlass_8, eX4_rateGlass_9, eX4_rateGlass_12, eX4_rateGlass_13]
    rw [eX4_rateGlass_14 (X_chm hK hk hr)]
    simp (disch := first | assumption | omega) only [eX4_rateGlass_17, eX4_rateGlass_18, eX4_rateGlass_21, eX4_rateGlass_24, eX4_rateGlass_25, eX4_rateGlass_26, eX4_rateGlass_27, g5]
  · rw [jls_hit, jls_hit, Int64.add_assoc]; rfl
  · rw [jls_ne (by omega), jls_ne (by omega)]
theorem X_shl {r : Nat} (hK : jx_K mem K) (hM : jx_M mem 11 mo) (hk : jq_WK K) (hr : r < K.1) : ∃ lm', xX4_rateShell [.ref 0, .int (nI r)] (jl_w mem lm) = some (some (.int (nI (K.2.2.1 r) - nI (mo 2))), jl_w mem lm') ∧ lm' 0 14 = lm 0 14 + 101 ∧ lm' 62 = lm 62 := by
  have h8 := hk.1
  refine ⟨jl_sl (jl_sl lm 0 14 (lm 0 14 + 100)) 0 14 (jl_sl lm 0 14 (lm 0 14 + 100) 0 14 + 1), ?_, ?_, ?_⟩
  · simp only [eX4_rateShell, eX4_rateShell_0, eX4_rateShell_1, eX4_rateShell_2, eX4_rateShell_5, eX4_rateShell_8, eX4_rateShell_9, eX4_rateShell_12, eX4_rateShell_13]
    rw [eX4_rateShell_14 (X_chm hK hk hr)]
    simp (disch := first | assumption | omega) only [eX4_rateShell_17, eX4_rateShell_18, eX4_rateShell_21, eX4_rateShell_24, eX4_rateShell_25, hM.2.2.1]
  · rw [jls_hit, jls_hit, Int64.add_assoc]; rfl
  · rw [jls_ne (by omega), jls_ne (by omega)]
theorem X_rate_o {r w : Nat} (h : jX mem lm tx K mo un im hd tr) (hk : jq_WK K) (hr : r < K.1) (hw : w ≤ 5) : ∃ lm', xX4_rate [.ref 0, .int (nI w), .int (nI r)] (jl_w mem lm) = some (some (.int (jq_rt K mo r w)), jl_w mem lm') ∧ lm' 0 14 = tr + jq_tr w ∧ lm' 62 = lm 62 := by
  obtain ⟨a1, a2, a3, a4, a5, a6, a7⟩ := h
  simp only [eX4_rate, eX4_rate_0, eX4_rate_1, eX4_rate_4]
  rw [eX4_rate_5 (jm_has a2.1 hk.1 hr)]
  simp only [eX4_rate_8, eX4_rate_14, je1, if_false]
  rw [eX4_rate_15]
  match w, hw with
  | 0, _ =>
    rw [show (if (nI 0).toInt < 0 then 88 else (([52, 58, 64, 70, 76, 82] : List Nat)[((nI 0).toInt - 0).toNat]?).getD 88) = 52 from by decide +kernel]
    refine ⟨jl_sl lm 0 14 (lm 0 14 + 1), ?_, by rw [jls_hit, a7]; rfl, by rw [jls_ne (by omega)]⟩
    simp only [eX4_rate_52, eX4_rate_53]
    rw [eX4_rate_54 (X_chm a2 hk hr)]
    simp only [eX4_rate_57]
    rfl
  | 1, _ =>
    rw [show (if (nI 1).toInt < 0 then 88 else (([52, 58, 64, 70, 76, 82] : List Nat)[((nI 1).toInt - 0).toNat]?).getD 88) = 58 from by decide +kernel]
    obtain ⟨l1, c1, c2, c3⟩ := X_gls (lm := lm) a2 a3 hk hr
    refine ⟨l1, ?_, by rw [c2, a7]; rfl, c3⟩
    simp only [eX4_rate_58, eX4_rate_59]
    rw [eX4_rate_60 c1]
    simp only [eX4_rate_63]
    rfl
  | 2, _ =>
    rw [show (if (nI 2).toInt < 0 then 88 else (([52, 58, 64, 70, 76, 82] : List Nat)[((nI 2).toInt - 0).toNat]?).getD 88) = 64 from by decide +kernel]
    obtain ⟨l1, c1, c2, c3⟩ := X_shl (lm := lm) a2 a3 hk hr
    refine ⟨l1, ?_, by rw [c2, a7]; rfl, c3⟩
    simp only [eX4_rate_64, eX4_rate_65]
    rw [eX4_rate_66 c1]
    simp only [eX4_rate_69]
    rfl
  | 3, _ =>
    rw [show (if (nI 3).toInt < 0 then 88 else (([52, 58, 64, 70, 76, 82] : List Nat)[((nI 3).toInt - 0).toNat]?).getD 88) = 70 from by decide +kernel]
    obtain ⟨l1, c1, c2, c3⟩ := X_gls (lm := jl_sl lm 0 14 (lm 0 14 + 1000)) a2 a3 hk hr
    have hb : xX4_rateBell [.ref 0, .int (nI r)] (jl_w mem lm) = some (some (.int (nI 2 * (nI (K.2.2.1 r) + nI (mo (11 + r))))), jl_w mem l1) := by
      simp only [eX4_rateBell, eX4_rateBell_0, eX4_rateBell_1, eX4_rateBell_2, eX4_rateBell_5, eX4_rateBell_8, eX4_rateBell_9, eX4_rateBell_12, eX4_rateBell_13, eX4_rateBell_14]
      rw [eX4_rateBell_15 c1]
      simp only [eX4_rateBell_18, eX4_rateBell_19]
    refine ⟨l1, ?_, by rw [c2, jls_hit, a7, Int64.add_assoc]; rfl, by rw [c3, jls_ne (by omega)]⟩
    simp only [eX4_rate_70, eX4_rate_71]
    rw [eX4_rate_72 hb]
    simp only [eX4_rate_75]
    rfl
  | 4, _ =>
    rw [show (if (nI 4).toInt < 0 then 88 else (([52, 58, 64, 70, 76, 82] : List Nat)[((nI 4).toInt - 0).toNat]?).getD 88) = 76 from by decide +kernel]
    obtain ⟨l1, c1, c2, c3⟩ := X_shl (lm := jl_sl lm 0 14 (lm 0 14 + 10000)) a2 a3 hk hr
    have hb : xX4_rateBone [.ref 0, .int (nI r)] (jl_w mem lm) = some (some (.int (nI (K.2.2.1 r) - nI (mo 2) + nI r)), jl_w mem l1) := by
      simp only [eX4_rateBone, eX4_rateBone_0, eX4_rateBone_1, eX4_rateBone_2, eX4_rateBone_5, eX4_rateBone_8, eX4_rateBone_9, eX4_rateBone_12, eX4_rateBone_13]
      rw [eX4_rateBone_14 c1]
      simp only [eX4_rateBone_17, eX4_rateBone_18, eX4_rateBone_19]
    refine ⟨l1, ?_, by rw [c2, jls_hit, a7, Int64.add_assoc]; rfl, by rw [c3, jls_ne (by omega)]⟩
    simp only [eX4_rate_76, eX4_rate_77]
    rw [eX4_rate_78 hb]
    simp only [eX4_rate_81]
    rfl
  | 5, _ =>
    rw [show (if (nI 5).toInt < 0 then 88 else (([52, 58, 64, 70, 76, 82] : List Nat)[((nI 5).toInt - 0).toNat]?).getD 88) = 82 from by decide +kernel]
    have hb : xX4_rateBrass [.ref 0, .int (nI r)] (jl_w mem lm) = some (some (.int (nI (K.2.2.1 r) + nI (mo 0))), jl_w mem (jl_sl (jl_sl lm 0 14 (lm 0 14 + 100000)) 0 14 (jl_sl lm 0 14 (lm 0 14 + 100000) 0 14 + 1))) := by
      simp only [eX4_rateBrass, eX4_rateBrass_0, eX4_rateBrass_1, eX4_rateBrass_2, eX4_rateBrass_5, eX4_rateBrass_8, eX4_rateBrass_9, eX4_rateBrass_12, eX4_rateBrass_13]
      rw [eX4_rateBrass_14 (X_chm a2 hk hr)]
      simp only [eX4_rateBrass_17, eX4_rateBrass_18, eX4_rateBrass_21, eX4_rateBrass_24, eX4_rateBrass_25, a3.1]
    refine ⟨jl_sl (jl_sl lm 0 14 (lm 0 14 + 100000)) 0 14 (jl_sl lm 0 14 (lm 0 14 + 100000) 0 14 + 1), ?_, ?_, ?_⟩
    · simp only [eX4_rate_82, eX4_rate_83]
      rw [eX4_rate_84 hb]
      simp only [eX4_rate_87]
      rfl
    · rw [jls_hit, jls_hit, a7, Int64.add_assoc]; rfl
    · rw [jls_ne (by omega), jls_ne (by omega)]
theorem X_best_b {x y : Int32} (h : (x < nI 0 ∨ nI 20 < x) ∨ ((∃ n, n ≤ 20 ∧ x = nI n) ∧ (y < nI 0 ∨ nI 1 < y))) : xX4_best [.ref 0, .int x, .int y] (jl_w mem lm) = some (some (.int (-1)), jl_w mem lm) := by
  simp only [eX4_best, eX4_best_0]
  rcases h with h | ⟨⟨n, hn, rfl⟩, h⟩
  · rw [eX4_best_1 (jm_caln h)]
    simp only [eX4_best_4, eX4_best_16, eX4_best_17, je0, if_true]
  · rw [eX4_best_1 (jm_cal hn)]
    simp only [eX4_best_4, eX4_best_7, eX4_best_8, eX4_best_9, je1, if_false]
    rw [eX4_best_10 (jm_winn h)]
    simp only [eX4_best_13, eX4_best_16, eX4_best_17, je0, if_true]
theorem jx_fr {mem m : jl_M} {K : jq_K} {mo : jq_M} (hK : jx_K mem K) (hM : jx_M mem 11 mo) (f : jl_F jl_co mem m) : jx_K m K ∧ jx_M m 11 mo :=
  ⟨hK.frame f (fun k hk => by omega), hM.keep (f 11 (by omega)) (f 12 (by omega)) (f 13 (by omega))⟩
theorem X_best_o {n w : Nat} (h : jX mem lm tx K mo un im hd tr) (hk : jq_WK K) (hw : jq_WM K.1 mo) (hn : n ≤ 20) (h1 : w ≤ 1) : ∃ mem', xX4_best [.ref 0, .int (nI n), .int (nI w)] (jl_w mem lm) = some (some (.int (jq_acc (jq_fb K mo n w) (-9, -1000) (10 * K.1)).1), jl_w mem' lm) ∧ jl_F jl_co mem mem' := by
  have a2 := h.2.1
  have a3 := h.2.2.1
  have h8 := hk.1
  have h5 : jl_K 7 = 5 := rfl
  have inner : ∀ s (m : jl_M) v, s < K.1 → jl_F jl_co mem m → ∃ ls' m', ((∃ v, ls' = [.ref 0, .int (nI n), .int (nI w), .int (jq_acc (jq_fb K mo n w) (-9, -1000) (10 * s + 10)).1, .int (jq_acc (jq_fb K mo n w) (-9, -1000) (10 * s + 10)).2, .int (nI s), .int (nI 10), v]) ∧ jl_F jl_co mem m') ∧ jr_ev pX4_best 44 [.ref 0, .int (nI n), .int (nI w), .int (jq_acc (jq_fb K mo n w) (-9, -1000) (10 * s + 1)).1, .int (jq_acc (jq_fb K mo n w) (-9, -1000) (10 * s + 1)).2, .int (nI s), .int (nI 1), v] [] (jl_w m lm) = jr_ev pX4_best 44 ls' [] (jl_w m' lm) := by
    intro s m v hs hF
    refine jr_loop (P := pX4_best) (pc := 44) (lm := lm) (fun i ls m => (∃ v, ls = [.ref 0, .int (nI n), .int (nI w), .int (jq_acc (jq_fb K mo n w) (-9, -1000) (10 * s + i)).1, .int (jq_acc (jq_fb K mo n w) (-9, -1000) (10 * s + i)).2, .int (nI s), .int (nI i), v]) ∧ jl_F jl_co mem m ∧ 1 ≤ i) 10 ?_ 9 1 _ m (by omega) ⟨⟨v, rfl⟩, hF, Nat.le_refl _⟩ |> fun ⟨ls', m', q1, q2⟩ => ⟨ls', m', ⟨q1.1, q1.2.1⟩, q2⟩
    intro i ls m hi ⟨⟨v, hl⟩, hF, hi1⟩
    subst hl
    obtain ⟨k1, k2⟩ := jx_fr a2 a3 hF
    obtain ⟨m1, e1, c2, c3, c4, f1⟩ := jm_follow (lm := lm) (s := s) (g := i) (n := n) k1 k2 hk hw hs ⟨hi1, by omega⟩ hn
    have e9 : ¬ 9 < i := by omega
    have hG : jq_G K mo n (10 * s + i) = jq_go K n (jq_g0 K s i mo) := by
      show jq_go K n (jq_g0 K ((10 * s + i) / 10) ((10 * s + i) % 10) mo) = _
      rw [show (10 * s + i) / 10 = s by omega, show (10 * s + i) % 10 = i by omega]
    obtain ⟨w1, w2, w3, w4⟩ := jq_WS_go hk (by omega) (jq_WS_g0 hk hs (by omega : i ≤ 9) hw) n
    rw [← hG] at c2 c3 w2
    have hwo : ∃ x, x = jq_wo K mo n w (10 * s + i) ∧ jr_ev pX4_best 60 [.ref 0, .int (nI n), .int (nI w), .int (jq_acc (jq_fb K mo n w) (-9, -1000) (10 * s + i)).1, .int (jq_acc (jq_fb K mo n w) (-9, -1000) (10 * s + i)).2, .int (nI s), .int (nI i), v] [] (jl_w m1 lm) = jr_ev pX4_best 81 [.ref 0, .int (nI n), .int (nI w), .int (jq_acc (jq_fb K mo n w) (-9, -1000) (10 * s + i)).1, .int (jq_acc (jq_fb K mo n w) (-9, -1000) (10 * s + i)).2, .int (nI s), .int (nI i), v] [.int x] (jl_w m1 lm) := by
      refine ⟨_, rfl, ?_⟩
      unfold jq_wo
      by_cases hw0 : w = 0
      · simp (disch := first | assumption | omega) only [eX4_best_60, eX4_best_61, eX4_best_64, eX4_best_65, jz_eq, hw0, if_true]
        rw [eX4_best_68 (jm_count c2 w2)]
        simp only [eX4_best_71]
      · simp (disch := first | assumption | omega) only [eX4_best_60, eX4_best_61, eX4_best_74, eX4_best_75, jz_eq, hw0, if_false]
        rw [eX4_best_78 (jm_mild c2 w2 c3)]
    obtain ⟨x, hx, hev⟩ := hwo
    have hstep := jq_acc_s (f := jq_fb K mo n w) (a := ((-9 : Int32), (-1000 : Int32))) (s := s) hi1 (by omega : i ≤ 9)
    refine ⟨[.ref 0, .int (nI n), .int (nI w), .int (jq_acc (jq_fb K mo n w) (-9, -1000) (10 * s + (i + 1))).1, .int (jq_acc (jq_fb K mo n w) (-9, -1000) (10 * s + (i + 1))).2, .int (nI s), .int (nI (i + 1)), .int x], m1, ⟨⟨_, rfl⟩, hF.trans (T := fun _ => True) f1, by omega⟩, ?_⟩
    refine Eq.trans ?_ eX4_best_105
    simp (disch := first | assumption | omega) only [eX4_best_44, eX4_best_46, eX4_best_48, eX4_best_51, eX4_best_52, eX4_best_54, eX4_best_56, nI_ltI, e9, if_false]
    have hfb : ∀ A, jq_fb K mo n w A (10 * s + i) = if x ≤ A.2 then A else (nI (10 * s + i), x) := fun A => by rw [hx]; rfl
    rw [eX4_best_57 e1, hev, hstep, hfb]
    by_cases hle : x ≤ (jq_acc (jq_fb K mo n w) (-9, -1000) (10 * s + i)).2
    · rw [if_pos hle]
      simp only [eX4_best_81, eX4_best_83, eX4_best_85, eX4_best_87, eX4_best_102, hle, if_true, nI_add]
    · rw [if_neg hle]
      simp only [eX4_best_81, eX4_best_83, eX4_best_85, eX4_best_87, eX4_best_90, eX4_best_92, hle, if_false]
      rw [eX4_best_94 jm_gno]
      simp only [eX4_best_97, eX4_best_98, eX4_best_100, eX4_best_102, nI_add]
  obtain ⟨ls', mem', hI, he⟩ := jr_loop (P := pX4_best) (pc := 29) (lm := lm) (fun s ls m => (∃ v6 v7, ls = [.ref 0, .int (nI n), .int (nI w), .int (jq_acc (jq_fb K mo n w) (-9, -1000) (10 * s)).1, .int (jq_acc (jq_fb K mo n w) (-9, -1000) (10 * s)).2, .int (nI s), v6, v7]) ∧ jl_F jl_co mem m) K.1 (by
    intro s ls m hs ⟨⟨v6, v7, hl⟩, hF⟩
    subst hl
    obtain ⟨k1, k2⟩ := jx_fr a2 a3 hF
    have e3 : ¬ K.1 ≤ s := by omega
    obtain ⟨ls1, m1, ⟨⟨v, rfl⟩, f1⟩, e1⟩ := inner s m v7 hs hF
    refine ⟨[.ref 0, .int (nI n), .int (nI w), .int (jq_acc (jq_fb K mo n w) (-9, -1000) (10 * (s + 1))).1, .int (jq_acc (jq_fb K mo n w) (-9, -1000) (10 * (s + 1))).2, .int (nI (s + 1)), .int (nI 10), v], m1, ⟨⟨_, _, rfl⟩, f1⟩, ?_⟩
    refine Eq.trans ?_ eX4_best_111
    rw [jq_acc_0] at e1
    have e10 : 9 < 10 := by omega
    simp (disch := first | assumption | omega) only [eX4_best_29, eX4_best_31, eX4_best_32, eX4_best_35, eX4_best_38, eX4_best_41, eX4_best_42, k1.1, nI_leI, e3, if_false]
    rw [e1]
    simp (disch := first | assumption | omega) only [eX4_best_44, eX4_best_46, eX4_best_48, eX4_best_108, nI_ltI, e10, if_true, nI_add]
    rw [show 10 * (s + 1) = 10 * s + 10 by omega]) K.1 0 [.ref 0, .int (nI n), .int (nI w), .int (-9), .int (-1000), .int (nI 0), .null, .null] mem (by omega) ⟨⟨_, _, rfl⟩, fun _ _ => rfl⟩
  obtain ⟨⟨v6, v7, rfl⟩, hF⟩ := hI
  obtain ⟨k1, k2⟩ := jx_fr a2 a3 hF
  refine ⟨mem', ?_, hF⟩
  simp only [eX4_best, eX4_best_0]
  rw [eX4_best_1 (jm_cal hn)]
  simp only [eX4_best_4, eX4_best_7, eX4_best_8, eX4_best_9, je1, if_false]
  rw [eX4_best_10 (jm_win (Nat.zero_le _) h1 (by omega))]
  simp only [eX4_best_13, eX4_best_18, eX4_best_20, eX4_best_21, eX4_best_24, eX4_best_26, eX4_best_27, je1, if_false]
  rw [he]
  simp (disch := first | assumption | omega) only [eX4_best_29, eX4_best_31, eX4_best_32, eX4_best_35, eX4_best_38, eX4_best_114, eX4_best_115, k1.1, nI_leI, Nat.le_refl, if_true]
end XM

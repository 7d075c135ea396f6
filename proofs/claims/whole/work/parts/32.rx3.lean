section XM
variable {mem : jl_M} {lm : jl_L} {tx : jq_X} {K : jq_K} {mo : jq_M} {un : List jq_M} {im : Nat → Option jq_M} {hd : jq_H} {tr : Int64}
theorem X_now_b {x : Int32} (h : x < nI 0 ∨ nI 6 < x) : xX4_now [.ref 0, .int x] (jl_w mem lm) = some (some (.int (-1)), jl_w mem lm) := by
  simp only [eX4_now, eX4_now_0]
  rw [eX4_now_1, jq_tsn 6 rfl (by decide) h]
  simp only [eX4_now_101, eX4_now_102]
/-- what now() tells -/
def jq_nw (K : jq_K) (mo : jq_M) (un : List jq_M) (w : Nat) : Int32 := match w with
  | 0 => nI (mo 0)
  | 1 => nI (mo 1)
  | 2 => nI (mo 2)
  | 3 => nI (jq_rg mo K.1)
  | 4 => nI (jq_h K mo)
  | 5 => jq_an (jq_sf K 61 0 mo)
  | _ => nI un.length
theorem X_now_o {w : Nat} (h : jX mem lm tx K mo un im hd tr) (hk : jq_WK K) (hw : jq_WM K.1 mo) (h6 : w ≤ 6) : ∃ mem', xX4_now [.ref 0, .int (nI w)] (jl_w mem lm) = some (some (.int (jq_nw K mo un w)), jl_w mem' lm) ∧ jl_F jl_co mem mem' := by
  obtain ⟨a1, a2, a3, ⟨p, p1, p2, p3, p4⟩, a5, a6, a7⟩ := h
  simp only [eX4_now, eX4_now_0]
  rw [eX4_now_1]
  match w, h6 with
  | 0, _ => rw [show (if (nI 0).toInt < 0 then 101 else (([44, 52, 60, 68, 76, 84, 96] : List Nat)[((nI 0).toInt - 0).toNat]?).getD 101) = 44 from by decide +kernel]; exact ⟨mem, by simp only [eX4_now_44, eX4_now_45, eX4_now_48, eX4_now_51, a3.1]; rfl, fun _ _ => rfl⟩
  | 1, _ => rw [show (if (nI 1).toInt < 0 then 101 else (([44, 52, 60, 68, 76, 84, 96] : List Nat)[((nI 1).toInt - 0).toNat]?).getD 101) = 52 from by decide +kernel]; exact ⟨mem, by simp only [eX4_now_52, eX4_now_53, eX4_now_56, eX4_now_59, a3.2.1]; rfl, fun _ _ => rfl⟩
  | 2, _ => rw [show (if (nI 2).toInt < 0 then 101 else (([44, 52, 60, 68, 76, 84, 96] : List Nat)[((nI 2).toInt - 0).toNat]?).getD 101) = 60 from by decide +kernel]; exact ⟨mem, by simp only [eX4_now_60, eX4_now_61, eX4_now_64, eX4_now_67, a3.2.2.1]; rfl, fun _ _ => rfl⟩
  | 3, _ =>
    rw [show (if (nI 3).toInt < 0 then 101 else (([44, 52, 60, 68, 76, 84, 96] : List Nat)[((nI 3).toInt - 0).toNat]?).getD 101) = 68 from by decide +kernel]
    refine ⟨mem, ?_, fun _ _ => rfl⟩
    simp only [eX4_now_68, eX4_now_69]
    rw [eX4_now_72 (jm_ringing (b := 11) rfl a2 a3 hk hw)]
    simp only [eX4_now_75]
    rfl
  | 4, _ =>
    rw [show (if (nI 4).toInt < 0 then 101 else (([44, 52, 60, 68, 76, 84, 96] : List Nat)[((nI 4).toInt - 0).toNat]?).getD 101) = 76 from by decide +kernel]
    refine ⟨mem, ?_, fun _ _ => rfl⟩
    simp only [eX4_now_76, eX4_now_77]
    rw [eX4_now_80 (jm_harsh (b := 11) rfl a2 a3 hk hw)]
    simp only [eX4_now_83]
    rfl
  | 5, _ =>
    rw [show (if (nI 5).toInt < 0 then 101 else (([44, 52, 60, 68, 76, 84, 96] : List Nat)[((nI 5).toInt - 0).toNat]?).getD 101) = 84 from by decide +kernel]
    obtain ⟨m1, e1, f1⟩ := jm_toStill (lm := lm) a2 a3 hk hw
    refine ⟨m1, ?_, f1⟩
    simp only [eX4_now_84, eX4_now_85, eX4_now_88, eX4_now_89]
    rw [eX4_now_92 e1]
    simp only [eX4_now_95]
    rfl
  | 6, _ => rw [show (if (nI 6).toInt < 0 then 101 else (([44, 52, 60, 68, 76, 84, 96] : List Nat)[((nI 6).toInt - 0).toNat]?).getD 101) = 96 from by decide +kernel]; exact ⟨mem, by simp only [eX4_now_96, eX4_now_97, eX4_now_100, p3]; rfl, fun _ _ => rfl⟩
theorem X_comes_b {x y : Int32} (h : (x < nI 0 ∨ nI 20 < x) ∨ ((∃ n, n ≤ 20 ∧ x = nI n) ∧ (y < nI 0 ∨ nI 1 < y))) : xX4_comes [.ref 0, .int x, .int y] (jl_w mem lm) = some (some (.int (-1)), jl_w mem lm) := by
  simp only [eX4_comes, eX4_comes_0]
  rcases h with h | ⟨⟨n, hn, rfl⟩, h⟩
  · rw [eX4_comes_1 (jm_caln h)]
    simp only [eX4_comes_4, eX4_comes_16, eX4_comes_17, je0, if_true]
  · rw [eX4_comes_1 (jm_cal hn)]
    simp only [eX4_comes_4, eX4_comes_7, eX4_comes_8, eX4_comes_9, je1, if_false]
    rw [eX4_comes_10 (jm_winn h)]
    simp only [eX4_comes_13, eX4_comes_16, eX4_comes_17, je0, if_true]
theorem X_comes_o {n w : Nat} (h : jX mem lm tx K mo un im hd tr) (hk : jq_WK K) (hw : jq_WM K.1 mo) (hn : n ≤ 20) (h1 : w ≤ 1) : ∃ mem', xX4_comes [.ref 0, .int (nI n), .int (nI w)] (jl_w mem lm) = some (some (.int (nI (if K.1 = 0 then 0 else if w = 0 then (jq_go K n (mo, 0, jq_h K mo)).2.1 else (jq_go K n (mo, 0, jq_h K mo)).2.2))), jl_w mem' lm) ∧ jl_F jl_co mem mem' := by
  have a2 := h.2.1
  have a3 := h.2.2.1
  obtain ⟨m1, e1, r1, b1, b2, b3, f1⟩ := jm_cstart (lm := lm) a3
  have K1 := a2.frame f1 (fun k hk => by omega)
  obtain ⟨m2, e2, n1, n2, n3, n4, f2⟩ := jm_note (lm := lm) (o := none) (mo := mo) K1 r1 hk hw (fun r hr => by cases hr) b1 b2 b3 (by omega) (by omega)
  have e2 : xX0_note [.ref 14, .int (-9)] (jl_w m1 lm) = some (none, jl_w m2 lm) := e2
  have K2 := K1.frame f2 (fun k hk => by omega)
  have r2 := r1.keep (f2 16 (by omega)) (f2 17 (by omega)) (f2 18 (by omega))
  have n2 : m2 14 2 = nI 0 := n2
  have n3 : m2 14 3 = nI (jq_h K mo) := by rw [n3, Nat.max_eq_right (Nat.zero_le _)]
  have hl := jq_h_le (mo := mo) hk.1
  have key : ∃ m3, xX0_passCalms [.ref 14, .int (nI n)] (jl_w m2 lm) = some (none, jl_w m3 lm) ∧ m3 14 2 = nI (if K.1 = 0 then 0 else (jq_go K n (mo, 0, jq_h K mo)).2.1) ∧ m3 14 3 = nI (if K.1 = 0 then 0 else (jq_go K n (mo, 0, jq_h K mo)).2.2) ∧ jl_F jl_co m2 m3 := by
    by_cases h0 : K.1 = 0
    · refine ⟨m2, jm_ccalms0 hn (by rw [r2.2.2.1, hw.1 h0]), by rw [if_pos h0]; exact n2, ?_, fun _ _ => rfl⟩
      rw [if_pos h0, n3]
      unfold jq_h
      rw [h0]
      rfl
    · obtain ⟨m3, c1, c2, c3, c4, c5⟩ := jm_ccalms (lm := lm) (n := n) (s := (mo, 0, jq_h K mo)) K2 r2 hk (by omega) ⟨hw, by show 0 < 256; omega, hl, Nat.le_refl _⟩ hn n1 n2 n3 (jx_F_0 (fun r hr hb => by rw [show (jq_go K 0 (mo, 0, jq_h K mo)).2.1 = 0 from rfl, Nat.zero_testBit] at hb; cases hb))
      exact ⟨m3, c1, by rw [if_neg h0]; exact c2, by rw [if_neg h0]; exact c3, c5⟩
  obtain ⟨m3, c1, c2, c3, c5⟩ := key
  refine ⟨m3, ?_, (f1.trans (T := fun _ => True) (f2.up (fun k hk => by omega))).trans (T := fun _ => True) c5⟩
  simp only [eX4_comes, eX4_comes_0]
  rw [eX4_comes_1 (jm_cal hn)]
  simp only [eX4_comes_4, eX4_comes_7, eX4_comes_8, eX4_comes_9, je1, if_false]
  rw [eX4_comes_10 (jm_win (Nat.zero_le _) h1 (by omega))]
  simp only [eX4_comes_13, eX4_comes_18, eX4_comes_19, eX4_comes_22, eX4_comes_23, je1, if_false]
  rw [eX4_comes_26 e1]
  simp only [eX4_comes_29, eX4_comes_30, eX4_comes_33]
  rw [eX4_comes_35 e2]
  simp only [eX4_comes_38, eX4_comes_39, eX4_comes_42]
  rw [eX4_comes_43 c1]
  by_cases hw0 : w = 0
  · simp (disch := first | assumption | omega) only [eX4_comes_46, eX4_comes_47, eX4_comes_50, eX4_comes_51, eX4_comes_54, eX4_comes_57, eX4_comes_60, eX4_comes_61, eX4_comes_64, eX4_comes_67, jz_eq, hw0, if_true, c2]
  · simp (disch := first | assumption | omega) only [eX4_comes_46, eX4_comes_47, eX4_comes_50, eX4_comes_51, eX4_comes_54, eX4_comes_57, eX4_comes_60, eX4_comes_61, eX4_comes_64, eX4_comes_67, jz_eq, hw0, if_false, c3]
theorem X_hears_b {x y z : Int32} (hK : jx_K mem K) (hk : jq_WK K) (h : (x < 0 ∨ nI K.1 ≤ x) ∨ ((∃ r, r < K.1 ∧ x = nI r) ∧ (y < nI 0 ∨ nI 20 < y)) ∨ ((∃ r, r < K.1 ∧ x = nI r) ∧ (∃ n, n ≤ 20 ∧ y = nI n) ∧ (z < nI 0 ∨ nI 1 < z))) : xX4_hears [.ref 0, .int x, .int y, .int z] (jl_w mem lm) = some (some (.int (-1)), jl_w mem lm) := by
  simp only [eX4_hears, eX4_hears_0, eX4_hears_1, eX4_hears_4]
  rcases h with h | ⟨⟨r, hr, rfl⟩, h⟩ | ⟨⟨r, hr, rfl⟩, ⟨n, hn, rfl⟩, h⟩
  · rw [eX4_hears_5 (jm_hasn hK.1 h)]
    simp only [eX4_hears_8, eX4_hears_27, eX4_hears_28, je0, if_true]
  · rw [eX4_hears_5 (jm_has hK.1 hk.1 hr)]
    simp only [eX4_hears_8, eX4_hears_11, je1, if_false]
    rw [eX4_hears_12 (jm_caln h)]
    simp only [eX4_hears_15, eX4_hears_27, eX4_hears_28, je0, if_true]
  · rw [eX4_hears_5 (jm_has hK.1 hk.1 hr)]
    simp only [eX4_hears_8, eX4_hears_11, je1, if_false]
    rw [eX4_hears_12 (jm_cal hn)]
    simp only [eX4_hears_15, eX4_hears_18, eX4_hears_19, eX4_hears_20, je1, if_false]
    rw [eX4_hears_21 (jm_winn h)]
    simp only [eX4_hears_24, eX4_hears_27, eX4_hears_28, je0, if_true]
theorem X_hears_f {r n z : Nat} (h : jX mem lm tx K mo un im hd tr) (hk : jq_WK K) (hr : r < K.1) (hn : n ≤ 20) (hz : z ≤ 1) (h6 : hd.1 = 6) : xX4_hears [.ref 0, .int (nI r), .int (nI n), .int (nI z)] (jl_w mem lm) = some (some (.int (-3)), jl_w mem lm) := by
  have e : ¬ 6 < 6 := by omega
  simp only [eX4_hears, eX4_hears_0, eX4_hears_1, eX4_hears_4]
  rw [eX4_hears_5 (jm_has h.2.1.1 hk.1 hr)]
  simp only [eX4_hears_8, eX4_hears_11, je1, if_false]
  rw [eX4_hears_12 (jm_cal hn)]
  simp only [eX4_hears_15, eX4_hears_18, eX4_hears_19, eX4_hears_20, je1, if_false]
  rw [eX4_hears_21 (jm_win (Nat.zero_le _) hz (by omega))]
  simp (disch := first | assumption | omega) only [eX4_hears_24, eX4_hears_27, eX4_hears_28, eX4_hears_29, eX4_hears_30, eX4_hears_33, eX4_hears_35, eX4_hears_38, eX4_hears_40, je1, if_false, h.2.2.2.2.2.1.1, h6, nI_ltI, e]
theorem X_hears_o {r n z : Nat} (h : jX mem lm tx K mo un im hd tr) (hk : jq_WK K) (hr : r < K.1) (hn : n ≤ 20) (hz : z ≤ 1) (h6 : hd.1 < 6) : ∃ mem', xX4_hears [.ref 0, .int (nI r), .int (nI n), .int (nI z)] (jl_w mem lm) = some (some (.int (nI (hd.1 + 1))), jl_w mem' lm) ∧ jX mem' lm tx K mo un im (hd.1 + 1, fun i => if i = hd.1 then r else hd.2.1 i, fun i => if i = hd.1 then n else hd.2.2.1 i, fun i => if i = hd.1 then z else hd.2.2.2 i) tr ∧ jl_hi mem mem' := by
  obtain ⟨a1, a2, a3, a4, a5, a6, a7⟩ := h
  have c12 := a6.1
  refine ⟨jl_s (jl_s (jl_s (jl_s mem 22 hd.1 (nI r)) 23 hd.1 (nI n)) 24 hd.1 (nI z)) 0 12 (nI (hd.1 + 1)), ?_, ⟨a1.keep ?_ ?_, a2.keep ?_ ?_ ?_ ?_, a3.keep ?_ ?_ ?_, a4.keep ?_ ?_ (fun k h1 h2 => ?_), a5.keep ?_ (fun k h1 h2 => ?_), ⟨?_, fun i hi => ?_⟩, a7⟩, fun k hk => ?_⟩
  · have q1 : ∀ x, jl_s mem 22 hd.1 x 0 12 = nI hd.1 := fun x => by rw [js_mk (by omega), c12]
    have q2 : ∀ x y, jl_s (jl_s mem 22 hd.1 x) 23 hd.1 y 0 12 = nI hd.1 := fun x y => by rw [js_mk (by omega), q1]
    have q3 : ∀ x y z, jl_s (jl_s (jl_s mem 22 hd.1 x) 23 hd.1 y) 24 hd.1 z 0 12 = nI hd.1 := fun x y z => by rw [js_mk (by omega), q2]
    simp only [eX4_hears, eX4_hears_0, eX4_hears_1, eX4_hears_4]
    rw [eX4_hears_5 (jm_has a2.1 hk.1 hr)]
    simp only [eX4_hears_8, eX4_hears_11, je1, if_false]
    rw [eX4_hears_12 (jm_cal hn)]
    simp only [eX4_hears_15, eX4_hears_18, eX4_hears_19, eX4_hears_20, je1, if_false]
    rw [eX4_hears_21 (jm_win (Nat.zero_le _) hz (by omega))]
    by_cases hz1 : z = 1
    · simp (disch := first | assumption | omega) only [eX4_hears_24, eX4_hears_29, eX4_hears_30, eX4_hears_33, eX4_hears_35, eX4_hears_38, eX4_hears_40, eX4_hears_41, eX4_hears_42, eX4_hears_45, eX4_hears_46, eX4_hears_49, eX4_hears_50, eX4_hears_51, eX4_hears_52, eX4_hears_55, eX4_hears_56, eX4_hears_59, eX4_hears_60, eX4_hears_61, eX4_hears_62, eX4_hears_65, eX4_hears_66, eX4_hears_69, eX4_hears_70, eX4_hears_71, eX4_hears_74, eX4_hears_75, eX4_hears_78, eX4_hears_79_0, eX4_hears_79_1, eX4_hears_80, eX4_hears_81, eX4_hears_82, eX4_hears_85, eX4_hears_86, eX4_hears_87, eX4_hears_90, eX4_hears_91, eX4_hears_94, je1, if_false, c12, nI_ltI, h6, if_true, q1, q2, q3, nI_eq, hz1, nI_add, js_hit]
    · have hz0 : z = 0 := by omega
      subst hz0
      simp (disch := first | assumption | omega) only [eX4_hears_24, eX4_hears_29, eX4_hears_30, eX4_hears_33, eX4_hears_35, eX4_hears_38, eX4_hears_40, eX4_hears_41, eX4_hears_42, eX4_hears_45, eX4_hears_46, eX4_hears_49, eX4_hears_50, eX4_hears_51, eX4_hears_52, eX4_hears_55, eX4_hears_56, eX4_hears_59, eX4_hears_60, eX4_hears_61, eX4_hears_62, eX4_hears_65, eX4_hears_66, eX4_hears_69, eX4_hears_70, eX4_hears_71, eX4_hears_74, eX4_hears_75, eX4_hears_78, eX4_hears_79_0, eX4_hears_79_1, eX4_hears_80, eX4_hears_81, eX4_hears_82, eX4_hears_85, eX4_hears_86, eX4_hears_87, eX4_hears_90, eX4_hears_91, eX4_hears_94, je1, if_false, c12, nI_ltI, h6, if_true, q1, q2, q3, nI_eq, nI_add, js_hit, Nat.zero_ne_one]
  all_goals first | (rw [js_ne (by omega), js_ne (by omega), js_ne (by omega), js_ne (by omega)]; done) | (rw [js_mk (by omega), js_mk (by omega), js_mk (by omega), js_mk (by omega)]; done) | (rw [js_mj (by omega), js_mk (by omega), js_mk (by omega), js_mk (by omega)]; done) | (rw [js_hit]; done) | skip
  have hi : i < hd.1 + 1 := hi
  show _ = nI (if i = hd.1 then r else hd.2.1 i) ∧ _ = nI (if i = hd.1 then n else hd.2.2.1 i) ∧ _ = nI (if i = hd.1 then z else hd.2.2.2 i)
  by_cases e : i = hd.1
  · rw [if_pos e, if_pos e, if_pos e, e]
    refine ⟨?_, ?_, ?_⟩
    · rw [js_mk (by omega), js_mk (by omega), js_mk (by omega), js_hit]
    · rw [js_mk (by omega), js_mk (by omega), js_hit]
    · rw [js_mk (by omega), js_hit]
  · rw [if_neg e, if_neg e, if_neg e]
    obtain ⟨c1, c2, c3⟩ := a6.2 i (by omega)
    refine ⟨?_, ?_, ?_⟩
    · rw [js_mk (by omega), js_mk (by omega), js_mk (by omega), js_mj e, c1]
    · rw [js_mk (by omega), js_mk (by omega), js_mj e, js_mk (by omega), c2]
    · rw [js_mk (by omega), js_mj e, js_mk (by omega), js_mk (by omega), c3]
theorem X_forget (h : jX mem lm tx K mo un im hd tr) : ∃ mem', xX4_forget [.ref 0] (jl_w mem lm) = some (some (.int (nI hd.1)), jl_w mem' lm) ∧ jX mem' lm tx K mo un im (0, hd.2) tr ∧ jl_hi mem mem' := by
  obtain ⟨a1, a2, a3, a4, a5, a6, a7⟩ := h
  refine ⟨jl_s mem 0 12 (nI 0), ?_, ⟨a1.keep ?_ ?_, a2.keep ?_ ?_ ?_ ?_, a3.keep ?_ ?_ ?_, a4.keep ?_ ?_ (fun k h1 h2 => ?_), a5.keep ?_ (fun k h1 h2 => ?_), ⟨by rw [js_hit], fun i hi => absurd hi (by simp)⟩, a7⟩, fun k hk => ?_⟩
  · simp only [eX4_forget, eX4_forget_0, eX4_forget_1, eX4_forget_4, eX4_forget_5, eX4_forget_6, eX4_forget_7, eX4_forget_10, eX4_forget_11, a6.1]
  all_goals first | (rw [js_ne (by omega)]; done) | (rw [js_mk (by omega)]; done) | (rw [js_mj (by omega)]; done)
theorem X_keep_b {x : Int32} (h : x < nI 0 ∨ nI 1 < x) : xX4_keep [.ref 0, .int x] (jl_w mem lm) = some (some (.int (-1)), jl_w mem lm) := by
  simp only [eX4_keep, eX4_keep_0, eX4_keep_1, eX4_keep_2]
  rw [eX4_keep_3 (jm_winn h)]
  simp only [eX4_keep_6, eX4_keep_9, eX4_keep_10, je0, if_true]
theorem X_keep_o {i : Nat} (h : jX mem lm tx K mo un im hd tr) (hi : i ≤ 1) : ∃ mem', xX4_keep [.ref 0, .int (nI i)] (jl_w mem lm) = some (some (.int (nI (mo 0))), jl_w mem' lm) ∧ jX mem' lm tx K mo un (fun j => if j = i then some mo else im j) hd tr ∧ jl_hi mem mem' := by
  obtain ⟨a1, a2, a3, a4, a5, a6, a7⟩ := h
  have hb := jl_K56 (p := i) (by omega)
  obtain ⟨m1, e1, r1, f1⟩ := jm_copy (b := 56 + 3 * i) (c := 11) (lm := lm) hb rfl (by omega) a3
  have c21 : m1 21 = mem 21 := f1 21 (by omega)
  have hrow : ∀ k, k ≠ 21 → jl_s m1 21 i (nI 1) k = m1 k := fun k hk => js_ne hk
  refine ⟨jl_s m1 21 i (nI 1), ?_, ⟨a1.keep ?_ ?_, a2.keep ?_ ?_ ?_ ?_, a3.keep ?_ ?_ ?_, a4.keep ?_ ?_ (fun k h1 h2 => ?_), fun j hj => ?_, a6.keep ?_ ?_ ?_ ?_, a7⟩, fun k hk => ?_⟩
  · have q : jl_s m1 21 i (nI 1) 11 1 = nI (mo 0) := by rw [js_mk (by omega), f1 11 (by omega), a3.1]
    simp only [eX4_keep, eX4_keep_0, eX4_keep_1, eX4_keep_2]
    rw [eX4_keep_3 (jm_win (Nat.zero_le _) hi (by omega))]
    simp (disch := first | assumption | omega) only [eX4_keep_6, eX4_keep_11, eX4_keep_12, eX4_keep_15, eX4_keep_16, eX4_keep_17, eX4_keep_18, je1, if_false]
    rw [eX4_keep_21 hb e1]
    simp (disch := first | assumption | omega) only [eX4_keep_24, eX4_keep_25, eX4_keep_28, eX4_keep_29, eX4_keep_30_0, eX4_keep_30_1, eX4_keep_31, eX4_keep_32, eX4_keep_35, eX4_keep_38, q]
  all_goals first | (rw [hrow _ (by omega), f1 _ (by omega)]; done) | skip
  by_cases e : j = i
  · subst e
    refine ⟨fun hn => ?_, fun m hm => ?_⟩
    · have hn : (if j = j then some mo else im j) = none := hn
      rw [if_pos rfl] at hn
      cases hn
    · have hm : (if j = j then some mo else im j) = some m := hm
      rw [if_pos rfl] at hm
      cases hm
      exact ⟨js_hit, r1.keep (hrow _ (by omega)) (hrow _ (by omega)) (hrow _ (by omega))⟩
  · refine ⟨fun hn => ?_, fun m hm => ?_⟩
    · have hn : (if j = i then some mo else im j) = none := hn
      rw [if_neg e] at hn
      rw [js_mj e, c21]
      exact (a5 j hj).1 hn
    · have hm : (if j = i then some mo else im j) = some m := hm
      rw [if_neg e] at hm
      obtain ⟨c1, c2⟩ := (a5 j hj).2 m hm
      refine ⟨by rw [js_mj e, c21]; exact c1, c2.keep ?_ ?_ ?_⟩
      · rw [hrow _ (by omega), f1 _ (by omega)]
      · rw [hrow _ (by omega), f1 _ (by omega)]
      · rw [hrow _ (by omega), f1 _ (by omega)]
theorem X_back_b {x : Int32} (h : x < nI 0 ∨ nI 1 < x) : xX4_back [.ref 0, .int x] (jl_w mem lm) = some (some (.int (-1)), jl_w mem lm) := by
  simp only [eX4_back, eX4_back_0, eX4_back_1, eX4_back_2]
  rw [eX4_back_3 (jm_winn h)]
  simp only [eX4_back_6, eX4_back_9, eX4_back_10, je0, if_true]
theorem X_back_s {i : Nat} (h : jX mem lm tx K mo un im hd tr) (hi : i ≤ 1) (hn : im i = none) : xX4_back [.ref 0, .int (nI i)] (jl_w mem lm) = some (some (.int (-2)), jl_w mem lm) := by
  have e := (h.2.2.2.2.1 i (by omega)).1 hn
  simp only [eX4_back, eX4_back_0, eX4_back_1, eX4_back_2]
  rw [eX4_back_3 (jm_win (Nat.zero_le _) hi (by omega))]
  simp (disch := first | assumption | omega) only [eX4_back_6, eX4_back_11, eX4_back_12, eX4_back_15, eX4_back_16, eX4_back_17, eX4_back_20, eX4_back_22, je1, if_false, e, je0, if_true]
theorem X_back_o {i : Nat} {m : jq_M} (h : jX mem lm tx K mo un im hd tr) (hi : i ≤ 1) (hm : im i = some m) : ∃ mem', xX4_back [.ref 0, .int (nI i)] (jl_w mem lm) = some (some (.int (nI (m 0))), jl_w mem' lm) ∧ jX mem' lm tx K m [] im hd tr ∧ jl_hi mem mem' := by
  obtain ⟨a1, a2, a3, ⟨p, p1, p2, p3, p4⟩, a5, a6, a7⟩ := h
  obtain ⟨c1, c2⟩ := (a5 i (by omega)).2 m hm
  have hb := jl_K56 (p := i) (by omega)
  obtain ⟨m1, e1, r1, f1⟩ := jm_copy (b := 11) (c := 56 + 3 * i) (lm := lm) rfl hb (by omega) c2
  have c0 : m1 0 = mem 0 := f1 0 (by omega)
  have hrow : ∀ k, k ≠ 0 → jl_s m1 0 6 (nI 0) k = m1 k := fun k hk => js_ne hk
  have r1' := r1.keep (hrow 11 (by omega)) (hrow 12 (by omega)) (hrow 13 (by omega))
  refine ⟨jl_s m1 0 6 (nI 0), ?_, ⟨a1.keep ?_ ?_, a2.keep ?_ ?_ ?_ ?_, r1', ⟨p, p1, ?_, ?_, fun i m hm => by simp at hm⟩, a5.keep ?_ (fun k h1 h2 => ?_), a6.keep ?_ ?_ ?_ ?_, a7⟩, fun k hk => ?_⟩
  · simp only [eX4_back, eX4_back_0, eX4_back_1, eX4_back_2]
    rw [eX4_back_3 (jm_win (Nat.zero_le _) hi (by omega))]
    simp (disch := first | assumption | omega) only [eX4_back_6, eX4_back_11, eX4_back_12, eX4_back_15, eX4_back_16, eX4_back_17, eX4_back_20, eX4_back_22, eX4_back_23, eX4_back_24, eX4_back_27, eX4_back_28, eX4_back_31, eX4_back_32, je1, if_false, c1]
    rw [eX4_back_33 e1]
    simp only [eX4_back_36, eX4_back_37, eX4_back_38, eX4_back_41, eX4_back_42, eX4_back_45, eX4_back_48, r1'.1]
  all_goals first | (rw [hrow _ (by omega), f1 _ (by omega)]; done) | skip
  · rw [js_mj (by omega), c0, p2]
  · rw [js_hit]; rfl
  · rw [js_mj (by omega), c0]
def jq_cn (tx : jq_X) (K : jq_K) (hd : jq_H) (w : Nat) : Nat := match w with
  | 0 => K.1
  | 1 => K.2.1
  | 2 => hd.1
  | _ => tx.1
theorem X_count_b {x : Int32} (h : x < nI 0 ∨ nI 3 < x) : xX4_count [.ref 0, .int x] (jl_w mem lm) = some (some (.int (-1)), jl_w mem lm) := by
  simp only [eX4_count, eX4_count_0]
  rw [eX4_count_1, jq_tsn 3 rfl (by decide) h]
  simp only [eX4_count_61, eX4_count_62]
theorem X_count_o {w : Nat} (h : jX mem lm tx K mo un im hd tr) (hw : w ≤ 3) : xX4_count [.ref 0, .int (nI w)] (jl_w mem lm) = some (some (.int (nI (jq_cn tx K hd w))), jl_w mem lm) := by
  obtain ⟨a1, a2, a3, a4, a5, a6, a7⟩ := h
  have h5 : jl_K 7 = 5 := rfl
  simp only [eX4_count, eX4_count_0]
  rw [eX4_count_1]
  match w, hw with
  | 0, _ => rw [show (if (nI 0).toInt < 0 then 61 else (([32, 40, 48, 53] : List Nat)[((nI 0).toInt - 0).toNat]?).getD 61) = 32 from by decide +kernel]; simp (disch := first | assumption | omega) only [eX4_count_32, eX4_count_33, eX4_count_36, eX4_count_39, a2.1]; rfl
  | 1, _ => rw [show (if (nI 1).toInt < 0 then 61 else (([32, 40, 48, 53] : List Nat)[((nI 1).toInt - 0).toNat]?).getD 61) = 40 from by decide +kernel]; simp (disch := first | assumption | omega) only [eX4_count_40, eX4_count_41, eX4_count_44, eX4_count_47, a2.2.1]; rfl
  | 2, _ => rw [show (if (nI 2).toInt < 0 then 61 else (([32, 40, 48, 53] : List Nat)[((nI 2).toInt - 0).toNat]?).getD 61) = 48 from by decide +kernel]; simp (disch := first | assumption | omega) only [eX4_count_48, eX4_count_49, eX4_count_52, a6.1]; rfl
  | 3, _ => rw [show (if (nI 3).toInt < 0 then 61 else (([32, 40, 48, 53] : List Nat)[((nI 3).toInt - 0).toNat]?).getD 61) = 53 from by decide +kernel]; simp (disch := first | assumption | omega) only [eX4_count_53, eX4_count_54, eX4_count_57, eX4_count_60, a1.1]; rfl
theorem X_trace (h : jX mem lm tx K mo un im hd tr) : xX4_trace [.ref 0] (jl_w mem lm) = some (some (.long tr), jl_w mem lm) := by
  simp only [eX4_trace, eX4_trace_0, eX4_trace_1, eX4_trace_4, h.2.2.2.2.2.2]
end XM

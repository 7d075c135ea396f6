/-! ===== the reference's state ===== -/
def jl_V (mem mem' : jl_M) : Prop := (∀ k, k ≠ 62 → k ≠ 68 → k ≠ 75 → mem' k = mem k) ∧ ∀ j, j ≠ 0 → j ≠ 27 → j ≠ 28 → mem' 62 j = mem 62 j
abbrev jl_lo (mem mem' : jl_M) : Prop := ∀ k, k < 62 → mem' k = mem k
theorem jl_V.rf {m : jl_M} : jl_V m m := ⟨fun _ _ _ _ => rfl, fun _ _ _ _ => rfl⟩
theorem jl_V.tr {a b c : jl_M} (h1 : jl_V a b) (h2 : jl_V b c) : jl_V a c := ⟨fun k x y z => (h2.1 k x y z).trans (h1.1 k x y z), fun j x y z => (h2.2 j x y z).trans (h1.2 j x y z)⟩
theorem jl_V.G {a b : jl_M} (h : jl_G a b) : jl_V a b := ⟨fun k x y _ => h.1 k x y, fun j _ y z => h.2 j y z⟩
theorem jl_V.t {m : jl_M} {x : Int32} : jl_V m (jl_s m 62 0 x) := ⟨fun k x _ _ => js_ne x, fun j x _ _ => js_mj x⟩
theorem jl_V.t75 {m : jl_M} {j : Nat} {x : Int32} : jl_V m (jl_s m 75 j x) := ⟨fun k _ _ x => js_ne x, fun j _ _ _ => js_mk (by omega)⟩
theorem jl_V.lo {a b : jl_M} (h : jl_V a b) : jl_lo a b := fun k hk => h.1 k (by omega) (by omega) (by omega)
def jY_T (mem : jl_M) (tx : jq_X) : Prop := mem 62 3 = nI tx.1 ∧ ∀ i, i < tx.1 → mem 63 i = nI (tx.2 i)
def jY_U (mem : jl_M) (un : List jq_M) : Prop := mem 62 22 = nI un.length ∧ ∀ (i : Nat) (m : jq_M), un[i]? = some m → ∀ j, j < 19 → mem 71 (19 * (un.length - 1 - i) + j) = nI (m j)
def jY_I (mem : jl_M) (im : Nat → Option jq_M) : Prop := ∀ i, i < 2 → (im i = none → mem 70 i = nI 0) ∧ ∀ m, im i = some m → mem 70 i = nI 1 ∧ ∀ j, j < 19 → mem 69 (19 * i + j) = nI (m j)
def jY_H (mem : jl_M) (hd : jq_H) : Prop := mem 62 26 = nI hd.1 ∧ ∀ i, i < hd.1 → mem 72 i = nI (hd.2.1 i) ∧ mem 73 i = nI (hd.2.2.1 i) ∧ mem 74 i = nI (hd.2.2.2 i)
def jY (mem : jl_M) (lm : jl_L) (tx : jq_X) (K : jq_K) (mo : jq_M) (un : List jq_M) (im : Nat → Option jq_M) (hd : jq_H) (tr : Int64) : Prop := jY_T mem tx ∧ jy_K mem K ∧ jy_M mem 67 mo ∧ jY_U mem un ∧ jY_I mem im ∧ jY_H mem hd ∧ lm 62 1 = tr
section YM
variable {mem : jl_M} {lm : jl_L} {tx : jq_X} {K : jq_K} {mo : jq_M} {un : List jq_M} {im : Nat → Option jq_M} {hd : jq_H} {tr : Int64}
theorem jY_T.keep {mem' : jl_M} (h : jY_T mem tx) (h1 : mem' 62 3 = mem 62 3) (h2 : mem' 63 = mem 63) : jY_T mem' tx := by
  unfold jY_T; rw [h1, h2]; exact h
theorem jY_U.keep {mem' : jl_M} (h : jY_U mem un) (h1 : mem' 62 22 = mem 62 22) (h2 : mem' 71 = mem 71) : jY_U mem' un := by
  unfold jY_U; rw [h1, h2]; exact h
theorem jY_I.keep {mem' : jl_M} (h : jY_I mem im) (h1 : mem' 69 = mem 69) (h2 : mem' 70 = mem 70) : jY_I mem' im := by
  unfold jY_I; rw [h1, h2]; exact h
theorem jY_H.keep {mem' : jl_M} (h : jY_H mem hd) (h1 : mem' 62 26 = mem 62 26) (h2 : mem' 72 = mem 72) (h3 : mem' 73 = mem 73) (h4 : mem' 74 = mem 74) : jY_H mem' hd := by
  unfold jY_H; rw [h1, h2, h3, h4]; exact h
theorem jy_K.V {mem' : jl_M} (h : jy_K mem K) (f : jl_V mem mem') : jy_K mem' K := h.keep (f.2 9 (by omega) (by omega) (by omega)) (f.2 10 (by omega) (by omega) (by omega)) (f.1 64 (by omega) (by omega) (by omega)) (f.1 65 (by omega) (by omega) (by omega)) (f.1 66 (by omega) (by omega) (by omega))
theorem jY_H.V {mem' : jl_M} (h : jY_H mem hd) (f : jl_V mem mem') : jY_H mem' hd := h.keep (f.2 26 (by omega) (by omega) (by omega)) (f.1 72 (by omega) (by omega) (by omega)) (f.1 73 (by omega) (by omega) (by omega)) (f.1 74 (by omega) (by omega) (by omega))
theorem jY.V {mem' : jl_M} (h : jY mem lm tx K mo un im hd tr) (f : jl_V mem mem') : jY mem' lm tx K mo un im hd tr :=
  ⟨h.1.keep (f.2 3 (by omega) (by omega) (by omega)) (f.1 63 (by omega) (by omega) (by omega)), h.2.1.V f, h.2.2.1.keep (f.1 67 (by omega) (by omega) (by omega)), h.2.2.2.1.keep (f.2 22 (by omega) (by omega) (by omega)) (f.1 71 (by omega) (by omega) (by omega)), h.2.2.2.2.1.keep (f.1 69 (by omega) (by omega) (by omega)) (f.1 70 (by omega) (by omega) (by omega)), h.2.2.2.2.2.1.V f, h.2.2.2.2.2.2⟩
theorem jY.hi {mem' : jl_M} (h : jY mem lm tx K mo un im hd tr) (f : jl_hi mem mem') : jY mem' lm tx K mo un im hd tr :=
  ⟨h.1.keep (by rw [f 62 (by omega)]) (f 63 (by omega)), h.2.1.keep (by rw [f 62 (by omega)]) (by rw [f 62 (by omega)]) (f 64 (by omega)) (f 65 (by omega)) (f 66 (by omega)), h.2.2.1.keep (f 67 (by omega)), h.2.2.2.1.keep (by rw [f 62 (by omega)]) (f 71 (by omega)), h.2.2.2.2.1.keep (f 69 (by omega)) (f 70 (by omega)), h.2.2.2.2.2.1.keep (by rw [f 62 (by omega)]) (f 72 (by omega)) (f 73 (by omega)) (f 74 (by omega)), h.2.2.2.2.2.2⟩
theorem Y_type_b {x : Int32} (h : x < nI 0 ∨ nI 255 < x) : xX5_type [.ref 62, .int x] (jl_w mem lm) = some (some (.int (-1)), jl_w (jl_s mem 62 0 (nI 0)) lm) := by
  simp only [eX5_type, eX5_type_0, eX5_type_1, eX5_type_2, eX5_type_5, eX5_type_6, eX5_type_7]
  rw [eX5_type_10 (Y_inn h)]
  simp only [eX5_type_13, eX5_type_16, eX5_type_17, je0, if_true]
theorem Y_type_f {v : Nat} (hv : v ≤ 255) (h : jY_T mem tx) (hf : tx.1 = 120) : xX5_type [.ref 62, .int (nI v)] (jl_w mem lm) = some (some (.int (-3)), jl_w (jl_s mem 62 0 (nI 0)) lm) := by
  have h0 : jl_s mem 62 0 (nI 0) 62 3 = nI 120 := by rw [js_mj (by omega), h.1, hf]
  simp only [eX5_type, eX5_type_0, eX5_type_1, eX5_type_2, eX5_type_5, eX5_type_6, eX5_type_7]
  rw [eX5_type_10 (Y_in (Nat.zero_le _) hv (by omega))]
  simp (disch := first | assumption | omega) only [eX5_type_13, eX5_type_16, eX5_type_17, eX5_type_18, eX5_type_19, eX5_type_22, eX5_type_24, eX5_type_27, eX5_type_29, je1, if_false, h0, if_true]
theorem Y_type_o {v : Nat} (hv : v ≤ 255) (h : jY mem lm tx K mo un im hd tr) (hf : tx.1 < 120) : ∃ mem', xX5_type [.ref 62, .int (nI v)] (jl_w mem lm) = some (some (.int (nI (tx.1 + 1))), jl_w mem' lm) ∧ jY mem' lm (tx.1 + 1, fun i => if i = tx.1 then v else tx.2 i) K mo un im hd tr ∧ jl_lo mem mem' := by
  have h0 := h.V (jl_V.t (x := nI 0))
  have l0 := (jl_V.t (m := mem) (x := nI 0)).lo
  simp only [eX5_type, eX5_type_0, eX5_type_1, eX5_type_2, eX5_type_5, eX5_type_6, eX5_type_7]
  rw [eX5_type_10 (Y_in (Nat.zero_le _) hv (by omega))]
  generalize jl_s mem 62 0 (nI 0) = m0 at h0 l0 ⊢
  obtain ⟨a1, a2, a3, a4, a5, a6, a7⟩ := h0
  have q0 := a1.1
  have q1 : ∀ x, jl_s m0 63 tx.1 x 62 3 = nI tx.1 := fun x => by rw [js_mk (by omega), a1.1]
  have e : ¬ tx.1 = 120 := by omega
  refine ⟨jl_s (jl_s m0 63 tx.1 (nI v)) 62 3 (nI (tx.1 + 1)), ?_, ⟨⟨?_, fun i hi => ?_⟩, a2.keep ?_ ?_ ?_ ?_ ?_, a3.keep ?_, a4.keep ?_ ?_, a5.keep ?_ ?_, a6.keep ?_ ?_ ?_ ?_, a7⟩, fun k hk => by rw [js_ne (by omega), js_ne (by omega), l0 k hk]⟩
  · simp (disch := first | assumption | omega) only [eX5_type_13, eX5_type_16, eX5_type_17, eX5_type_18, eX5_type_19, eX5_type_22, eX5_type_24, eX5_type_27, eX5_type_29, eX5_type_30, eX5_type_31, eX5_type_34, eX5_type_35, eX5_type_38, eX5_type_39, eX5_type_40, eX5_type_41, eX5_type_42, eX5_type_45, eX5_type_46, eX5_type_47, eX5_type_50, eX5_type_51, eX5_type_54, je1, if_false, q0, q1, nI_eq, e, nI_add, js_hit]
  · rw [js_hit]
  · rw [js_mk (by omega)]
    by_cases e : i = tx.1
    · subst e
      rw [js_hit]
      show nI v = nI (if tx.1 = tx.1 then v else _)
      rw [if_pos rfl]
    · rw [js_mj e, a1.2 i (by have : i < tx.1 + 1 := hi; omega)]
      show _ = nI (if i = tx.1 then v else tx.2 i)
      rw [if_neg e]
  all_goals first | rw [js_ne (by omega), js_ne (by omega)] | rw [js_mj (by omega), js_mk (by omega)] | rw [js_mk (by omega), js_mk (by omega)]
theorem Y_clear (h : jY mem lm tx K mo un im hd tr) : ∃ mem', xX5_clear [.ref 62] (jl_w mem lm) = some (some (.int (nI tx.1)), jl_w mem' lm) ∧ jY mem' lm (0, tx.2) K mo un im hd tr ∧ jl_lo mem mem' := by
  have h0 := h.V (jl_V.t (x := nI 0))
  have l0 := (jl_V.t (m := mem) (x := nI 0)).lo
  simp only [eX5_clear, eX5_clear_0, eX5_clear_1, eX5_clear_2, eX5_clear_5, eX5_clear_6, eX5_clear_9, eX5_clear_10, eX5_clear_11, eX5_clear_12, eX5_clear_15, eX5_clear_16]
  generalize jl_s mem 62 0 (nI 0) = m0 at h0 l0 ⊢
  obtain ⟨a1, a2, a3, a4, a5, a6, a7⟩ := h0
  refine ⟨jl_s m0 62 3 (nI 0), by rw [a1.1], ⟨⟨by rw [js_hit], fun i hi => absurd hi (by simp)⟩, a2.keep ?_ ?_ ?_ ?_ ?_, a3.keep ?_, a4.keep ?_ ?_, a5.keep ?_ ?_, a6.keep ?_ ?_ ?_ ?_, a7⟩, fun k hk => by rw [js_ne (by omega), l0 k hk]⟩
  all_goals first | rw [js_ne (by omega)] | rw [js_mj (by omega)]
theorem Y_rod_b {x y : Int32} (hK : jy_K mem K) (hk : jq_WK K) (h : x < 0 ∨ nI K.1 ≤ x) : xX5_rod [.ref 62, .int x, .int y] (jl_w mem lm) = some (some (.int (-1)), jl_w (jl_s mem 62 0 (nI 0)) lm) := by
  have h0 := hK.V (jl_V.t (x := nI 0))
  simp only [eX5_rod, eX5_rod_0, eX5_rod_1, eX5_rod_2, eX5_rod_5, eX5_rod_6]
  rw [eX5_rod_7 (Y_isRodn h0.1 hk.1 h)]
  simp only [eX5_rod_10, eX5_rod_22, eX5_rod_23, je0, if_true]
theorem Y_rod_w {r : Nat} {y : Int32} (hK : jy_K mem K) (hk : jq_WK K) (hr : r < K.1) (hy : y < nI 0 ∨ nI 4 < y) : xX5_rod [.ref 62, .int (nI r), .int y] (jl_w mem lm) = some (some (.int (-1)), jl_w (jl_s mem 62 0 (nI 0)) lm) := by
  have h0 := hK.V (jl_V.t (x := nI 0))
  simp only [eX5_rod, eX5_rod_0, eX5_rod_1, eX5_rod_2, eX5_rod_5, eX5_rod_6]
  rw [eX5_rod_7 (Y_isRod h0.1 hk.1 hr)]
  simp only [eX5_rod_10, eX5_rod_13, eX5_rod_14, eX5_rod_15, je1, if_false]
  rw [eX5_rod_16 (Y_inn hy)]
  simp only [eX5_rod_19, eX5_rod_22, eX5_rod_23, je0, if_true]
theorem Y_rod_o {r w : Nat} (h : jY mem lm tx K mo un im hd tr) (hk : jq_WK K) (hr : r < K.1) (hw : w ≤ 4) : xX5_rod [.ref 62, .int (nI r), .int (nI w)] (jl_w mem lm) = some (some (.int (nI (jq_ask K mo r w))), jl_w (jl_s mem 62 0 (nI 0)) lm) := by
  have h0 := h.V (jl_V.t (x := nI 0))
  have h8 := hk.1
  simp only [eX5_rod, eX5_rod_0, eX5_rod_1, eX5_rod_2, eX5_rod_5, eX5_rod_6]
  rw [eX5_rod_7 (Y_isRod h0.2.1.1 hk.1 hr)]
  simp only [eX5_rod_10, eX5_rod_13, eX5_rod_14, eX5_rod_15, je1, if_false]
  rw [eX5_rod_16 (Y_in (Nat.zero_le _) hw (by omega))]
  generalize jl_s mem 62 0 (nI 0) = m0 at h0 ⊢
  obtain ⟨g1, g2, g3⟩ := h0.2.1.2.2 r hr
  have g4 := h0.2.2.1 (3 + r) (by omega)
  have g5 := h0.2.2.1 (11 + r) (by omega)
  have n1 : ¬ (2 : Nat) = 0 := by omega
  have n2 : ¬ (2 : Nat) = 1 := by omega
  have n3 : ¬ (3 : Nat) ≤ 0 := by omega
  have n4 : ¬ (3 : Nat) ≤ 1 := by omega
  have n5 : ¬ (3 : Nat) ≤ 2 := by omega
  have n6 : ¬ (4 : Nat) = 3 := by omega
  have n7 : (3 : Nat) ≤ 4 := by omega
  match w, hw with
  | 0, _ => simp (disch := first | assumption | omega) only [eX5_rod_19, eX5_rod_22, eX5_rod_23, eX5_rod_24, eX5_rod_25, eX5_rod_26, eX5_rod_29, eX5_rod_30, eX5_rod_33, eX5_rod_34, eX5_rod_37, eX5_rod_38, eX5_rod_39, eX5_rod_42, eX5_rod_43, eX5_rod_44, eX5_rod_47, eX5_rod_48, eX5_rod_51, eX5_rod_52, eX5_rod_53, eX5_rod_56, eX5_rod_57, eX5_rod_60, eX5_rod_61, eX5_rod_62, je1, je0, nI_leI, nI_eq, n3, if_false, if_true, g1]; rfl
  | 1, _ => simp (disch := first | assumption | omega) only [eX5_rod_19, eX5_rod_22, eX5_rod_23, eX5_rod_24, eX5_rod_25, eX5_rod_26, eX5_rod_29, eX5_rod_30, eX5_rod_33, eX5_rod_34, eX5_rod_37, eX5_rod_38, eX5_rod_39, eX5_rod_42, eX5_rod_43, eX5_rod_44, eX5_rod_47, eX5_rod_48, eX5_rod_51, eX5_rod_52, eX5_rod_53, eX5_rod_56, eX5_rod_57, eX5_rod_60, eX5_rod_61, eX5_rod_62, je1, nI_leI, nI_eq, n4, if_false, if_true, g2]; rfl
  | 2, _ => simp (disch := first | assumption | omega) only [eX5_rod_19, eX5_rod_22, eX5_rod_23, eX5_rod_24, eX5_rod_25, eX5_rod_26, eX5_rod_29, eX5_rod_30, eX5_rod_33, eX5_rod_34, eX5_rod_37, eX5_rod_38, eX5_rod_39, eX5_rod_42, eX5_rod_43, eX5_rod_44, eX5_rod_47, eX5_rod_48, eX5_rod_51, eX5_rod_52, eX5_rod_53, eX5_rod_56, eX5_rod_57, eX5_rod_60, eX5_rod_61, eX5_rod_62, je1, jz_eq, nI_leI, nI_eq, n5, n1, n2, if_false, if_true, Nat.one_ne_zero, g3]; rfl
  | 3, _ => simp (disch := first | assumption | omega) only [eX5_rod_19, eX5_rod_22, eX5_rod_23, eX5_rod_24, eX5_rod_25, eX5_rod_26, eX5_rod_63, eX5_rod_64, eX5_rod_65, eX5_rod_68, eX5_rod_69, eX5_rod_72, eX5_rod_73, eX5_rod_74, eX5_rod_75, eX5_rod_76, eX5_rod_79, eX5_rod_80, eX5_rod_83, eX5_rod_85, eX5_rod_86, eX5_rod_87, eX5_rod_88, je1, nI_leI, nI_eq, Nat.le_refl, if_false, if_true, nI_add, g4]; rfl
  | 4, _ => simp (disch := first | assumption | omega) only [eX5_rod_19, eX5_rod_22, eX5_rod_23, eX5_rod_24, eX5_rod_25, eX5_rod_26, eX5_rod_63, eX5_rod_64, eX5_rod_65, eX5_rod_68, eX5_rod_69, eX5_rod_72, eX5_rod_73, eX5_rod_74, eX5_rod_75, eX5_rod_76, eX5_rod_79, eX5_rod_80, eX5_rod_83, eX5_rod_85, eX5_rod_86, eX5_rod_87, eX5_rod_88, je1, nI_leI, nI_eq, n6, n7, if_false, if_true, nI_add, g5]; rfl
theorem Y_side_b {x : Int32} (hK : jy_K mem K) (hk : jq_WK K) (h : x < 0 ∨ nI K.1 ≤ x) : xX5_side [.ref 62, .int x] (jl_w mem lm) = some (some (.int (-1)), jl_w (jl_s mem 62 0 (nI 0)) lm) := by
  have h0 := hK.V (jl_V.t (x := nI 0))
  simp only [eX5_side, eX5_side_0, eX5_side_1, eX5_side_2, eX5_side_5, eX5_side_6]
  rw [eX5_side_7 (Y_isRodn h0.1 hk.1 h)]
  simp only [eX5_side_10, eX5_side_25, eX5_side_26, je0, if_true]
theorem Y_side_o {t : Nat} (h : jY mem lm tx K mo un im hd tr) (hk : jq_WK K) (hw : jq_WM K.1 mo) (ht : t < K.1) : xX5_side [.ref 62, .int (nI t)] (jl_w mem lm) = some (some (.int (nI (jq_at K.1 mo t))), jl_w (jl_s mem 62 0 (nI 0)) lm) := by
  have h0 := h.V (jl_V.t (x := nI 0))
  simp only [eX5_side, eX5_side_0, eX5_side_1, eX5_side_2, eX5_side_5, eX5_side_6]
  rw [eX5_side_7 (Y_isRod h0.2.1.1 hk.1 ht)]
  simp only [eX5_side_10, eX5_side_13, eX5_side_14, eX5_side_15, eX5_side_18, je1, if_false]
  rw [eX5_side_19 (Y_at (k := 67) ⟨rfl, rfl⟩ h0.2.1 h0.2.2.1 hk hw ht)]
  simp only [eX5_side_22, eX5_side_26]
theorem Y_now_b {x : Int32} (h : x < nI 0 ∨ nI 6 < x) : xX5_now [.ref 62, .int x] (jl_w mem lm) = some (some (.int (-1)), jl_w (jl_s mem 62 0 (nI 0)) lm) := by
  simp only [eX5_now, eX5_now_0, eX5_now_1, eX5_now_2, eX5_now_5, eX5_now_6, eX5_now_7]
  rw [eX5_now_9 (Y_inn h)]
  simp only [eX5_now_12, eX5_now_15, eX5_now_16, je0, if_true]
theorem Y_now_o {w : Nat} (h : jY mem lm tx K mo un im hd tr) (hk : jq_WK K) (hw : jq_WM K.1 mo) (h6 : w ≤ 6) : ∃ mem', xX5_now [.ref 62, .int (nI w)] (jl_w mem lm) = some (some (.int (jq_nw K mo un w)), jl_w mem' lm) ∧ jl_V mem mem' := by
  have h0 := h.V (jl_V.t (x := nI 0))
  have v0 := jl_V.t (m := mem) (x := nI 0)
  simp only [eX5_now, eX5_now_0, eX5_now_1, eX5_now_2, eX5_now_5, eX5_now_6, eX5_now_7]
  rw [eX5_now_9 (Y_in (Nat.zero_le _) h6 (by omega))]
  generalize jl_s mem 62 0 (nI 0) = m0 at h0 v0 ⊢
  have g0 := h0.2.2.1 0 (by omega)
  have g1 := h0.2.2.1 1 (by omega)
  have g2 := h0.2.2.1 2 (by omega)
  have gu := h0.2.2.2.1.1
  have i0 : (0 : Nat) < 19 := by omega
  have i1 : (1 : Nat) < 19 := by omega
  have i2 : (2 : Nat) < 19 := by omega
  have n1 : ¬ (2 : Nat) = 0 := by omega
  have n2 : ¬ (2 : Nat) = 1 := by omega
  have n3 : ¬ (3 : Nat) ≤ 0 := by omega
  have n4 : ¬ (3 : Nat) ≤ 1 := by omega
  have n5 : ¬ (3 : Nat) ≤ 2 := by omega
  have n6 : ¬ (4 : Nat) = 3 := by omega
  have n7 : (3 : Nat) ≤ 4 := by omega
  have n8 : (3 : Nat) ≤ 5 := by omega
  have n9 : (3 : Nat) ≤ 6 := by omega
  have m1 : ¬ (5 : Nat) = 3 := by omega
  have m2 : ¬ (5 : Nat) = 4 := by omega
  have m3 : ¬ (6 : Nat) = 3 := by omega
  have m4 : ¬ (6 : Nat) = 4 := by omega
  have m5 : ¬ (6 : Nat) = 5 := by omega
  match w, h6 with
  | 0, _ => exact ⟨m0, by simp (disch := first | assumption | omega) only [eX5_now_12, eX5_now_15, eX5_now_16, eX5_now_17, eX5_now_18, eX5_now_19, eX5_now_22, eX5_now_23, eX5_now_26, eX5_now_27, eX5_now_30, eX5_now_31, eX5_now_32, eX5_now_35, eX5_now_36, eX5_now_37, eX5_now_40, eX5_now_41, eX5_now_44, eX5_now_45, eX5_now_46, eX5_now_49, eX5_now_50, eX5_now_53, eX5_now_54, eX5_now_55, je1, je0, nI_leI, nI_eq, n3, if_false, if_true, g0]; rfl, v0⟩
  | 1, _ => exact ⟨m0, by simp (disch := first | assumption | omega) only [eX5_now_12, eX5_now_15, eX5_now_16, eX5_now_17, eX5_now_18, eX5_now_19, eX5_now_22, eX5_now_23, eX5_now_26, eX5_now_27, eX5_now_30, eX5_now_31, eX5_now_32, eX5_now_35, eX5_now_36, eX5_now_37, eX5_now_40, eX5_now_41, eX5_now_44, eX5_now_45, eX5_now_46, eX5_now_49, eX5_now_50, eX5_now_53, eX5_now_54, eX5_now_55, je1, nI_leI, nI_eq, n4, if_false, if_true, g1]; rfl, v0⟩
  | 2, _ => exact ⟨m0, by simp (disch := first | assumption | omega) only [eX5_now_12, eX5_now_15, eX5_now_16, eX5_now_17, eX5_now_18, eX5_now_19, eX5_now_22, eX5_now_23, eX5_now_26, eX5_now_27, eX5_now_30, eX5_now_31, eX5_now_32, eX5_now_35, eX5_now_36, eX5_now_37, eX5_now_40, eX5_now_41, eX5_now_44, eX5_now_45, eX5_now_46, eX5_now_49, eX5_now_50, eX5_now_53, eX5_now_54, eX5_now_55, je1, jz_eq, nI_leI, nI_eq, n5, n1, n2, if_false, if_true, Nat.one_ne_zero, g2]; rfl, v0⟩
  | 3, _ =>
    refine ⟨m0, ?_, v0⟩
    simp (disch := first | assumption | omega) only [eX5_now_12, eX5_now_15, eX5_now_16, eX5_now_17, eX5_now_18, eX5_now_19, eX5_now_56, eX5_now_57, eX5_now_58, eX5_now_61, eX5_now_62, eX5_now_63, je1, nI_leI, nI_eq, Nat.le_refl, if_false, if_true]
    rw [eX5_now_66 (Y_ringing (k := 67) ⟨rfl, rfl⟩ h0.2.1 h0.2.2.1 hk hw)]
    simp only [eX5_now_69, eX5_now_104]; rfl
  | 4, _ =>
    refine ⟨m0, ?_, v0⟩
    simp (disch := first | assumption | omega) only [eX5_now_12, eX5_now_15, eX5_now_16, eX5_now_17, eX5_now_18, eX5_now_19, eX5_now_56, eX5_now_57, eX5_now_58, eX5_now_72, eX5_now_73, eX5_now_74, eX5_now_77, eX5_now_78, eX5_now_79, je1, nI_leI, nI_eq, n6, n7, if_false, if_true]
    rw [eX5_now_82 (Y_harsh (k := 67) ⟨rfl, rfl⟩ h0.2.1 h0.2.2.1 hk hw)]
    simp only [eX5_now_85, eX5_now_104]; rfl
  | 5, _ =>
    obtain ⟨m1', e1, f1⟩ := Y_still (lm := lm) h0.2.1 h0.2.2.1 hk hw
    refine ⟨m1', ?_, v0.tr (jl_V.G f1)⟩
    simp (disch := first | assumption | omega) only [eX5_now_12, eX5_now_15, eX5_now_16, eX5_now_17, eX5_now_18, eX5_now_19, eX5_now_56, eX5_now_57, eX5_now_58, eX5_now_72, eX5_now_73, eX5_now_74, eX5_now_88, eX5_now_89, eX5_now_90, eX5_now_93, je1, nI_leI, nI_eq, m1, m2, n8, if_false, if_true]
    rw [eX5_now_94 e1]
    simp only [eX5_now_97, eX5_now_104]; rfl
  | 6, _ => exact ⟨m0, by simp (disch := first | assumption | omega) only [eX5_now_12, eX5_now_15, eX5_now_16, eX5_now_17, eX5_now_18, eX5_now_19, eX5_now_56, eX5_now_57, eX5_now_58, eX5_now_72, eX5_now_73, eX5_now_74, eX5_now_88, eX5_now_89, eX5_now_90, eX5_now_100, eX5_now_101, eX5_now_104, je1, nI_leI, nI_eq, m3, m4, m5, n9, if_false, if_true, gu]; rfl, v0⟩
theorem Y_count_b {x : Int32} (h : x < nI 0 ∨ nI 3 < x) : xX5_count [.ref 62, .int x] (jl_w mem lm) = some (some (.int (-1)), jl_w (jl_s mem 62 0 (nI 0)) lm) := by
  have ne : ∀ c : Nat, c ≤ 3 → ¬ x = nI c := by
    intro c hc e
    subst e
    rcases h with h | h
    · exact absurd ((nI_ltI (by omega) (by omega)).mp h) (by omega)
    · exact absurd ((nI_ltI (by omega) (by omega)).mp h) (by omega)
  have e0 : ¬ x = 0 := ne 0 (by omega)
  have e1 := ne 1 (by omega)
  have e2 := ne 2 (by omega)
  have e3 := ne 3 (by omega)
  simp only [eX5_count, eX5_count_0, eX5_count_1, eX5_count_2, eX5_count_5, eX5_count_6, eX5_count_9, eX5_count_10, eX5_count_13, eX5_count_16, eX5_count_17, eX5_count_18, eX5_count_21, eX5_count_22, eX5_count_25, eX5_count_28, eX5_count_29, eX5_count_30, eX5_count_33, eX5_count_34, eX5_count_37, eX5_count_40, eX5_count_41, eX5_count_42, eX5_count_45, eX5_count_46, eX5_count_49, eX5_count_52, eX5_count_53, e0, e1, e2, e3, if_false]
theorem Y_count_o {w : Nat} (h : jY mem lm tx K mo un im hd tr) (hw : w ≤ 3) : xX5_count [.ref 62, .int (nI w)] (jl_w mem lm) = some (some (.int (nI (jq_cn tx K hd w))), jl_w (jl_s mem 62 0 (nI 0)) lm) := by
  have h0 := h.V (jl_V.t (x := nI 0))
  simp only [eX5_count, eX5_count_0, eX5_count_1, eX5_count_2, eX5_count_5]
  generalize jl_s mem 62 0 (nI 0) = m0 at h0 ⊢
  have g1 := h0.1.1
  have g2 := h0.2.1.1
  have g3 := h0.2.1.2.1
  have g4 := h0.2.2.2.2.2.1.1
  have n1 : ¬ (2 : Nat) = 0 := by omega
  have n2 : ¬ (2 : Nat) = 1 := by omega
  have n3 : ¬ (3 : Nat) = 0 := by omega
  have n4 : ¬ (3 : Nat) = 1 := by omega
  have n5 : ¬ (3 : Nat) = 2 := by omega
  match w, hw with
  | 0, _ => simp (disch := first | assumption | omega) only [eX5_count_6, eX5_count_9, eX5_count_10, eX5_count_13, eX5_count_16, eX5_count_17, eX5_count_18, eX5_count_21, eX5_count_22, eX5_count_25, eX5_count_28, eX5_count_29, eX5_count_30, eX5_count_33, eX5_count_34, eX5_count_37, eX5_count_40, eX5_count_41, eX5_count_42, eX5_count_45, eX5_count_46, eX5_count_49, eX5_count_52, eX5_count_53, je0, if_true, g2]; rfl
  | 1, _ => simp (disch := first | assumption | omega) only [eX5_count_6, eX5_count_9, eX5_count_10, eX5_count_13, eX5_count_16, eX5_count_17, eX5_count_18, eX5_count_21, eX5_count_22, eX5_count_25, eX5_count_28, eX5_count_29, eX5_count_30, eX5_count_33, eX5_count_34, eX5_count_37, eX5_count_40, eX5_count_41, eX5_count_42, eX5_count_45, eX5_count_46, eX5_count_49, eX5_count_52, eX5_count_53, jz_eq, nI_eq, Nat.one_ne_zero, if_false, if_true, g3]; rfl
  | 2, _ => simp (disch := first | assumption | omega) only [eX5_count_6, eX5_count_9, eX5_count_10, eX5_count_13, eX5_count_16, eX5_count_17, eX5_count_18, eX5_count_21, eX5_count_22, eX5_count_25, eX5_count_28, eX5_count_29, eX5_count_30, eX5_count_33, eX5_count_34, eX5_count_37, eX5_count_40, eX5_count_41, eX5_count_42, eX5_count_45, eX5_count_46, eX5_count_49, eX5_count_52, eX5_count_53, jz_eq, nI_eq, n1, n2, if_false, if_true, g4]; rfl
  | 3, _ => simp (disch := first | assumption | omega) only [eX5_count_6, eX5_count_9, eX5_count_10, eX5_count_13, eX5_count_16, eX5_count_17, eX5_count_18, eX5_count_21, eX5_count_22, eX5_count_25, eX5_count_28, eX5_count_29, eX5_count_30, eX5_count_33, eX5_count_34, eX5_count_37, eX5_count_40, eX5_count_41, eX5_count_42, eX5_count_45, eX5_count_46, eX5_count_49, eX5_count_52, eX5_count_53, jz_eq, nI_eq, n3, n4, n5, if_false, if_true, g1]; rfl
theorem Y_trace (h : jY mem lm tx K mo un im hd tr) : xX5_trace [.ref 62] (jl_w mem lm) = some (some (.long tr), jl_w (jl_s mem 62 0 (nI 0)) lm) := by
  have h7 : lm 62 1 = tr := h.2.2.2.2.2.2
  simp only [eX5_trace, eX5_trace_0, eX5_trace_1, eX5_trace_2, eX5_trace_5, eX5_trace_6, eX5_trace_9, h7]
end YM

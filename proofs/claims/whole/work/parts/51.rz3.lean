theorem jp_let6 {q : jp_Q} {c : Nat} (h0 : q.1 ≠ 0) (h5 : q.1 ≠ 5) : (jp_let q c).1 = 6 := by
  unfold jp_let
  rw [if_neg (fun x => h5 x.2), if_neg (fun x => h0 x.2.1), if_neg (fun x => h0 x.2.1)]
  rfl
theorem jp_num2 {K : jq_K} {a b t g v : Nat} : jp_num (2, K, a, b, t, g) v = if 1 ≤ v ∧ v ≤ 9 then (3, K, a, b, t, v) else jp_bad (2, K, a, b, t, g) := rfl
theorem jp_num3 {K : jq_K} {a b t g v : Nat} : jp_num (3, K, a, b, t, g) v = if (1 ≤ v ∧ v ≤ 9) ∧ K.1 < 8 then (5, jp_add K t g v, a, b, t, g) else jp_bad (3, K, a, b, t, g) := rfl
theorem jp_num4 {K : jq_K} {a b t g v : Nat} : jp_num (4, K, a, b, t, g) v = if 1 ≤ v ∧ v ≤ 3 then (5, (K.1, v, K.2.2), a, b, t, g) else jp_bad (4, K, a, b, t, g) := rfl
theorem jp_num1 {K : jq_K} {a b t g v : Nat} : jp_num (1, K, a, b, t, g) v = if v ≤ 48 then (2, K, a, b, v, g) else jp_bad (1, K, a, b, t, g) := rfl
theorem jp_badn {q : jp_Q} : (jp_bad q).1 = 6 := rfl
section YT
variable {mem : jl_M} {lm : jl_L} {tx : jq_X} {F : Nat ⊕ jp_Q}
theorem jY_T.an {mem' : jl_M} (h : jY_T mem tx) (f : jl_an mem mem') : jY_T mem' tx := h.keep (f.2 3 (by omega) (by omega) (by omega) (by omega) (by omega)) (f.1 63 (by omega))
theorem Y_num' {lo hi i : Nat} {q : jp_Q} {C : Prop} (hL : tx.1 ≤ 120 ∧ ∀ i, i < tx.1 → tx.2 i ≤ 255) (hT : jY_T mem tx) (h : (C ∧ ∃ e, i ≤ e ∧ jY_P mem tx F e q) ∨ jY_N mem tx F) (hh : lo ≤ 1000 ∧ hi ≤ 1000) (hq : q.1 ≠ 0) (hq5 : q.1 ≠ 5) (hok : ∀ v, lo ≤ v → v ≤ hi → (jp_num q v).1 ≠ 6) (hno : ∀ v, ¬ (lo ≤ v ∧ v ≤ hi) → (jp_num q v).1 = 6) : ∃ v mem', xX5_number [.ref 62, .int (nI lo), .int (nI hi)] (jl_w mem lm) = some (some (.int (nI v)), jl_w mem' lm) ∧ jl_an mem mem' ∧ (((C ∧ lo ≤ v ∧ v ≤ hi) ∧ ∃ e, i ≤ e ∧ jY_P mem' tx F e (jp_num q v)) ∨ jY_N mem' tx F) := by
  rcases h with ⟨c, e, he, hP⟩ | hN
  · obtain ⟨v, m1, k1, k2, k3⟩ := Y_number (lm := lm) hL hT hP hh hq (fun c => jp_let6 hq hq5) hok hno
    refine ⟨v, m1, k1, k2, ?_⟩
    rcases k3 with ⟨l1, l2, e', l3, l4⟩ | k3
    · exact Or.inl ⟨⟨c, l1, l2⟩, e', by omega, l4⟩
    · exact Or.inr k3
  · exact ⟨0, mem, Y_numberN hL.1 hN, jl_an.rf, Or.inr hN⟩
theorem Y_item_r {i a b t g : Nat} {K : jq_K} (hL : tx.1 ≤ 120 ∧ ∀ i, i < tx.1 → tx.2 i ≤ 255) (hT : jY_T mem tx) (hP : jY_P mem tx F i (1, K, a, b, t, g)) (hW : jp_W (1, K, a, b, t, g)) (hD : jY_D mem (1, K, a, b, t, g)) : ∃ mem', xX5_readsItem [.ref 62, .int (nI 114)] (jl_w mem lm) = some (none, jl_w mem' lm) ∧ jl_rv mem mem' ∧ ((∃ e K' t' g', i ≤ e ∧ jY_P mem' tx F e (5, K', a, b, t', g') ∧ jY_D mem' (5, K', a, b, t', g') ∧ jp_W (5, K', a, b, t', g')) ∨ jY_N mem' tx F) := by
  obtain ⟨w1, w2, w3, w4, w5, w6, w7, w8⟩ := hW
  have hK8 : K.1 < 8 := w8 (Nat.le_refl 1) (by show 1 ≤ 3; omega)
  obtain ⟨d1, d2, d3, d4⟩ := hD
  have d1 : mem 62 11 = nI K.1 := d1
  have d2 : mem 62 12 = nI K.2.1 := d2
  have d3 : mem 62 13 = nI b := d3
  have d4 : ∀ r, r < K.1 → mem 64 (8 + r) = nI (K.2.2.1 r) ∧ mem 65 (8 + r) = nI (K.2.2.2.1 r) ∧ mem 66 (8 + r) = nI (K.2.2.2.2 r) := d4
  obtain ⟨v1, m1, k1, a1, o1⟩ := Y_num' (lm := lm) (i := i) (C := True) (lo := 0) (hi := 48) (q := (1, K, a, b, t, g)) hL hT (Or.inl ⟨trivial, i, Nat.le_refl _, hP⟩) (by omega) (by show (1 : Nat) ≠ 0; omega) (by show (1 : Nat) ≠ 5; omega) (fun v _ h => by rw [jp_num1, if_pos h]; show (2 : Nat) ≠ 6; omega) (fun v h => by rw [jp_num1, if_neg (fun x => h ⟨by omega, x⟩)]; rfl)
  have T1 : jY_T (jl_s m1 64 (8 + K.1) (nI v1)) tx := (hT.an a1).rv (jl_rv.r (Or.inl rfl) (by omega))
  have o1' : ((True ∧ 0 ≤ v1 ∧ v1 ≤ 48) ∧ ∃ e, i ≤ e ∧ jY_P (jl_s m1 64 (8 + K.1) (nI v1)) tx F e (2, K, a, b, v1, g)) ∨ jY_N (jl_s m1 64 (8 + K.1) (nI v1)) tx F := by
    rcases o1 with ⟨c, e, he, hp⟩ | hn
    · rw [jp_num1, if_pos c.2.2] at hp
      exact Or.inl ⟨c, e, he, hp.s (Or.inl (by omega))⟩
    · exact Or.inr (hn.s (Or.inl (by omega)))
  obtain ⟨v2, m2, k2, a2, o2⟩ := Y_num' (lm := lm) (i := i) (lo := 1) (hi := 9) (q := (2, K, a, b, v1, g)) hL T1 o1' (by omega) (by show (2 : Nat) ≠ 0; omega) (by show (2 : Nat) ≠ 5; omega) (fun v h1 h2 => by rw [jp_num2, if_pos ⟨h1, h2⟩]; show (3 : Nat) ≠ 6; omega) (fun v h => by rw [jp_num2, if_neg h]; rfl)
  have T2 : jY_T (jl_s m2 65 (8 + K.1) (nI v2)) tx := (T1.an a2).rv (jl_rv.r (Or.inr (Or.inl rfl)) (by omega))
  have o2' : (((True ∧ 0 ≤ v1 ∧ v1 ≤ 48) ∧ 1 ≤ v2 ∧ v2 ≤ 9) ∧ ∃ e, i ≤ e ∧ jY_P (jl_s m2 65 (8 + K.1) (nI v2)) tx F e (3, K, a, b, v1, v2)) ∨ jY_N (jl_s m2 65 (8 + K.1) (nI v2)) tx F := by
    rcases o2 with ⟨c, e, he, hp⟩ | hn
    · rw [jp_num2, if_pos c.2] at hp
      exact Or.inl ⟨c, e, he, hp.s (Or.inl (by omega))⟩
    · exact Or.inr (hn.s (Or.inl (by omega)))
  obtain ⟨v3, m3, k3, a3, o3⟩ := Y_num' (lm := lm) (i := i) (lo := 1) (hi := 9) (q := (3, K, a, b, v1, v2)) hL T2 o2' (by omega) (by show (3 : Nat) ≠ 0; omega) (by show (3 : Nat) ≠ 5; omega) (fun v h1 h2 => by rw [jp_num3, if_pos ⟨⟨h1, h2⟩, hK8⟩]; show (5 : Nat) ≠ 6; omega) (fun v h => by rw [jp_num3, if_neg (fun x => h x.1)]; rfl)
  have f62 : ∀ j, 11 ≤ j → j ≤ 13 → m3 62 j = mem 62 j := fun j h1 h2 => by
    rw [a3.2 j (by omega) (by omega) (by omega) (by omega) (by omega), js_mk (by omega), a2.2 j (by omega) (by omega) (by omega) (by omega) (by omega), js_mk (by omega), a1.2 j (by omega) (by omega) (by omega) (by omega) (by omega)]
  have fr : jl_rv mem (jl_s (jl_s m3 66 (8 + K.1) (nI v3)) 62 11 (nI (K.1 + 1))) := (((jl_rv.n a1).tr (jl_rv.r (Or.inl rfl) (by omega))).tr ((jl_rv.n a2).tr (jl_rv.r (Or.inr (Or.inl rfl)) (by omega)))).tr ((jl_rv.n a3).tr ((jl_rv.r (Or.inr (Or.inr rfl)) (by omega)).tr (jl_rv.f (Or.inr (Or.inr (by omega))))))
  refine ⟨jl_s (jl_s m3 66 (8 + K.1) (nI v3)) 62 11 (nI (K.1 + 1)), ?_, fr, ?_⟩
  · have g1 : jl_s m3 66 (8 + K.1) (nI v3) 62 11 = nI K.1 := by rw [js_mk (by omega), f62 11 (by omega) (by omega), d1]
    have s8 : nI 8 + nI K.1 = nI (8 + K.1) := nI_add ..
    simp only [eX5_readsItem, eX5_readsItem_0, eX5_readsItem_1, eX5_readsItem_3, eX5_readsItem_6, eX5_readsItem_8, eX5_readsItem_9, eX5_readsItem_12, eX5_readsItem_13, eX5_readsItem_14, eX5_readsItem_15, eX5_readsItem_18, eX5_readsItem_19, eX5_readsItem_20, eX5_readsItem_21, if_true, d1, s8]
    rw [eX5_readsItem_23 k1]
    simp (disch := first | assumption | omega) only [eX5_readsItem_26, eX5_readsItem_27, eX5_readsItem_28, eX5_readsItem_31, eX5_readsItem_32, eX5_readsItem_33, eX5_readsItem_34]
    rw [eX5_readsItem_36 k2]
    simp (disch := first | assumption | omega) only [eX5_readsItem_39, eX5_readsItem_40, eX5_readsItem_41, eX5_readsItem_44, eX5_readsItem_45, eX5_readsItem_46, eX5_readsItem_47]
    rw [eX5_readsItem_49 k3]
    simp (disch := first | assumption | omega) only [eX5_readsItem_52, eX5_readsItem_53, eX5_readsItem_54, eX5_readsItem_55, eX5_readsItem_58, eX5_readsItem_59, eX5_readsItem_60, eX5_readsItem_63, eX5_readsItem_81, g1, nI_add]
  · rcases o3 with ⟨c, e, he, hp⟩ | hn
    · rw [jp_num3, if_pos ⟨c.2, hK8⟩] at hp
      refine Or.inl ⟨e, jp_add K v1 v2 v3, v1, v2, he, (hp.s (Or.inl (by omega))).s (Or.inr (by omega)), ⟨js_hit, ?_, ?_, fun r hr => ?_⟩, ⟨by show 5 ≤ 6; omega, by show K.1 + 1 ≤ 8; omega, w3, fun r hr => ?_, w5, fun x => absurd x (by show ¬ (5 : Nat) = 2; omega), fun x => absurd x (by show ¬ (5 : Nat) = 3; omega), fun _ x => absurd x (by show ¬ (5 : Nat) ≤ 3; omega)⟩⟩
      · rw [js_mj (by omega), js_mk (by omega), f62 12 (by omega) (by omega)]; exact d2
      · rw [js_mj (by omega), js_mk (by omega), f62 13 (by omega) (by omega)]; exact d3
      · have hr : r < K.1 + 1 := hr
        show _ = nI (if r = K.1 then v1 else K.2.2.1 r) ∧ _ = nI (if r = K.1 then v2 else K.2.2.2.1 r) ∧ _ = nI (if r = K.1 then v3 else K.2.2.2.2 r)
        have t1 : ∀ j, jl_s (jl_s m3 66 (8 + K.1) (nI v3)) 62 11 (nI (K.1 + 1)) 64 j = jl_s m1 64 (8 + K.1) (nI v1) 64 j := fun j => by
          rw [js_mk (by omega), js_mk (by omega), a3.1 64 (by omega), js_mk (by omega), a2.1 64 (by omega)]
        have t2 : ∀ j, jl_s (jl_s m3 66 (8 + K.1) (nI v3)) 62 11 (nI (K.1 + 1)) 65 j = jl_s m2 65 (8 + K.1) (nI v2) 65 j := fun j => by
          rw [js_mk (by omega), js_mk (by omega), a3.1 65 (by omega)]
        have t3 : ∀ j, jl_s (jl_s m3 66 (8 + K.1) (nI v3)) 62 11 (nI (K.1 + 1)) 66 j = jl_s m3 66 (8 + K.1) (nI v3) 66 j := fun j => by
          rw [js_mk (by omega)]
        rw [t1, t2, t3]
        by_cases er : r = K.1
        · rw [if_pos er, if_pos er, if_pos er, er, js_hit, js_hit, js_hit]
          exact ⟨rfl, rfl, rfl⟩
        · rw [if_neg er, if_neg er, if_neg er, js_mj (by omega), js_mj (by omega), js_mj (by omega), a1.1 64 (by omega), a2.1 65 (by omega), js_mk (by omega), a1.1 65 (by omega), a3.1 66 (by omega), js_mk (by omega), a2.1 66 (by omega), js_mk (by omega), a1.1 66 (by omega)]
          exact d4 r (by omega)
      · have hr : r < K.1 + 1 := hr
        show (if r = K.1 then v1 else K.2.2.1 r) ≤ 48 ∧ (1 ≤ (if r = K.1 then v2 else K.2.2.2.1 r) ∧ (if r = K.1 then v2 else K.2.2.2.1 r) ≤ 9) ∧ (1 ≤ (if r = K.1 then v3 else K.2.2.2.2 r) ∧ (if r = K.1 then v3 else K.2.2.2.2 r) ≤ 9)
        by_cases er : r = K.1
        · rw [if_pos er, if_pos er, if_pos er]
          exact ⟨c.1.1.2.2, c.1.2, c.2⟩
        · rw [if_neg er, if_neg er, if_neg er]
          exact w4 r (show r < K.1 by omega)
    · exact Or.inr ((hn.s (Or.inl (by omega))).s (Or.inr (by omega)))
theorem Y_item_d {i a b t g : Nat} {K : jq_K} (hL : tx.1 ≤ 120 ∧ ∀ i, i < tx.1 → tx.2 i ≤ 255) (hT : jY_T mem tx) (hP : jY_P mem tx F i (4, K, a, 1, t, g)) (hW : jp_W (4, K, a, 1, t, g)) (hD : jY_D mem (0, K, a, b, t, g)) : ∃ mem', xX5_readsItem [.ref 62, .int (nI 100)] (jl_w mem lm) = some (none, jl_w mem' lm) ∧ jl_rv mem mem' ∧ ((∃ e K' t' g', i ≤ e ∧ jY_P mem' tx F e (5, K', a, 1, t', g') ∧ jY_D mem' (5, K', a, 1, t', g') ∧ jp_W (5, K', a, 1, t', g')) ∨ jY_N mem' tx F) := by
  obtain ⟨w1, w2, w3, w4, w5, w6, w7, w8⟩ := hW
  obtain ⟨d1, d2, d3, d4⟩ := hD
  have d1 : mem 62 11 = nI K.1 := d1
  have d4 : ∀ r, r < K.1 → mem 64 (8 + r) = nI (K.2.2.1 r) ∧ mem 65 (8 + r) = nI (K.2.2.2.1 r) ∧ mem 66 (8 + r) = nI (K.2.2.2.2 r) := d4
  obtain ⟨v1, m1, k1, a1, o1⟩ := Y_num' (lm := lm) (i := i) (C := True) (lo := 1) (hi := 3) (q := (4, K, a, 1, t, g)) hL hT (Or.inl ⟨trivial, i, Nat.le_refl _, hP⟩) (by omega) (by show (4 : Nat) ≠ 0; omega) (by show (4 : Nat) ≠ 5; omega) (fun v h1 h2 => by rw [jp_num4, if_pos ⟨h1, h2⟩]; show (5 : Nat) ≠ 6; omega) (fun v h => by rw [jp_num4, if_neg h]; rfl)
  refine ⟨jl_s (jl_s m1 62 12 (nI v1)) 62 13 (nI 1), ?_, (jl_rv.n a1).tr ((jl_rv.f (Or.inr (Or.inr (by omega)))).tr (jl_rv.f (Or.inr (Or.inr (by omega))))), ?_⟩
  · have n114 : ¬ nI 100 = nI 114 := by decide
    simp only [eX5_readsItem, eX5_readsItem_0, eX5_readsItem_1, eX5_readsItem_3, eX5_readsItem_66, eX5_readsItem_67, eX5_readsItem_68, eX5_readsItem_69, n114, if_false]
    rw [eX5_readsItem_70 k1]
    simp only [eX5_readsItem_73, eX5_readsItem_76, eX5_readsItem_77, eX5_readsItem_78_0, eX5_readsItem_78_1, eX5_readsItem_81]
  · rcases o1 with ⟨c, e, he, hp⟩ | hn
    · rw [jp_num4, if_pos c.2] at hp
      refine Or.inl ⟨e, (K.1, v1, K.2.2), t, g, he, (hp.s (Or.inr (by omega))).s (Or.inr (by omega)), ⟨?_, ?_, js_hit, fun r hr => ?_⟩, ⟨by show 5 ≤ 6; omega, w2, c.2, w4, w5, fun x => absurd x (by show ¬ (5 : Nat) = 2; omega), fun x => absurd x (by show ¬ (5 : Nat) = 3; omega), fun _ x => absurd x (by show ¬ (5 : Nat) ≤ 3; omega)⟩⟩
      · rw [js_mj (by omega), js_mj (by omega), a1.2 11 (by omega) (by omega) (by omega) (by omega) (by omega)]; exact d1
      · rw [js_mj (by omega), js_hit]
      · rw [js_mk (by omega), js_mk (by omega), js_mk (by omega), js_mk (by omega), js_mk (by omega), js_mk (by omega), a1.1 64 (by omega), a1.1 65 (by omega), a1.1 66 (by omega)]
        exact d4 r hr
    · exact Or.inr ((hn.s (Or.inr (by omega))).s (Or.inr (by omega)))
theorem Y_tailN {it : Nat} {v : Value} (hL : tx.1 ≤ 120) (hN : jY_N mem tx F) : jr_ev pX5_chime 108 [.ref 62, .int (nI it), v] [] (jl_w mem lm) = jr_ev pX5_chime 132 [.ref 62, .int (nI (it + 1)), v] [] (jl_w mem lm) := by
  obtain ⟨f, f1, f2, f3⟩ := hN
  have hN : jY_N mem tx F := ⟨f, f1, f2, f3⟩
  have hill := Y_ill (lm := lm) f2 (by omega)
  have fin : jr_ev pX5_chime 125 [.ref 62, .int (nI it), v] [.int (nI 0)] (jl_w mem lm) = jr_ev pX5_chime 132 [.ref 62, .int (nI (it + 1)), v] [] (jl_w mem lm) := by
    simp only [eX5_chime_125, eX5_chime_126, nI_add]
    rw [eX5_chime_129]
    simp only [eX5_chime_36]
    rw [eX5_chime_37 hill]
    simp only [eX5_chime_40, je0, if_true]
  by_cases h3 : mem 62 5 = nI 3
  · simp only [eX5_chime_108, eX5_chime_109, eX5_chime_110, eX5_chime_113, eX5_chime_114, eX5_chime_117, eX5_chime_118, h3, if_true]
    rw [eX5_chime_122 (Y_takesN hL hN), fin]
  · simp only [eX5_chime_108, eX5_chime_109, eX5_chime_110, eX5_chime_113, eX5_chime_114, eX5_chime_121, h3, if_false]
    rw [eX5_chime_122 (Y_takesN hL hN), fin]
end YT

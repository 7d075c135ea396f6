/-! ===== both objects, side by side ===== -/
theorem jq_rod (x : Int32) {n : Nat} (hn : n ≤ 8) : (∃ r, r < n ∧ x = nI r) ∨ (x < 0 ∨ nI n ≤ x) := by
  by_cases h0 : x < 0
  · exact Or.inr (Or.inl h0)
  by_cases h1 : nI n ≤ x
  · exact Or.inr (Or.inr h1)
  obtain ⟨j, hj, rfl⟩ := nI_of h0
  refine Or.inl ⟨j, ?_, rfl⟩
  rcases Nat.lt_or_ge j n with q | q
  · exact q
  · exact absurd ((nI_leI (by omega) hj).mpr q) h1
theorem jq_beat_0 {K : jq_K} {s g : Nat} {mo : jq_M} : jq_beat K s g mo 0 = mo 0 + 1 := by
  have hf : jq_fade K.1 mo 0 = mo 0 + 1 := rfl
  have hm : jq_move K s g (jq_fade K.1 mo) 0 = mo 0 + 1 := by
    unfold jq_move
    split
    · exact hf
    · exact hf
  show jq_strike K _ 0 = _
  unfold jq_strike
  split
  · show (if 0 = 11 + _ then _ else if 0 = 2 then _ else _) = _
    rw [if_neg (by omega), if_neg (by omega)]
    exact hm
  · exact hm
theorem jq_WM_hold {n r : Nat} {mo : jq_M} (hn : n ≤ 8) (h : jq_WM n mo) : jq_WM n (jq_hold r mo) := by
  have e : ∀ j, j < 11 → jq_hold r mo j = mo j := fun j hj => by unfold jq_hold; rw [if_neg (by omega)]
  have h' := h
  obtain ⟨a1, a2, a3, a4, a5, a6, a7, a8⟩ := h
  refine jq_WM_of hn h' (by rw [e 2 (by omega)]; exact a2) (by rw [e 2 (by omega)]; exact a1) (by rw [e 1 (by omega)]; exact a3) (by rw [e 1 (by omega)]; exact a4) (fun q hq => e _ (by omega)) (fun q hq => ?_)
  unfold jq_hold
  split
  · omega
  · exact (a5 q hq).2
theorem jq_WM_m0 {n : Nat} (hn : n ≤ 8) (h3 : 3 ≤ n) : jq_WM n jq_m0 := by
  have e : ∀ r, r < 8 → jq_m0 (3 + r) = r := fun r hr => by unfold jq_m0; rw [if_pos (by omega)]; omega
  have z : ∀ r, jq_m0 (11 + r) = 0 := fun r => by unfold jq_m0; rw [if_neg (by omega)]
  refine ⟨fun _ => rfl, by show 0 ≤ 9; omega, fun h => h, by show 0 < 8; omega, fun r hr => ⟨by rw [e r hr]; exact hr, by rw [z]; omega⟩, fun r hr => by rw [e r (by omega)]; exact hr, fun r s hr hs h => by rw [e r (by omega), e s (by omega)] at h; exact h, fun t ht => ⟨t, ht, e t (by omega)⟩⟩
section JJ
variable {mem : jl_M} {lm : jl_L} {tx : jq_X} {K : jq_K} {mo : jq_M} {un : List jq_M} {im : Nat → Option jq_M} {hd : jq_H} {tr : Int64}
theorem jX.lo {mem' : jl_M} (h : jX mem lm tx K mo un im hd tr) (f : jl_lo mem mem') : jX mem' lm tx K mo un im hd tr := by
  obtain ⟨a1, a2, a3, a4, a5, a6, a7⟩ := h
  exact ⟨a1.keep (by rw [f 1 (by omega)]) (f 2 (by omega)), a2.keep (f 7 (by omega)) (f 8 (by omega)) (f 9 (by omega)) (f 10 (by omega)), a3.keep (f 11 (by omega)) (f 12 (by omega)) (f 13 (by omega)), a4.keep (by rw [f 0 (by omega)]) (by rw [f 0 (by omega)]) (fun k h1 h2 => f k (by omega)), a5.keep (f 21 (by omega)) (fun k h1 h2 => f k (by omega)), a6.keep (by rw [f 0 (by omega)]) (f 22 (by omega)) (f 23 (by omega)) (f 24 (by omega)), a7⟩
def jJ (mem : jl_M) (lm : jl_L) : Prop := ∃ tx K mo un im hd tr, jX mem lm tx K mo un im hd tr ∧ jY mem lm tx K mo un im hd tr ∧ jW tx K mo un im hd
/-- one call: the class, then the reference -/
def jJ_op (fx fy : List Value → jw_W → Option jo_R) (as : List Value) : Prop := ∀ mem lm, jJ mem lm → ∃ v mem1 lm1 mem2 lm2, fx (.ref 0 :: as) (jl_w mem lm) = some (some (.int v), jl_w mem1 lm1) ∧ fy (.ref 62 :: as) (jl_w mem1 lm1) = some (some (.int v), jl_w mem2 lm2) ∧ jJ mem2 lm2
/-- a refused call -/
theorem jJ_b {fx fy : List Value → jw_W → Option jo_R} {as : List Value} {v : Int32} (hX : jX mem lm tx K mo un im hd tr) (hY : jY mem lm tx K mo un im hd tr) (hW : jW tx K mo un im hd) (h1 : fx (.ref 0 :: as) (jl_w mem lm) = some (some (.int v), jl_w mem lm)) (h2 : fy (.ref 62 :: as) (jl_w mem lm) = some (some (.int v), jl_w (jl_s mem 62 0 (nI 0)) lm)) : ∃ v mem1 lm1 mem2 lm2, fx (.ref 0 :: as) (jl_w mem lm) = some (some (.int v), jl_w mem1 lm1) ∧ fy (.ref 62 :: as) (jl_w mem1 lm1) = some (some (.int v), jl_w mem2 lm2) ∧ jJ mem2 lm2 :=
  ⟨v, mem, lm, jl_s mem 62 0 (nI 0), lm, h1, h2, tx, K, mo, un, im, hd, tr, hX.lo jl_V.t.lo, hY.V jl_V.t, hW⟩
/-- a call that looks -/
theorem jJ_v {fx fy : List Value → jw_W → Option jo_R} {as : List Value} {v : Int32} {S : Nat → Prop} (hS : ∀ k, S k → jl_sc k) (hX : jX mem lm tx K mo un im hd tr) (hY : jY mem lm tx K mo un im hd tr) (hW : jW tx K mo un im hd) (h1 : ∃ mem', fx (.ref 0 :: as) (jl_w mem lm) = some (some (.int v), jl_w mem' lm) ∧ jl_F S mem mem') (h2 : ∀ mem, jY mem lm tx K mo un im hd tr → ∃ mem', fy (.ref 62 :: as) (jl_w mem lm) = some (some (.int v), jl_w mem' lm) ∧ jl_V mem mem') : ∃ v mem1 lm1 mem2 lm2, fx (.ref 0 :: as) (jl_w mem lm) = some (some (.int v), jl_w mem1 lm1) ∧ fy (.ref 62 :: as) (jl_w mem1 lm1) = some (some (.int v), jl_w mem2 lm2) ∧ jJ mem2 lm2 := by
  obtain ⟨m1, e1, f1⟩ := h1
  have F1 : jl_F jl_sc mem m1 := fun k hk => f1 k (fun q => hk (hS k q))
  have Y1 := hY.hi (fun k hk => F1 k (by omega))
  obtain ⟨m2, e2, f2⟩ := h2 m1 Y1
  exact ⟨v, m1, lm, m2, lm, e1, e2, tx, K, mo, un, im, hd, tr, (hX.keep F1).lo f2.lo, Y1.V f2, hW⟩
/-- a call that changes -/
theorem jJ_c {fx fy : List Value → jw_W → Option jo_R} {as : List Value} {v : Int32} {tx' : jq_X} {K' : jq_K} {mo' : jq_M} {un' : List jq_M} {im' : Nat → Option jq_M} {hd' : jq_H} (hY : jY mem lm tx K mo un im hd tr) (hW : jW tx' K' mo' un' im' hd') (h1 : ∃ mem', fx (.ref 0 :: as) (jl_w mem lm) = some (some (.int v), jl_w mem' lm) ∧ jX mem' lm tx' K' mo' un' im' hd' tr ∧ jl_hi mem mem') (h2 : ∀ mem, jY mem lm tx K mo un im hd tr → ∃ mem', fy (.ref 62 :: as) (jl_w mem lm) = some (some (.int v), jl_w mem' lm) ∧ jY mem' lm tx' K' mo' un' im' hd' tr ∧ jl_lo mem mem') : ∃ v mem1 lm1 mem2 lm2, fx (.ref 0 :: as) (jl_w mem lm) = some (some (.int v), jl_w mem1 lm1) ∧ fy (.ref 62 :: as) (jl_w mem1 lm1) = some (some (.int v), jl_w mem2 lm2) ∧ jJ mem2 lm2 := by
  obtain ⟨m1, e1, X1, f1⟩ := h1
  obtain ⟨m2, e2, Y2, f2⟩ := h2 m1 (hY.hi f1)
  exact ⟨v, m1, lm, m2, lm, e1, e2, tx', K', mo', un', im', hd', tr, X1.lo f2, Y2, hW⟩
theorem J_type (x : Int32) : jJ_op xX4_type xX5_type [.int x] := by
  rintro mem lm ⟨tx, K, mo, un, im, hd, tr, hX, hY, hW⟩
  rcases jq_rng x (a := 0) (b := 255) (by omega) (by omega) with ⟨v, _, hv, rfl⟩ | hx
  · by_cases hf : tx.1 = 120
    · exact jJ_b hX hY hW (X_type_f hv hX.1 hf) (Y_type_f hv hY.1 hf)
    · have h120 := hW.1.1
      refine jJ_c hY ⟨⟨?_, fun i hi => ?_⟩, hW.2⟩ (X_type_o hv hX (by omega)) (fun m h => Y_type_o hv h (by omega))
      · show tx.1 + 1 ≤ 120; omega
      · have hi : i < tx.1 + 1 := hi
        show (if i = tx.1 then v else tx.2 i) ≤ 255
        split
        · exact hv
        · exact hW.1.2 i (by omega)
  · exact jJ_b hX hY hW (X_type_b hx) (Y_type_b hx)
theorem J_clear : jJ_op xX4_clear xX5_clear [] := by
  rintro mem lm ⟨tx, K, mo, un, im, hd, tr, hX, hY, hW⟩
  exact jJ_c hY ⟨⟨by show 0 ≤ 120; omega, fun i hi => absurd hi (Nat.not_lt_zero _)⟩, hW.2⟩ (X_clear hX) (fun m h => Y_clear h)
theorem J_chime : jJ_op xX4_chime xX5_chime [] := by
  rintro mem lm ⟨tx, K, mo, un, im, hd, tr, hX, hY, hW⟩
  cases hr : jp_R tx tx.1 0 jp_z with
  | inl f => exact jJ_c hY hW (X_chime_f hX hW.1 hr) (fun m h => Y_chime_f h hW.2.1 hW.1 hr)
  | inr q =>
    obtain ⟨_, _, _, _, w, h3⟩ := Y_chime_o hY hW.2.1 hW.1 hr
    obtain ⟨w1, w2, w3, w4, w5, w6, w7, w8⟩ := w
    refine jJ_c hY ⟨⟨by show 0 ≤ 120; omega, fun i hi => absurd hi (Nat.not_lt_zero _)⟩, ⟨w2, w3, w4⟩, ⟨jq_WM_m0 w2 h3, by show 0 ≤ 999; omega⟩, ⟨by show 0 ≤ 10; omega, fun m hm => (by cases hm)⟩, fun i m _ hm => (by cases hm), ⟨by show 0 ≤ 6; omega, fun i hi => absurd hi (Nat.not_lt_zero _)⟩⟩ (X_chime_o hX hW.1 hr) (fun m h => ?_)
    obtain ⟨m', e1, e2, e3, _, _⟩ := Y_chime_o h hW.2.1 hW.1 hr
    exact ⟨m', e1, e2, e3⟩
theorem J_rod (x y : Int32) : jJ_op xX4_rod xX5_rod [.int x, .int y] := by
  rintro mem lm ⟨tx, K, mo, un, im, hd, tr, hX, hY, hW⟩
  rcases jq_rod x hW.2.1.1 with ⟨r, hr, rfl⟩ | hx
  · rcases jq_rng y (a := 0) (b := 4) (by omega) (by omega) with ⟨v, _, hv, rfl⟩ | hy
    · exact jJ_b hX hY hW (X_rod_o hX.2.1 hX.2.2.1 hW.2.1 hr hv) (Y_rod_o hY hW.2.1 hr hv)
    · exact jJ_b hX hY hW (X_rod_w hX.2.1 hW.2.1 hr hy) (Y_rod_w hY.2.1 hW.2.1 hr hy)
  · exact jJ_b hX hY hW (X_rod_b hX.2.1 hx) (Y_rod_b hY.2.1 hW.2.1 hx)
theorem J_side (x : Int32) : jJ_op xX4_side xX5_side [.int x] := by
  rintro mem lm ⟨tx, K, mo, un, im, hd, tr, hX, hY, hW⟩
  rcases jq_rod x hW.2.1.1 with ⟨r, hr, rfl⟩ | hx
  · exact jJ_b hX hY hW (X_side_o hX.2.1 hX.2.2.1 hW.2.1 hW.2.2.1.1 hr) (Y_side_o hY hW.2.1 hW.2.2.1.1 hr)
  · exact jJ_b hX hY hW (X_side_b hX.2.1 hx) (Y_side_b hY.2.1 hW.2.1 hx)
theorem jl_co_sc : ∀ k, jl_co k → jl_sc k := fun k h => Or.inl h
theorem jl_ls_sc : ∀ k, jl_ls k → jl_sc k := fun k h => h.elim Or.inl (fun h => Or.inr (Or.inl h))
theorem J_now (x : Int32) : jJ_op xX4_now xX5_now [.int x] := by
  rintro mem lm ⟨tx, K, mo, un, im, hd, tr, hX, hY, hW⟩
  rcases jq_rng x (a := 0) (b := 6) (by omega) (by omega) with ⟨v, _, hv, rfl⟩ | hx
  · exact jJ_v jl_co_sc hX hY hW (X_now_o hX hW.2.1 hW.2.2.1.1 hv) (fun m h => Y_now_o h hW.2.1 hW.2.2.1.1 hv)
  · exact jJ_b hX hY hW (X_now_b hx) (Y_now_b hx)
/-- the moment is remembered, and a new one stands -/
theorem jW_n {mo' : jq_M} (hW : jW tx K mo un im hd) (h1 : jq_WM K.1 mo') (h2 : mo' 0 ≤ 999) : jW tx K mo' (List.take 10 (mo :: un)) im hd := by
  refine ⟨hW.1, hW.2.1, ⟨h1, h2⟩, ⟨by rw [List.length_take]; omega, fun m hm => ?_⟩, hW.2.2.2.2⟩
  rcases List.mem_cons.mp (List.mem_of_mem_take hm) with rfl | h
  · exact hW.2.2.1
  · exact hW.2.2.2.1.2 m h
theorem J_blows (x y : Int32) : jJ_op xX4_blows xX5_blows [.int x, .int y] := by
  rintro mem lm ⟨tx, K, mo, un, im, hd, tr, hX, hY, hW⟩
  rcases jq_rod x hW.2.1.1 with ⟨s, hs, rfl⟩ | hx
  · rcases jq_rng y (a := 1) (b := 9) (by omega) (by omega) with ⟨g, g1, g2, rfl⟩ | hy
    · by_cases h9 : mo 0 = 999
      · exact jJ_b hX hY hW (X_blows_s hX.2.1 hX.2.2.1 hW.2.1 hs ⟨g1, g2⟩ h9) (Y_blows_s hY hW.2.1 hs ⟨g1, g2⟩ h9)
      · have h9' : mo 0 < 999 := by have := hW.2.2.1.2; omega
        exact jJ_c hY (jW_n hW (jq_WM_beat hW.2.1 (by omega) (fun _ => hs) g2 hW.2.2.1.1) (by rw [jq_beat_0]; omega)) (X_blows_o hX hW.2.2.2.1.1 hW.2.1 hW.2.2.1.1 hs ⟨g1, g2⟩ h9') (fun m h => Y_blows_o h hW.2.2.2.1.1 hW.2.1 hW.2.2.1.1 hs ⟨g1, g2⟩ h9')
    · exact jJ_b hX hY hW (X_blows_b hX.2.1 hW.2.1 (Or.inr ⟨⟨s, hs, rfl⟩, hy⟩)) (Y_blows_b hY.2.1 hW.2.1 (Or.inr ⟨⟨s, hs, rfl⟩, hy⟩))
  · exact jJ_b hX hY hW (X_blows_b hX.2.1 hW.2.1 (Or.inl hx)) (Y_blows_b hY.2.1 hW.2.1 (Or.inl hx))
theorem J_calms : jJ_op xX4_calms xX5_calms [] := by
  rintro mem lm ⟨tx, K, mo, un, im, hd, tr, hX, hY, hW⟩
  by_cases h9 : K.1 = 0 ∨ mo 0 = 999
  · exact jJ_b hX hY hW (X_calms_s hX.2.1 hX.2.2.1 hW.2.1 h9) (Y_calms_s hY hW.2.1 h9)
  · have h9' : mo 0 < 999 := by have := hW.2.2.1.2; omega
    have h0 : 0 < K.1 := by omega
    exact jJ_c hY (jW_n hW (jq_WM_beat hW.2.1 h0 (fun q => absurd q (by omega)) (by omega) hW.2.2.1.1) (by rw [jq_beat_0]; omega)) (X_calms_o hX hW.2.2.2.1.1 hW.2.1 hW.2.2.1.1 h0 h9') (fun m h => Y_calms_o h hW.2.2.2.1.1 hW.2.1 hW.2.2.1.1 h0 h9')
theorem J_changes (x y : Int32) : jJ_op xX4_changes xX5_changes [.int x, .int y] := by
  rintro mem lm ⟨tx, K, mo, un, im, hd, tr, hX, hY, hW⟩
  rcases jq_rod x hW.2.1.1 with ⟨a, ha, rfl⟩ | hx
  · rcases jq_rod y hW.2.1.1 with ⟨c, hc, rfl⟩ | hy
    · by_cases hac : a = c
      · subst hac
        exact jJ_b hX hY hW (X_changes_b hX.2.1 hW.2.1 (Or.inr (Or.inr ⟨a, ha, rfl, rfl⟩))) (Y_changes_b hY.2.1 hW.2.1 (Or.inr (Or.inr ⟨a, ha, rfl, rfl⟩)))
      · have e0 : jq_ex a c mo 0 = mo 0 := by unfold jq_ex; rw [if_neg (by omega), if_neg (by omega)]
        exact jJ_c hY (jW_n hW (jq_WM_ex hW.2.1.1 ha hc hW.2.2.1.1) (by rw [e0]; exact hW.2.2.1.2)) (X_changes_o hX hW.2.2.2.1.1 hW.2.1 hW.2.2.1.1 ha hc hac) (fun m h => Y_changes_o h hW.2.2.2.1.1 hW.2.1 hW.2.2.1.1 ha hc hac)
    · exact jJ_b hX hY hW (X_changes_b hX.2.1 hW.2.1 (Or.inr (Or.inl ⟨⟨a, ha, rfl⟩, hy⟩))) (Y_changes_b hY.2.1 hW.2.1 (Or.inr (Or.inl ⟨⟨a, ha, rfl⟩, hy⟩)))
  · exact jJ_b hX hY hW (X_changes_b hX.2.1 hW.2.1 (Or.inl hx)) (Y_changes_b hY.2.1 hW.2.1 (Or.inl hx))
theorem J_holds (x : Int32) : jJ_op xX4_holds xX5_holds [.int x] := by
  rintro mem lm ⟨tx, K, mo, un, im, hd, tr, hX, hY, hW⟩
  rcases jq_rod x hW.2.1.1 with ⟨r, hr, rfl⟩ | hx
  · by_cases hz : mo (11 + r) = 0
    · exact jJ_b hX hY hW (X_holds_s hX.2.1 hX.2.2.1 hW.2.1 hr hz) (Y_holds_s hY hW.2.1 hr hz)
    · have e0 : jq_hold r mo 0 = mo 0 := by unfold jq_hold; rw [if_neg (by omega)]
      exact jJ_c hY (jW_n hW (jq_WM_hold hW.2.1.1 hW.2.2.1.1) (by rw [e0]; exact hW.2.2.1.2)) (X_holds_o hX hW.2.2.2.1.1 hW.2.1 hW.2.2.1.1 hr hz) (fun m h => Y_holds_o h hW.2.2.2.1.1 hW.2.1 hW.2.2.1.1 hr hz)
  · exact jJ_b hX hY hW (X_holds_b hX.2.1 hx) (Y_holds_b hY.2.1 hW.2.1 hx)
theorem J_undo : jJ_op xX4_undo xX5_undo [] := by
  rintro mem lm ⟨tx, K, mo, un, im, hd, tr, hX, hY, hW⟩
  cases un with
  | nil => exact jJ_b hX hY hW (X_undo_s hX.2.2.2.1 rfl) (Y_undo_s hY.2.2.2.1 rfl)
  | cons m0 un =>
    have hl : un.length < 10 := by have := hW.2.2.2.1.1; rw [List.length_cons] at this; omega
    exact jJ_c hY ⟨hW.1, hW.2.1, hW.2.2.2.1.2 m0 List.mem_cons_self, ⟨by omega, fun m hm => hW.2.2.2.1.2 m (List.mem_cons_of_mem _ hm)⟩, hW.2.2.2.2⟩ (X_undo_o hX hl) (fun m h => Y_undo_o h hl)
end JJ

section JJ
variable {mem : jl_M} {lm : jl_L} {tx : jq_X} {K : jq_K} {mo : jq_M} {un : List jq_M} {im : Nat → Option jq_M} {hd : jq_H} {tr : Int64}
theorem J_comes (x y : Int32) : jJ_op xX4_comes xX5_comes [.int x, .int y] := by
  rintro mem lm ⟨tx, K, mo, un, im, hd, tr, hX, hY, hW⟩
  rcases jq_rng x (a := 0) (b := 20) (by omega) (by omega) with ⟨n, _, hn, rfl⟩ | hx
  · rcases jq_rng y (a := 0) (b := 1) (by omega) (by omega) with ⟨w, _, hw, rfl⟩ | hy
    · exact jJ_v jl_co_sc hX hY hW (X_comes_o hX hW.2.1 hW.2.2.1.1 hn hw) (fun m h => Y_comes_o h hW.2.1 hW.2.2.1.1 hn hw)
    · exact jJ_b hX hY hW (X_comes_b (Or.inr ⟨⟨n, hn, rfl⟩, hy⟩)) (Y_comes_b (Or.inr ⟨⟨n, hn, rfl⟩, hy⟩))
  · exact jJ_b hX hY hW (X_comes_b (Or.inl hx)) (Y_comes_b (Or.inl hx))
theorem J_best (x y : Int32) : jJ_op xX4_best xX5_best [.int x, .int y] := by
  rintro mem lm ⟨tx, K, mo, un, im, hd, tr, hX, hY, hW⟩
  rcases jq_rng x (a := 0) (b := 20) (by omega) (by omega) with ⟨n, _, hn, rfl⟩ | hx
  · rcases jq_rng y (a := 0) (b := 1) (by omega) (by omega) with ⟨w, _, hw, rfl⟩ | hy
    · exact jJ_v jl_co_sc hX hY hW (X_best_o hX hW.2.1 hW.2.2.1.1 hn hw) (fun m h => Y_best_o h hW.2.1 hW.2.2.1.1 hn hw)
    · exact jJ_b hX hY hW (X_best_b (Or.inr ⟨⟨n, hn, rfl⟩, hy⟩)) (Y_best_b (Or.inr ⟨⟨n, hn, rfl⟩, hy⟩))
  · exact jJ_b hX hY hW (X_best_b (Or.inl hx)) (Y_best_b (Or.inl hx))
theorem J_swap (x y z : Int32) : jJ_op xX4_swap xX5_swap [.int x, .int y, .int z] := by
  rintro mem lm ⟨tx, K, mo, un, im, hd, tr, hX, hY, hW⟩
  have bad : _ → _ := fun h => jJ_b (v := -1) hX hY hW (X_swap_b (x := x) (y := y) (z := z) hX.2.1 hW.2.1 h) (Y_swap_b hY.2.1 hW.2.1 h)
  rcases jq_rod x hW.2.1.1 with ⟨r, hr, rfl⟩ | hx
  · rcases jq_rng y (a := 1) (b := 9) (by omega) (by omega) with ⟨g, g1, g2, rfl⟩ | hy
    · rcases jq_rng z (a := 0) (b := 20) (by omega) (by omega) with ⟨n, _, hn, rfl⟩ | hz
      · obtain ⟨m1, e1, f1⟩ := X_swap_o (lm := lm) hX hW.2.1 hW.2.2.1.1 hr ⟨g1, g2⟩ hn
        have F1 : jl_F jl_sc mem m1 := fun k hk => f1 k (fun q => hk (jl_co_sc k q))
        have Y1 := hY.hi (fun k hk => F1 k (by omega))
        obtain ⟨m2, e2, Y2, f2⟩ := Y_swap_o (lm := lm) Y1 hW.2.1 hW.2.2.1.1 hr ⟨g1, g2⟩ hn
        exact ⟨_, m1, lm, m2, lm, e1, e2, tx, K, mo, un, im, hd, tr, (hX.keep F1).lo f2, Y2, hW⟩
      · exact bad (Or.inr (Or.inr ⟨⟨r, hr, rfl⟩, ⟨g, g1, g2, rfl⟩, hz⟩))
    · exact bad (Or.inr (Or.inl ⟨⟨r, hr, rfl⟩, hy⟩))
  · exact bad (Or.inl hx)
theorem J_odds (x y z u : Int32) : jJ_op xX4_odds xX5_odds [.int x, .int y, .int z, .int u] := by
  rintro mem lm ⟨tx, K, mo, un, im, hd, tr, hX, hY, hW⟩
  have bad : _ → _ := fun h => jJ_b (v := -1) hX hY hW (X_odds_b (x := x) (y := y) (z := z) (u := u) hX.2.1 hW.2.1 h) (Y_odds_b hY.2.1 hW.2.1 h)
  rcases jq_rng x (a := 1) (b := 9) (by omega) (by omega) with ⟨g, g1, g2, rfl⟩ | hx
  · rcases jq_rng y (a := 0) (b := 20) (by omega) (by omega) with ⟨n, _, hn, rfl⟩ | hy
    · rcases jq_rod z hW.2.1.1 with ⟨r, hr, rfl⟩ | hz
      · rcases jq_rng u (a := 0) (b := 1) (by omega) (by omega) with ⟨w, _, hw, rfl⟩ | hu
        · exact jJ_v jl_co_sc hX hY hW (X_odds_o hX hW.2.1 hW.2.2.1.1 ⟨g1, g2⟩ hn hr hw) (fun m h => Y_odds_o h hW.2.1 hW.2.2.1.1 ⟨g1, g2⟩ hn hr hw)
        · exact bad (Or.inr (Or.inr (Or.inr ⟨⟨g, g1, g2, rfl⟩, ⟨n, hn, rfl⟩, ⟨r, hr, rfl⟩, hu⟩)))
      · exact bad (Or.inr (Or.inr (Or.inl ⟨⟨g, g1, g2, rfl⟩, ⟨n, hn, rfl⟩, hz⟩)))
    · exact bad (Or.inr (Or.inl ⟨⟨g, g1, g2, rfl⟩, hy⟩))
  · exact bad (Or.inl hx)
theorem J_hears (x y z : Int32) : jJ_op xX4_hears xX5_hears [.int x, .int y, .int z] := by
  rintro mem lm ⟨tx, K, mo, un, im, hd, tr, hX, hY, hW⟩
  have bad : _ → _ := fun h => jJ_b (v := -1) hX hY hW (X_hears_b (x := x) (y := y) (z := z) hX.2.1 hW.2.1 h) (Y_hears_b hY.2.1 hW.2.1 h)
  rcases jq_rod x hW.2.1.1 with ⟨r, hr, rfl⟩ | hx
  · rcases jq_rng y (a := 0) (b := 20) (by omega) (by omega) with ⟨n, _, hn, rfl⟩ | hy
    · rcases jq_rng z (a := 0) (b := 1) (by omega) (by omega) with ⟨w, _, hw, rfl⟩ | hz
      · obtain ⟨h6, hh⟩ := hW.2.2.2.2.2
        by_cases h66 : hd.1 = 6
        · exact jJ_b hX hY hW (X_hears_f hX hW.2.1 hr hn hw h66) (Y_hears_f hY hW.2.1 hr hn hw h66)
        · have hlt : hd.1 < 6 := by omega
          refine jJ_c hY ⟨hW.1, hW.2.1, hW.2.2.1, hW.2.2.2.1, hW.2.2.2.2.1, ⟨?_, fun i hi => ?_⟩⟩ (X_hears_o hX hW.2.1 hr hn hw hlt) (fun m h => Y_hears_o h hW.2.1 hr hn hw hlt)
          · show hd.1 + 1 ≤ 6; omega
          · have hi : i < hd.1 + 1 := hi
            show (if i = hd.1 then r else hd.2.1 i) < K.1 ∧ (if i = hd.1 then n else hd.2.2.1 i) ≤ 20 ∧ (if i = hd.1 then w else hd.2.2.2 i) ≤ 1
            by_cases e : i = hd.1
            · rw [if_pos e, if_pos e, if_pos e]
              exact ⟨hr, hn, hw⟩
            · rw [if_neg e, if_neg e, if_neg e]
              exact hh i (by omega)
      · exact bad (Or.inr (Or.inr ⟨⟨r, hr, rfl⟩, ⟨n, hn, rfl⟩, hz⟩))
    · exact bad (Or.inr (Or.inl ⟨⟨r, hr, rfl⟩, hy⟩))
  · exact bad (Or.inl hx)
theorem J_forget : jJ_op xX4_forget xX5_forget [] := by
  rintro mem lm ⟨tx, K, mo, un, im, hd, tr, hX, hY, hW⟩
  exact jJ_c hY ⟨hW.1, hW.2.1, hW.2.2.1, hW.2.2.2.1, hW.2.2.2.2.1, ⟨by show 0 ≤ 6; omega, fun i hi => absurd hi (Nat.not_lt_zero _)⟩⟩ (X_forget hX) (fun m h => Y_forget h)
theorem J_gusts (x : Int32) : jJ_op xX4_gusts xX5_gusts [.int x] := by
  rintro mem lm ⟨tx, K, mo, un, im, hd, tr, hX, hY, hW⟩
  rcases jq_rng x (a := 0) (b := 1) (by omega) (by omega) with ⟨w, _, hw, rfl⟩ | hx
  · exact jJ_v jl_co_sc hX hY hW (X_gusts_o hX hW.2.1 hW.2.2.1.1 hW.2.2.2.2.2 hw) (fun m h => Y_gusts_o h hW.2.1 hW.2.2.1.1 hW.2.2.2.2.2 hw)
  · exact jJ_b hX hY hW (X_gusts_b hx) (Y_gusts_b hx)
theorem J_listen (x : Int32) : jJ_op xX4_listen xX5_listen [.int x] := by
  rintro mem lm ⟨tx, K, mo, un, im, hd, tr, hX, hY, hW⟩
  rcases jq_rng x (a := 0) (b := 20) (by omega) (by omega) with ⟨n, _, hn, rfl⟩ | hx
  · exact jJ_v jl_ls_sc hX hY hW (X_listen_o hX hW.2.1 hW.2.2.1.1 hW.2.2.2.2.2 hn) (fun m h => Y_listen_o h hW.2.1 hW.2.2.1.1 hW.2.2.2.2.2 hn)
  · exact jJ_b hX hY hW (X_listen_b hx) (Y_listen_b hx)
theorem J_rate (x y : Int32) : jJ_op xX4_rate xX5_rate [.int x, .int y] := by
  rintro mem lm ⟨tx, K, mo, un, im, hd, tr, hX, hY, hW⟩
  rcases jq_rod y hW.2.1.1 with ⟨r, hr, rfl⟩ | hy
  · rcases jq_rng x (a := 0) (b := 5) (by omega) (by omega) with ⟨w, _, hw, rfl⟩ | hx
    · obtain ⟨l1, e1, c1, c2⟩ := X_rate_o (lm := lm) hX hW.2.1 hr hw
      have X1 : jX mem l1 tx K mo un im hd (tr + jq_tr w) := ⟨hX.1, hX.2.1, hX.2.2.1, hX.2.2.2.1, hX.2.2.2.2.1, hX.2.2.2.2.2.1, c1⟩
      have Y1 : jY mem l1 tx K mo un im hd tr := ⟨hY.1, hY.2.1, hY.2.2.1, hY.2.2.2.1, hY.2.2.2.2.1, hY.2.2.2.2.2.1, by rw [c2]; exact hY.2.2.2.2.2.2⟩
      have e2 := Y_rate_o Y1 hW.2.1 hr hw
      have Y2 := Y1.V (jl_V.t (x := nI 0))
      have X2 := X1.lo (jl_V.t (m := mem) (x := nI 0)).lo
      exact ⟨_, mem, l1, _, _, e1, e2, tx, K, mo, un, im, hd, tr + jq_tr w, ⟨X2.1, X2.2.1, X2.2.2.1, X2.2.2.2.1, X2.2.2.2.2.1, X2.2.2.2.2.2.1, by rw [jls_ne (by omega)]; exact c1⟩, ⟨Y2.1, Y2.2.1, Y2.2.2.1, Y2.2.2.2.1, Y2.2.2.2.2.1, Y2.2.2.2.2.2.1, jls_hit⟩, hW⟩
    · exact jJ_b hX hY hW (X_rate_b hX.2.1 hW.2.1 (Or.inr ⟨⟨r, hr, rfl⟩, hx⟩)) (Y_rate_b hY.2.1 hW.2.1 (Or.inr ⟨⟨r, hr, rfl⟩, hx⟩))
  · exact jJ_b hX hY hW (X_rate_b hX.2.1 hW.2.1 (Or.inl hy)) (Y_rate_b hY.2.1 hW.2.1 (Or.inl hy))
theorem J_keep (x : Int32) : jJ_op xX4_keep xX5_keep [.int x] := by
  rintro mem lm ⟨tx, K, mo, un, im, hd, tr, hX, hY, hW⟩
  rcases jq_rng x (a := 0) (b := 1) (by omega) (by omega) with ⟨i, _, hi, rfl⟩ | hx
  · refine jJ_c hY ⟨hW.1, hW.2.1, hW.2.2.1, hW.2.2.2.1, fun j m hj hm => ?_, hW.2.2.2.2.2⟩ (X_keep_o hX hi) (fun m h => Y_keep_o h hi)
    have hm : (if j = i then some mo else im j) = some m := hm
    by_cases e : j = i
    · rw [if_pos e] at hm
      cases hm
      exact hW.2.2.1
    · rw [if_neg e] at hm
      exact hW.2.2.2.2.1 j m hj hm
  · exact jJ_b hX hY hW (X_keep_b hx) (Y_keep_b hx)
theorem J_back (x : Int32) : jJ_op xX4_back xX5_back [.int x] := by
  rintro mem lm ⟨tx, K, mo, un, im, hd, tr, hX, hY, hW⟩
  rcases jq_rng x (a := 0) (b := 1) (by omega) (by omega) with ⟨i, _, hi, rfl⟩ | hx
  · cases hm : im i with
    | none => exact jJ_b hX hY hW (X_back_s hX hi hm) (Y_back_s hY hi hm)
    | some m => exact jJ_c hY ⟨hW.1, hW.2.1, hW.2.2.2.2.1 i m (by omega) hm, ⟨by show 0 ≤ 10; omega, fun m hm => (by cases hm)⟩, hW.2.2.2.2.1, hW.2.2.2.2.2⟩ (X_back_o hX hi hm) (fun m h => Y_back_o h hi hm)
  · exact jJ_b hX hY hW (X_back_b hx) (Y_back_b hx)
theorem J_count (x : Int32) : jJ_op xX4_count xX5_count [.int x] := by
  rintro mem lm ⟨tx, K, mo, un, im, hd, tr, hX, hY, hW⟩
  rcases jq_rng x (a := 0) (b := 3) (by omega) (by omega) with ⟨w, _, hw, rfl⟩ | hx
  · exact jJ_b hX hY hW (X_count_o hX hw) (Y_count_o hY hw)
  · exact jJ_b hX hY hW (X_count_b hx) (Y_count_b hx)
theorem J_trace (h : jJ mem lm) : ∃ v, xX4_trace [.ref 0] (jl_w mem lm) = some (some (.long v), jl_w mem lm) ∧ xX5_trace [.ref 62] (jl_w mem lm) = some (some (.long v), jl_w (jl_s mem 62 0 (nI 0)) lm) ∧ jJ (jl_s mem 62 0 (nI 0)) lm := by
  obtain ⟨tx, K, mo, un, im, hd, tr, hX, hY, hW⟩ := h
  exact ⟨tr, X_trace hX, Y_trace hY, tx, K, mo, un, im, hd, tr, hX.lo jl_V.t.lo, hY.V jl_V.t, hW⟩
end JJ

/-! ===== what comes: a moment, the rods struck so far (bits), how harsh it got ===== -/
abbrev jq_S : Type := jq_M × Nat × Nat
def jq_bt (o : Option Nat) : Nat := match o with
  | none => 0
  | some r => 1 <<< r
def jq_go (K : jq_K) : Nat → jq_S → jq_S
  | 0, s => s
  | i + 1, s => (jq_beat K 0 0 (jq_go K i s).1, (jq_go K i s).2.1 ||| jq_bt (jq_bw K 0 0 (jq_go K i s).1), max (jq_go K i s).2.2 (jq_h K (jq_beat K 0 0 (jq_go K i s).1)))
def jq_g0 (K : jq_K) (s g : Nat) (mo : jq_M) : jq_S := (jq_beat K s g mo, jq_bt (jq_bw K s g mo), jq_h K (jq_beat K s g mo))
theorem jq_bw_lt {K : jq_K} {s g r : Nat} {mo : jq_M} (hk : jq_WK K) (h0 : 0 < K.1) (hs : 0 < g → s < K.1) (hg : g ≤ 9) (h : jq_WM K.1 mo) (hr : jq_bw K s g mo = some r) : r < K.1 := by
  have w := jq_WM_move hk.1 h0 hs hg (jq_WM_fade hk.1 h)
  unfold jq_bw jq_who at hr
  split at hr
  · cases hr
    exact (jq_at_ok w (w.2.2.1 h0)).1
  · cases hr
theorem jq_bt_lt {K : jq_K} {o : Option Nat} (h8 : K.1 ≤ 8) (h : ∀ r, o = some r → r < K.1) : jq_bt o < 256 := by
  cases o with
  | none => decide
  | some r =>
    have hr := h r rfl
    have h1 : ∀ r, r < 8 → 1 <<< r < 256 := by decide
    exact h1 r (by omega)
theorem jq_or256 {a b : Nat} (ha : a < 256) (hb : b < 256) : a ||| b < 256 := Nat.or_lt_two_pow (n := 8) ha hb
/-- what stays true on the way -/
def jq_WS (K : jq_K) (s : jq_S) : Prop := jq_WM K.1 s.1 ∧ s.2.1 < 256 ∧ s.2.2 ≤ 64 ∧ jq_h K s.1 ≤ s.2.2
theorem jq_WS_g0 {K : jq_K} {s g : Nat} {mo : jq_M} (hk : jq_WK K) (hs : s < K.1) (hg : g ≤ 9) (h : jq_WM K.1 mo) : jq_WS K (jq_g0 K s g mo) :=
  ⟨jq_WM_beat hk (by omega) (fun _ => hs) hg h, jq_bt_lt hk.1 (fun r hr => jq_bw_lt hk (by omega) (fun _ => hs) hg h hr), jq_h_le hk.1, Nat.le_refl _⟩
theorem jq_WS_go {K : jq_K} {s : jq_S} (hk : jq_WK K) (h0 : 0 < K.1) (h : jq_WS K s) : ∀ i, jq_WS K (jq_go K i s)
  | 0 => h
  | i + 1 => by
    obtain ⟨a1, a2, a3, a4⟩ := jq_WS_go hk h0 h i
    refine ⟨jq_WM_beat hk h0 (fun q => absurd q (by omega)) (by omega) a1, jq_or256 a2 (jq_bt_lt hk.1 (fun r hr => jq_bw_lt hk h0 (fun q => absurd q (by omega)) (by omega) a1 hr)), ?_, ?_⟩
    · show max _ _ ≤ 64
      exact Nat.max_le.mpr ⟨a3, jq_h_le hk.1⟩
    · exact Nat.le_max_right _ _
/-- where the clapper is at rest no rod is struck any more, and it gets no harsher -/
theorem jq_rest {K : jq_K} {mo : jq_M} (hk : jq_WK K) (h0 : 0 < K.1) (h : jq_WM K.1 mo) (hf : mo 2 = 0) : jq_bw K 0 0 mo = none ∧ jq_beat K 0 0 mo 2 = 0 ∧ jq_h K (jq_beat K 0 0 mo) ≤ jq_h K mo := by
  have hmv : jq_move K 0 0 (jq_fade K.1 mo) = jq_swing K (jq_fade K.1 mo) := by unfold jq_move; rw [if_neg (by omega)]
  have w := jq_WM_swing hk.1 h0 (jq_WM_fade hk.1 h)
  have hq := (hk.2.2 _ (jq_at_ok w (w.2.2.1 h0)).1).2.1.1
  have h2 : jq_swing K (jq_fade K.1 mo) 2 = 0 := by
    show jq_fade K.1 mo 2 - K.2.1 = 0
    rw [jq_fade_lo (by omega) (by omega), hf]
    omega
  have hh : jq_hit K (jq_swing K (jq_fade K.1 mo)) = false := by
    unfold jq_hit
    rw [h2]
    exact Bool.eq_false_iff.mpr (fun q => by have := Nat.le_of_ble_eq_true q; omega)
  have hst : jq_beat K 0 0 mo = jq_swing K (jq_fade K.1 mo) := by
    unfold jq_beat jq_strike
    rw [hmv, hh]
    rfl
  refine ⟨?_, by rw [hst]; exact h2, ?_⟩
  · unfold jq_bw jq_who
    rw [hmv, hh]
    rfl
  · rw [hst]
    have hrg : ∀ r, jq_swing K (jq_fade K.1 mo) (11 + r) ≤ mo (11 + r) := fun r => by
      show (if 11 + r = 1 then _ else if 11 + r = 2 then _ else jq_fade K.1 mo (11 + r)) ≤ _
      rw [if_neg (by omega), if_neg (by omega), jq_fade_rg]
      split <;> omega
    refine jq_sum_le (fun a => jq_sum_le (fun b => ?_) K.1) K.1
    unfold jq_pr
    have ha := hrg a
    have hb := hrg b
    by_cases hc : a < b ∧ 0 < jq_swing K (jq_fade K.1 mo) (11 + a) ∧ 0 < jq_swing K (jq_fade K.1 mo) (11 + b) ∧ jq_cl (K.2.2.1 a) (K.2.2.1 b) = true
    · rw [if_pos hc, if_pos ⟨hc.1, by omega, by omega, hc.2.2.2⟩]
      exact Nat.le_refl _
    · rw [if_neg hc]
      exact Nat.zero_le _
theorem jq_rest_go {K : jq_K} {s : jq_S} (hk : jq_WK K) (h0 : 0 < K.1) (h : jq_WS K s) {i : Nat} (hf : (jq_go K i s).1 2 = 0) : ∀ k, (jq_go K (i + k) s).1 2 = 0 ∧ (jq_go K (i + k) s).2.1 = (jq_go K i s).2.1 ∧ (jq_go K (i + k) s).2.2 = (jq_go K i s).2.2
  | 0 => ⟨hf, rfl, rfl⟩
  | k + 1 => by
    obtain ⟨b1, b2, b3⟩ := jq_rest_go hk h0 h hf k
    obtain ⟨a1, a2, a3, a4⟩ := jq_WS_go hk h0 h (i + k)
    obtain ⟨c1, c2, c3⟩ := jq_rest hk h0 a1 b1
    have e : jq_go K (i + (k + 1)) s = (jq_beat K 0 0 (jq_go K (i + k) s).1, (jq_go K (i + k) s).2.1 ||| jq_bt (jq_bw K 0 0 (jq_go K (i + k) s).1), max (jq_go K (i + k) s).2.2 (jq_h K (jq_beat K 0 0 (jq_go K (i + k) s).1))) := rfl
    rw [e]
    refine ⟨c2, ?_, ?_⟩
    · show (jq_go K (i + k) s).2.1 ||| jq_bt (jq_bw K 0 0 (jq_go K (i + k) s).1) = _
      rw [c1, b2]
      exact Nat.or_zero _
    · show max (jq_go K (i + k) s).2.2 (jq_h K (jq_beat K 0 0 (jq_go K (i + k) s).1)) = _
      rw [← b3]
      exact Nat.max_eq_left (by omega)
/-- what the Course's cells hold: the beats gone by, the bits, how harsh; for a struck rod when it was struck first -/
def jx_F (mem : jl_M) (mk : Nat → Nat) (i : Nat) : Prop := ∀ r, r < 8 → (mk i).testBit r = true → ∃ f, f ≤ i ∧ mem 15 r = nI f ∧ ∀ j, j ≤ i → ((mk j).testBit r = true ↔ f ≤ j)
theorem jq_tst {m r : Nat} (hm : m < 256) (hr : r < 8) : (nI m &&& (nI 1 <<< (nI r &&& 31)) = 0) ↔ m.testBit r = false := by
  have h : ∀ m, m < 256 → ∀ r, r < 8 → ((nI m &&& (nI 1 <<< (nI r &&& 31)) = 0) ↔ m.testBit r = false) := by decide +kernel
  exact h m hm r hr
theorem jm_hasStruck {m r : Nat} {mem : jl_M} {lm : jl_L} (h : mem 14 2 = nI m) (hm : m < 256) (hr : r < 8) : xX0_hasStruck [.ref 14, .int (nI r)] (jl_w mem lm) = some (some (.int (nI (if m.testBit r = true then 1 else 0))), jl_w mem lm) := by
  have e := jq_tst hm hr
  by_cases hb : m.testBit r = true
  · have e2 : ¬ (nI m &&& (nI 1 <<< (nI r &&& 31)) = 0) := by rw [e, hb]; decide
    rw [if_pos hb]
    simp only [eX0_hasStruck, eX0_hasStruck_0, eX0_hasStruck_1, eX0_hasStruck_4, eX0_hasStruck_5, eX0_hasStruck_6, eX0_hasStruck_7, eX0_hasStruck_8, eX0_hasStruck_11, eX0_hasStruck_12, eX0_hasStruck_15, eX0_hasStruck_16_0, eX0_hasStruck_16_1, h, e2, if_false]
  · have hb' : m.testBit r = false := by simpa using hb
    have e2 : (nI m &&& (nI 1 <<< (nI r &&& 31)) = 0) := e.mpr hb'
    rw [if_neg hb]
    simp only [eX0_hasStruck, eX0_hasStruck_0, eX0_hasStruck_1, eX0_hasStruck_4, eX0_hasStruck_5, eX0_hasStruck_6, eX0_hasStruck_7, eX0_hasStruck_8, eX0_hasStruck_11, eX0_hasStruck_12, eX0_hasStruck_15, eX0_hasStruck_16_0, eX0_hasStruck_16_1, h, e2, if_true]
theorem jq_mx {a b : Nat} (ha : a ≤ 64) (hb : b ≤ 64) : (if nI a < nI b then nI b else nI a) = nI (max a b) := by
  have e := nI_ltI (a := a) (b := b) (by omega) (by omega)
  by_cases h : a < b
  · rw [if_pos (e.mpr h), Nat.max_eq_right (by omega)]
  · rw [if_neg (fun q => h (e.mp q)), Nat.max_eq_left (by omega)]
theorem jm_note {K : jq_K} {mo : jq_M} {o : Option Nat} {i m h : Nat} {mem : jl_M} {lm : jl_L} (hK : jx_K mem K) (hM : jx_M mem 16 mo) (hk : jq_WK K) (hw : jq_WM K.1 mo) (ho : ∀ r, o = some r → r < K.1) (h1 : mem 14 1 = nI i) (h2 : mem 14 2 = nI m) (h3 : mem 14 3 = nI h) (hm : m < 256) (hh : h ≤ 64) :
    ∃ mem', xX0_note [.ref 14, .int (jq_an o)] (jl_w mem lm) = some (none, jl_w mem' lm) ∧ mem' 14 1 = nI i ∧ mem' 14 2 = nI (m ||| jq_bt o) ∧ mem' 14 3 = nI (max h (jq_h K mo)) ∧ (∀ r, r < 8 → mem' 15 r = if o = some r ∧ m.testBit r = false then nI i else mem 15 r) ∧ jl_F (fun k => k = 14 ∨ k = 15) mem mem' := by
  have h8 := hk.1
  have hb : jl_K 16 = 4 := rfl
  have hhl := jq_h_le (mo := mo) hk.1
  have e1 : ¬ nI 1 = 0 := by decide
  have e0 : nI 0 = 0 := rfl
  have tail : ∀ (mem1 : jl_M), jl_F (fun k => k = 14 ∨ k = 15) mem mem1 → mem1 14 3 = nI h → ∀ x, jr_ev pX0_note 44 [.ref 14, .int x] [] (jl_w mem1 lm) = some (none, jl_w (jl_s mem1 14 3 (nI (max h (jq_h K mo)))) lm) := by
    intro mem1 f1 q3 x
    have K1 := hK.frame f1 (fun k hk => by omega)
    have M1 := hM.keep (f1 16 (by omega)) (f1 17 (by omega)) (f1 18 (by omega))
    have hhs := jm_harsh (lm := lm) hb K1 M1 hk hw
    simp only [eX0_note_44, eX0_note_45, eX0_note_46, eX0_note_49, eX0_note_50, q3]
    rw [eX0_note_53 hhs]
    simp only [eX0_note_56, eX0_note_59, eX0_note_62, jq_mx hh hhl]
  cases o with
  | none =>
    have hhas := jm_hasn (lm := lm) (x := -9) hK.1 (Or.inl (by decide))
    refine ⟨jl_s mem 14 3 (nI (max h (jq_h K mo))), ?_, ?_, ?_, ?_, fun r hr => ?_, fun k hk => by rw [js_ne (by omega)]⟩
    · simp only [eX0_note, eX0_note_0, eX0_note_1, eX0_note_4, eX0_note_7, jq_an]
      rw [eX0_note_8 hhas]
      simp only [eX0_note_11, e0, if_true]
      rw [tail mem (fun _ _ => rfl) h3]
    · rw [js_mj (by omega), h1]
    · rw [js_mj (by omega), h2]; rw [show jq_bt none = 0 from rfl, Nat.or_zero]
    · rw [js_hit]
    · rw [js_mk (by omega), if_neg (by simp)]
  | some r =>
    have hr := ho r rfl
    have hhas := jm_has (lm := lm) hK.1 h8 hr
    have hstr := jm_hasStruck (lm := lm) (r := r) h2 hm (by omega)
    by_cases hb' : m.testBit r = true
    · have hor : m ||| 1 <<< r = m := by
        have hx : ∀ m, m < 256 → ∀ r, r < 8 → m.testBit r = true → m ||| 1 <<< r = m := by decide +kernel
        exact hx m hm r (by omega) hb'
      rw [if_pos hb'] at hstr
      refine ⟨jl_s mem 14 3 (nI (max h (jq_h K mo))), ?_, ?_, ?_, ?_, fun q hq => ?_, fun k hk => by rw [js_ne (by omega)]⟩
      · simp only [eX0_note, eX0_note_0, eX0_note_1, eX0_note_4, eX0_note_7, jq_an]
        rw [eX0_note_8 hhas]
        simp only [eX0_note_11, eX0_note_14, eX0_note_15, e1, if_false]
        rw [eX0_note_16 hstr]
        simp only [eX0_note_19, e1, if_false]
        rw [tail mem (fun _ _ => rfl) h3]
      · rw [js_mj (by omega), h1]
      · rw [js_mj (by omega), h2]; rw [show jq_bt (some r) = 1 <<< r from rfl, hor]
      · rw [js_hit]
      · rw [js_mk (by omega), if_neg]
        rintro ⟨q1, q2⟩
        cases q1
        rw [hb'] at q2
        cases q2
    · have hbf : m.testBit r = false := by simpa using hb'
      rw [if_neg hb'] at hstr
      have f1 : jl_F (fun k => k = 14 ∨ k = 15) mem (jl_s (jl_s mem 14 2 (nI (m ||| 1 <<< r))) 15 r (nI i)) := fun k hk => by rw [js_ne (by omega), js_ne (by omega)]
      refine ⟨jl_s (jl_s (jl_s mem 14 2 (nI (m ||| 1 <<< r))) 15 r (nI i)) 14 3 (nI (max h (jq_h K mo))), ?_, ?_, ?_, ?_, fun q hq => ?_, fun k hk => by rw [js_ne (by omega), f1 k hk]⟩
      · have q1 : ∀ x, jl_s mem 14 2 x 14 1 = nI i := fun x => by rw [js_mj (by omega), h1]
        simp only [eX0_note, eX0_note_0, eX0_note_1, eX0_note_4, eX0_note_7, jq_an]
        rw [eX0_note_8 hhas]
        simp only [eX0_note_11, eX0_note_14, eX0_note_15, e1, if_false]
        rw [eX0_note_16 hstr]
        have hr8 : r < 8 := by omega
        simp (disch := first | assumption | omega) only [eX0_note_19, eX0_note_22, eX0_note_23, eX0_note_24, eX0_note_27, eX0_note_28, eX0_note_29, eX0_note_30, eX0_note_31, eX0_note_34, eX0_note_35, eX0_note_38, eX0_note_39, eX0_note_40, eX0_note_43, e0, if_true, h2, jq_or hm hr8, q1]
        rw [tail _ f1 (by rw [js_mk (by omega), js_mj (by omega), h3])]
      · rw [js_mj (by omega), js_mk (by omega), js_mj (by omega), h1]
      · rw [js_mj (by omega), js_mk (by omega), js_hit]; rfl
      · rw [js_hit]
      · rw [js_mk (by omega)]
        by_cases e : q = r
        · subst e
          rw [js_hit, if_pos ⟨rfl, hbf⟩]
        · rw [js_mj e, js_mk (by omega), if_neg]
          rintro ⟨q1, -⟩
          cases q1
          exact e rfl

/-- the start of a search doesn't matter once it is above all -/
theorem jq_fl_b {all : Nat} {t : Nat → Nat} {b c : Nat} (ht : ∀ r, t r ≤ all) (hb : all < b) (hc : all < c) : ∀ n, (jq_fr (jq_fl all t) ((-9 : Int32), b) 0 n).1 = (jq_fr (jq_fl all t) (-9, c) 0 n).1 ∧ (0 < n → jq_fr (jq_fl all t) ((-9 : Int32), b) 0 n = jq_fr (jq_fl all t) (-9, c) 0 n)
  | 0 => ⟨rfl, fun h => absurd h (by omega)⟩
  | n + 1 => by
    have key : jq_fr (jq_fl all t) ((-9 : Int32), b) 0 (n + 1) = jq_fr (jq_fl all t) (-9, c) 0 (n + 1) := by
      show jq_fl all t (jq_fr (jq_fl all t) (-9, b) 0 n) (0 + n) = jq_fl all t (jq_fr (jq_fl all t) (-9, c) 0 n) (0 + n)
      rcases Nat.eq_zero_or_pos n with h | h
      · subst h
        have hm : max (t (0 + 0)) (all - t (0 + 0)) ≤ all := Nat.max_le.mpr ⟨ht _, by omega⟩
        show (if _ < b then _ else _) = (if _ < c then _ else _)
        rw [if_pos (by omega), if_pos (by omega)]
      · rw [(jq_fl_b ht hb hc n).2 h]
    exact ⟨by rw [key], fun _ => key⟩
section YM
variable {mem : jl_M} {lm : jl_L} {tx : jq_X} {K : jq_K} {mo : jq_M} {un : List jq_M} {im : Nat → Option jq_M} {hd : jq_H} {tr : Int64}
theorem Y_listen_b {x : Int32} (h : x < nI 0 ∨ nI 20 < x) : xX5_listen [.ref 62, .int x] (jl_w mem lm) = some (some (.int (-1)), jl_w (jl_s mem 62 0 (nI 0)) lm) := by
  simp only [eX5_listen, eX5_listen_0, eX5_listen_1, eX5_listen_2, eX5_listen_5, eX5_listen_6, eX5_listen_7]
  rw [eX5_listen_9 (Y_inn h)]
  simp only [eX5_listen_12, eX5_listen_15, eX5_listen_16, je0, if_true]
theorem Y_add {g n S : Nat} {t : Nat → Nat} {a1 a2 v5 v6 : Value} {i : Nat} (hn : mem 62 9 = nI n) (h8 : n ≤ 8) (hS : S < 256) (h27 : mem 62 27 = nI S) (ht : ∀ r, r < 8 → mem 75 r = nI (t r)) : ∃ mem', jr_ev pX5_listen 77 [.ref 62, a1, a2, .int (nI g), .int (nI i), v5, v6] [] (jl_w mem lm) = jr_ev pX5_listen 114 [.ref 62, a1, a2, .int (nI g), .int (nI n), v5, v6] [] (jl_w mem' lm) ∧ (∀ r, r < 8 → mem' 75 r = nI (if r < n then t r + (if S.testBit r = true then 1 else 0) else t r)) ∧ jl_F (fun k => k = 75) mem mem' := by
  obtain ⟨ls', m1, hI, he⟩ := jr_loop (P := pX5_listen) (pc := 80) (lm := lm) (fun q ls m => ls = [.ref 62, a1, a2, .int (nI g), .int (nI q), v5, v6] ∧ (∀ r, r < 8 → m 75 r = nI (if r < q then t r + (if S.testBit r = true then 1 else 0) else t r)) ∧ jl_F (fun k => k = 75) mem m) n (by
    intro q ls m hq ⟨hl, q1, q2⟩
    subst hl
    have e3 : ¬ n ≤ q := by omega
    have e4 : m 62 9 = nI n := by rw [q2 62 (by omega)]; exact hn
    have e5 : m 62 27 = nI S := by rw [q2 62 (by omega)]; exact h27
    have e6 := q1 q (by omega)
    rw [if_neg (by omega)] at e6
    have e7 := jq_sh hS (show q < 8 by omega)
    rw [jq_tb hS (show q < 8 by omega)] at e7
    have hq8 : q < 8 := by omega
    refine ⟨[.ref 62, a1, a2, .int (nI g), .int (nI (q + 1)), v5, v6], jl_s m 75 q (nI (t q + (if S.testBit q = true then 1 else 0))), ⟨rfl, fun r hr => ?_, fun k hk => by rw [js_ne hk, q2 k hk]⟩, ?_⟩
    · by_cases e : r = q
      · subst e
        rw [js_hit, if_pos (show r < r + 1 by omega)]
      · rw [js_mj e, q1 r hr]
        by_cases e2 : r < q
        · rw [if_pos e2, if_pos (show r < q + 1 by omega)]
        · rw [if_neg e2, if_neg (show ¬ r < q + 1 by omega)]
    · refine Eq.trans ?_ eX5_listen_111
      simp (disch := first | assumption | omega) only [eX5_listen_80, eX5_listen_82, eX5_listen_83, eX5_listen_86, eX5_listen_89, eX5_listen_90, eX5_listen_93, eX5_listen_95, eX5_listen_96, eX5_listen_97, eX5_listen_98, eX5_listen_101, eX5_listen_103, eX5_listen_104, eX5_listen_105, eX5_listen_106, eX5_listen_107, eX5_listen_108, e4, nI_leI, e3, if_false, e5, e6, e7, nI_add]) n 0 [.ref 62, a1, a2, .int (nI g), .int (nI 0), v5, v6] mem (by omega) ⟨rfl, fun r hr => by rw [if_neg (by omega)]; exact ht r hr, fun _ _ => rfl⟩
  obtain ⟨rfl, q1, q2⟩ := hI
  have e4 : m1 62 9 = nI n := by rw [q2 62 (by omega)]; exact hn
  refine ⟨m1, ?_, q1, q2⟩
  simp only [eX5_listen_77, eX5_listen_78]
  rw [he]
  simp (disch := first | assumption | omega) only [eX5_listen_80, eX5_listen_82, eX5_listen_83, eX5_listen_86, e4, nI_leI, Nat.le_refl, if_true]
theorem Y_listen_o {n : Nat} (h : jY mem lm tx K mo un im hd tr) (hk : jq_WK K) (hw : jq_WM K.1 mo) (hh : hd.1 ≤ 6 ∧ ∀ i, i < hd.1 → hd.2.1 i < K.1 ∧ hd.2.2.1 i ≤ 20 ∧ hd.2.2.2 i ≤ 1) (hn : n ≤ 20) : ∃ mem', xX5_listen [.ref 62, .int (nI n)] (jl_w mem lm) = some (some (.int (jq_li K (jq_acc (jq_fc K mo hd n) (0, fun _ => 0) (10 * K.1)) ((jq_acc (jq_fc K mo hd n) (0, fun _ => 0) (10 * K.1)).1 + 1))), jl_w mem' lm) ∧ jl_V mem mem' := by
  have h0 := h.V (jl_V.t (x := nI 0))
  have v0 := jl_V.t (m := mem) (x := nI 0)
  have h8 := hk.1
  have em : nI 10 * nI K.1 = nI (10 * K.1) := pk_mul _ _
  simp only [eX5_listen, eX5_listen_0, eX5_listen_1, eX5_listen_2, eX5_listen_5, eX5_listen_6, eX5_listen_7]
  rw [eX5_listen_9 (Y_in (Nat.zero_le _) hn (by omega))]
  simp only [eX5_listen_12, eX5_listen_15, eX5_listen_16, eX5_listen_17, eX5_listen_18, eX5_listen_19, eX5_listen_20, je1, if_false]
  generalize jl_s mem 62 0 (nI 0) = m0 at h0 v0 ⊢
  obtain ⟨ls', m1, hI, he⟩ := jr_loop (P := pX5_listen) (pc := 21) (lm := lm) (fun q ls m => ls = [.ref 62, .int (nI n), .int (nI 0), .int (nI q), .null, .null, .null] ∧ (∀ r, r < q → m 75 r = nI 0) ∧ jl_V m0 m) 8 (by
    intro q ls m hq ⟨hl, q1, q2⟩
    subst hl
    have e3 : ¬ 8 ≤ q := by omega
    refine ⟨[.ref 62, .int (nI n), .int (nI 0), .int (nI (q + 1)), .null, .null, .null], jl_s m 75 q (nI 0), ⟨rfl, fun r hr => ?_, q2.tr jl_V.t75⟩, ?_⟩
    · by_cases e : r = q
      · subst e; rw [js_hit]
      · rw [js_mj e, q1 r (by omega)]
    · refine Eq.trans ?_ eX5_listen_37
      simp (disch := first | assumption | omega) only [eX5_listen_21, eX5_listen_22, eX5_listen_24, eX5_listen_27, eX5_listen_28, eX5_listen_31, eX5_listen_32, eX5_listen_33, eX5_listen_34, nI_leI, e3, if_false, nI_add]) 8 0 [.ref 62, .int (nI n), .int (nI 0), .int (nI 0), .null, .null, .null] m0 (by omega) ⟨rfl, fun r hr => absurd hr (by omega), jl_V.rf⟩
  obtain ⟨rfl, z1, v1⟩ := hI
  rw [he]
  simp (disch := first | assumption | omega) only [eX5_listen_21, eX5_listen_22, eX5_listen_24, eX5_listen_40, eX5_listen_41, nI_leI, Nat.le_refl, if_true]
  obtain ⟨ls', m2, hI, he2⟩ := jr_loop (P := pX5_listen) (pc := 42) (lm := lm) (fun g ls m => (∃ v4, ls = [.ref 62, .int (nI n), .int (nI (jq_acc (jq_fc K mo hd n) (0, fun _ => 0) g).1), .int (nI g), v4, .null, .null]) ∧ (∀ r, r < 8 → m 75 r = nI ((jq_acc (jq_fc K mo hd n) (0, fun _ => 0) g).2 r)) ∧ jl_V m0 m) (10 * K.1) (by
    intro g ls m hg ⟨⟨v4, hl⟩, q1, q2⟩
    subst hl
    have Y1 := h0.V q2
    have e3 : ¬ 10 * K.1 ≤ g := by omega
    have e10 : ¬ nI 10 = 0 := by decide
    have er : nI g - nI g / nI 10 * nI 10 = nI (g % 10) := pk_rem (by omega) (by omega) (by omega)
    have ed : nI g / nI 10 = nI (g / 10) := pk_div (by omega) (by omega) (by omega)
    have er' : nI g - nI (g / 10) * nI 10 = nI (g % 10) := by rw [← ed]; exact er
    have hm10 : g % 10 < 10 := Nat.mod_lt _ (by omega)
    have hdv : g / 10 < K.1 := by omega
    obtain ⟨mf, ef, Gf⟩ := Y_fits (lm := lm) (g := g) Y1 hk hw hh hg
    have Y2 := Y1.V (jl_V.G Gf)
    have t2 : ∀ r, r < 8 → mf 75 r = nI ((jq_acc (jq_fc K mo hd n) (0, fun _ => 0) g).2 r) := fun r hr => by rw [Gf.1 75 (by omega) (by omega)]; exact q1 r hr
    have hst : jq_acc (jq_fc K mo hd n) ((0 : Nat), (fun _ => 0 : Nat → Nat)) (g + 1) = if g % 10 ≠ 0 ∧ jq_fit K mo hd g hd.1 = true then ((jq_acc (jq_fc K mo hd n) (0, fun _ => 0) g).1 + 1, fun r => if r < K.1 then (jq_acc (jq_fc K mo hd n) (0, fun _ => 0) g).2 r + jq_hb K mo g r n else (jq_acc (jq_fc K mo hd n) (0, fun _ => 0) g).2 r) else jq_acc (jq_fc K mo hd n) (0, fun _ => 0) g := by
      show (if g % 10 = 0 then _ else jq_fc K mo hd n _ g) = _
      by_cases hg0 : g % 10 = 0
      · rw [if_pos hg0, if_neg (fun q => q.1 hg0)]
      · rw [if_neg hg0]
        by_cases hf : jq_fit K mo hd g hd.1 = true
        · rw [if_pos ⟨hg0, hf⟩]
          show (if jq_fit K mo hd g hd.1 = true then _ else _) = _
          rw [if_pos hf]
        · rw [if_neg (fun q => hf q.2)]
          show (if jq_fit K mo hd g hd.1 = true then _ else _) = _
          rw [if_neg hf]
    by_cases hc : g % 10 ≠ 0 ∧ jq_fit K mo hd g hd.1 = true
    · rw [if_pos hc] at hst ef
      obtain ⟨mg, eg, c2, c3, Gg⟩ := Y_gust (lm := lm) (s := g / 10) (g := g % 10) (n := n) Y2.2.1 Y2.2.2.1 hk hw hdv (by omega) hn
      have hws := jq_WS_go hk (by omega) (jq_WS_g0 hk hdv (show g % 10 ≤ 9 by omega) hw) n
      have Y3 := Y2.V (jl_V.G Gg)
      obtain ⟨ma, ea, qa, Fa⟩ := Y_add (lm := lm) (mem := mg) (g := g) (n := K.1) (S := (jq_G K mo n g).2.1) (t := (jq_acc (jq_fc K mo hd n) (0, fun _ => 0) g).2) (a1 := .int (nI n)) (a2 := .int (nI ((jq_acc (jq_fc K mo hd n) (0, fun _ => 0) g).1 + 1))) (v5 := .null) (v6 := .null) (i := 0) Y3.2.1.1 h8 hws.2.1 c2 (fun r hr => by rw [Gg.1 75 (by omega) (by omega)]; exact t2 r hr)
      have va : jl_V mg ma := ⟨fun k _ _ x => Fa k x, fun j _ _ _ => by rw [Fa 62 (by omega)]⟩
      refine ⟨[.ref 62, .int (nI n), .int (nI (jq_acc (jq_fc K mo hd n) (0, fun _ => 0) (g + 1)).1), .int (nI (g + 1)), .int (nI K.1), .null, .null], ma, ⟨⟨_, rfl⟩, ?_, q2.tr ((jl_V.G Gf).tr ((jl_V.G Gg).tr va))⟩, ?_⟩
      · rw [hst]
        exact qa
      · refine Eq.trans ?_ eX5_listen_117
        rw [hst]
        simp (disch := first | assumption | omega) only [eX5_listen_42, eX5_listen_43, eX5_listen_45, eX5_listen_46, eX5_listen_49, eX5_listen_50, eX5_listen_53, eX5_listen_54, Y1.2.1.1, em, nI_leI, e3, if_false]
        rw [eX5_listen_55 ef]
        simp (disch := first | assumption | omega) only [eX5_listen_58, eX5_listen_61, eX5_listen_64, eX5_listen_65, eX5_listen_66, eX5_listen_68, eX5_listen_69, eX5_listen_70, eX5_listen_72, eX5_listen_73, je1, if_false, nI_add, ed, er']
        rw [eX5_listen_74 eg]
        have ea' : jr_ev pX5_listen 77 [.ref 62, .int (nI n), .int (nI ((jq_acc (jq_fc K mo hd n) (0, fun _ => 0) g).1 + 1)), .int (nI g), v4, .null, .null] [] (jl_w mg lm) = jr_ev pX5_listen 77 [.ref 62, .int (nI n), .int (nI ((jq_acc (jq_fc K mo hd n) (0, fun _ => 0) g).1 + 1)), .int (nI g), .int (nI 0), .null, .null] [] (jl_w mg lm) := by
          simp only [eX5_listen_77, eX5_listen_78]
        rw [ea', ea]
        simp only [eX5_listen_114, nI_add]
    · rw [if_neg hc] at hst ef
      refine ⟨[.ref 62, .int (nI n), .int (nI (jq_acc (jq_fc K mo hd n) (0, fun _ => 0) (g + 1)).1), .int (nI (g + 1)), v4, .null, .null], mf, ⟨⟨_, rfl⟩, ?_, q2.tr (jl_V.G Gf)⟩, ?_⟩
      · rw [hst]
        exact t2
      · refine Eq.trans ?_ eX5_listen_117
        rw [hst]
        simp (disch := first | assumption | omega) only [eX5_listen_42, eX5_listen_43, eX5_listen_45, eX5_listen_46, eX5_listen_49, eX5_listen_50, eX5_listen_53, eX5_listen_54, Y1.2.1.1, em, nI_leI, e3, if_false]
        rw [eX5_listen_55 ef]
        simp only [eX5_listen_58, eX5_listen_114, je0, if_true, nI_add]) (10 * K.1) 0 [.ref 62, .int (nI n), .int (nI 0), .int (nI 0), .null, .null, .null] m1 (by omega) ⟨⟨_, rfl⟩, fun r hr => z1 r hr, v1⟩
  obtain ⟨⟨v4, rfl⟩, t2, v2⟩ := hI
  rw [he2]
  have Y2 := h0.V v2
  obtain ⟨b1, b2⟩ := jq_fc_le (K := K) (mo := mo) (hd := hd) (n := n) (10 * K.1)
  unfold jq_li
  generalize jq_acc (jq_fc K mo hd n) ((0 : Nat), (fun _ => 0 : Nat → Nat)) (10 * K.1) = A at *
  have hstart : ∀ X, jr_ev pX5_listen 42 [.ref 62, .int (nI n), .int (nI A.1), .int (nI (10 * K.1)), v4, .null, .null] [] (jl_w m2 lm) = X ↔ jr_ev pX5_listen 130 [.ref 62, .int (nI n), .int (nI A.1), .int (-9), .int (nI 99), .int (nI 0), .null] [] (jl_w m2 lm) = X := fun X => by
    simp (disch := first | assumption | omega) only [eX5_listen_42, eX5_listen_43, eX5_listen_45, eX5_listen_46, eX5_listen_49, eX5_listen_50, eX5_listen_120, eX5_listen_122, eX5_listen_123, eX5_listen_125, eX5_listen_127, eX5_listen_128, Y2.2.1.1, em, nI_leI, Nat.le_refl, if_true]
  refine ⟨m2, (hstart _).mpr ?_, v0.tr v2⟩
  by_cases hA : A.1 ≤ 1
  · rw [if_pos hA]
    by_cases hz : K.1 ≤ 0
    · simp (disch := first | assumption | omega) only [eX5_listen_130, eX5_listen_132, eX5_listen_133, eX5_listen_136, eX5_listen_220, eX5_listen_221, Y2.2.1.1, nI_leI, hz, if_true]
    · simp (disch := first | assumption | omega) only [eX5_listen_130, eX5_listen_132, eX5_listen_133, eX5_listen_136, eX5_listen_139, eX5_listen_140, eX5_listen_141, eX5_listen_220, eX5_listen_221, Y2.2.1.1, nI_leI, hz, hA, if_true, if_false]
  · rw [if_neg hA, (jq_fl_b (c := 99) b2 (by omega) (by omega) K.1).1]
    obtain ⟨ls', m3, hI, he3⟩ := jr_loop (P := pX5_listen) (pc := 130) (lm := lm) (fun r ls m => (∃ v6, ls = [.ref 62, .int (nI n), .int (nI A.1), .int (jq_fr (jq_fl A.1 A.2) (-9, 99) 0 r).1, .int (nI (jq_fr (jq_fl A.1 A.2) (-9, 99) 0 r).2), .int (nI r), v6]) ∧ m = m2 ∧ (jq_fr (jq_fl A.1 A.2) ((-9 : Int32), 99) 0 r).2 ≤ 99) K.1 (by
      intro r ls m hr ⟨⟨v6, hl⟩, hm, hle⟩
      subst hl hm
      have hst : jq_fr (jq_fl A.1 A.2) ((-9 : Int32), 99) 0 (r + 1) = if max (A.2 r) (A.1 - A.2 r) < (jq_fr (jq_fl A.1 A.2) ((-9 : Int32), 99) 0 r).2 then (nI r, max (A.2 r) (A.1 - A.2 r)) else jq_fr (jq_fl A.1 A.2) ((-9 : Int32), 99) 0 r := by
        show jq_fl A.1 A.2 _ (0 + r) = _
        rw [Nat.zero_add]
        rfl
      have e3 : ¬ K.1 ≤ r := by omega
      have hr8 : r < 8 := by omega
      have e6 := t2 r hr8
      have hsub : nI A.1 - nI (A.2 r) = nI (A.1 - A.2 r) := pk_sub (b2 r)
      have hle2 := b2 r
      have hmx : max (A.2 r) (A.1 - A.2 r) ≤ A.1 := Nat.max_le.mpr ⟨hle2, by omega⟩
      refine ⟨[.ref 62, .int (nI n), .int (nI A.1), .int (jq_fr (jq_fl A.1 A.2) (-9, 99) 0 (r + 1)).1, .int (nI (jq_fr (jq_fl A.1 A.2) (-9, 99) 0 (r + 1)).2), .int (nI (r + 1)), .int (nI (max (A.2 r) (A.1 - A.2 r)))], m, ⟨⟨_, rfl⟩, rfl, ?_⟩, ?_⟩
      · rw [hst]
        split
        · show max _ _ ≤ 99; omega
        · exact hle
      · refine Eq.trans ?_ eX5_listen_217
        rw [hst]
        generalize jq_fr (jq_fl A.1 A.2) ((-9 : Int32), 99) 0 r = B at *
        have step1 : jr_ev pX5_listen 130 [.ref 62, .int (nI n), .int (nI A.1), .int B.1, .int (nI B.2), .int (nI r), v6] [] (jl_w m lm) = jr_ev pX5_listen 184 [.ref 62, .int (nI n), .int (nI A.1), .int B.1, .int (nI B.2), .int (nI r), .int (nI (max (A.2 r) (A.1 - A.2 r)))] [] (jl_w m lm) := by
          by_cases hc : A.2 r ≤ A.1 - A.2 r
          · rw [Nat.max_eq_right hc]
            simp (disch := first | assumption | omega) only [eX5_listen_130, eX5_listen_132, eX5_listen_133, eX5_listen_136, eX5_listen_139, eX5_listen_140, eX5_listen_141, eX5_listen_144, eX5_listen_145, eX5_listen_148, eX5_listen_150, eX5_listen_151, eX5_listen_152, eX5_listen_153, eX5_listen_156, eX5_listen_158, eX5_listen_159, eX5_listen_160, eX5_listen_163, eX5_listen_164, eX5_listen_167, eX5_listen_169, eX5_listen_170, eX5_listen_173, eX5_listen_174, eX5_listen_175, eX5_listen_178, eX5_listen_180, eX5_listen_181, eX5_listen_182, Y2.2.1.1, nI_leI, e3, hA, if_false, e6, hsub, hc, if_true]
          · rw [Nat.max_eq_left (by omega)]
            simp (disch := first | assumption | omega) only [eX5_listen_130, eX5_listen_132, eX5_listen_133, eX5_listen_136, eX5_listen_139, eX5_listen_140, eX5_listen_141, eX5_listen_144, eX5_listen_145, eX5_listen_148, eX5_listen_150, eX5_listen_151, eX5_listen_152, eX5_listen_153, eX5_listen_156, eX5_listen_158, eX5_listen_159, eX5_listen_160, eX5_listen_163, eX5_listen_164, eX5_listen_167, eX5_listen_169, eX5_listen_170, eX5_listen_173, eX5_listen_174, eX5_listen_175, eX5_listen_178, eX5_listen_180, eX5_listen_181, eX5_listen_182, Y2.2.1.1, nI_leI, e3, hA, if_false, e6, hsub, hc]
        rw [step1]
        by_cases hlt : max (A.2 r) (A.1 - A.2 r) < B.2
        · have hge : ¬ B.2 ≤ max (A.2 r) (A.1 - A.2 r) := by omega
          rw [if_pos hlt]
          generalize max (A.2 r) (A.1 - A.2 r) = u at *
          simp (disch := first | assumption | omega) only [eX5_listen_184, eX5_listen_186, eX5_listen_188, eX5_listen_191, eX5_listen_193, eX5_listen_196, eX5_listen_197, eX5_listen_198, eX5_listen_200, eX5_listen_202, eX5_listen_205, eX5_listen_207, eX5_listen_210, eX5_listen_212, eX5_listen_214, nI_leI, hge, if_false, nI_add]
        · have hge : B.2 ≤ max (A.2 r) (A.1 - A.2 r) := by omega
          rw [if_neg hlt]
          generalize max (A.2 r) (A.1 - A.2 r) = u at *
          simp (disch := first | assumption | omega) only [eX5_listen_184, eX5_listen_186, eX5_listen_188, eX5_listen_191, eX5_listen_193, eX5_listen_196, eX5_listen_197, eX5_listen_198, eX5_listen_200, eX5_listen_202, eX5_listen_205, eX5_listen_207, eX5_listen_210, eX5_listen_212, eX5_listen_214, nI_leI, hge, if_true, nI_add]) K.1 0 [.ref 62, .int (nI n), .int (nI A.1), .int (-9), .int (nI 99), .int (nI 0), .null] m2 (by omega) ⟨⟨_, rfl⟩, rfl, Nat.le_refl _⟩
    obtain ⟨⟨v6, rfl⟩, rfl, -⟩ := hI
    rw [he3]
    simp (disch := first | assumption | omega) only [eX5_listen_130, eX5_listen_132, eX5_listen_133, eX5_listen_136, eX5_listen_220, eX5_listen_221, Y2.2.1.1, nI_leI, Nat.le_refl, if_true]
end YM

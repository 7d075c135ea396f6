/-! ===== tools: memory, loops ===== -/
theorem js_same {mem : jl_M} {k j : Nat} {x : Int32} : jl_s mem k j x k = upd (mem k) j x := if_pos rfl
theorem js_ne {mem : jl_M} {k j k' : Nat} {x : Int32} (h : k' ≠ k) : jl_s mem k j x k' = mem k' := if_neg h
theorem js_at {mem : jl_M} {k j k' j' : Nat} {x : Int32} : jl_s mem k j x k' j' = if k' = k ∧ j' = j then x else mem k' j' := by
  unfold jl_s
  by_cases h : k' = k
  · subst h
    by_cases h2 : j' = j
    · simp [h2, upd]
    · simp [h2, upd]
  · simp [h]
theorem js_hit {mem : jl_M} {k j : Nat} {x : Int32} : jl_s mem k j x k j = x := by rw [js_at, if_pos ⟨rfl, rfl⟩]
theorem js_mj {mem : jl_M} {k j j' : Nat} {x : Int32} (h : j' ≠ j) : jl_s mem k j x k j' = mem k j' := by rw [js_at, if_neg (fun q => h q.2)]
theorem js_mk {mem : jl_M} {k j k' j' : Nat} {x : Int32} (h : k' ≠ k) : jl_s mem k j x k' j' = mem k' j' := by rw [js_at, if_neg (fun q => h q.1)]
/-- a loop: its places, what holds before step i -/
theorem jr_loop {P : Nat → jo_P} {pc : Nat} {lm : jl_L} (I : Nat → List Value → jl_M → Prop) (n : Nat) (hs : ∀ i ls mem, i < n → I i ls mem → ∃ ls' mem', I (i + 1) ls' mem' ∧ jr_ev P pc ls [] (jl_w mem lm) = jr_ev P pc ls' [] (jl_w mem' lm)) : ∀ k i ls mem, i + k = n → I i ls mem → ∃ ls' mem', I n ls' mem' ∧ jr_ev P pc ls [] (jl_w mem lm) = jr_ev P pc ls' [] (jl_w mem' lm) := by
  intro k
  induction k with
  | zero =>
    intro i ls mem hi h
    have e : i = n := by omega
    subst e
    exact ⟨ls, mem, h, rfl⟩
  | succ k ih =>
    intro i ls mem hi h
    obtain ⟨ls1, mem1, h1, e1⟩ := hs i ls mem (by omega) h
    obtain ⟨ls2, mem2, h2, e2⟩ := ih (i + 1) ls1 mem1 (by omega) h1
    exact ⟨ls2, mem2, h2, e1.trans e2⟩
def jq_sum (f : Nat → Nat) : Nat → Nat
  | 0 => 0
  | k + 1 => jq_sum f k + f k
theorem jq_sum_le {f g : Nat → Nat} (h : ∀ i, f i ≤ g i) : ∀ n, jq_sum f n ≤ jq_sum g n
  | 0 => Nat.le_refl _
  | n + 1 => Nat.add_le_add (jq_sum_le h n) (h n)
theorem jq_sum_bd {f : Nat → Nat} {c : Nat} (h : ∀ i, f i ≤ c) : ∀ n, jq_sum f n ≤ n * c
  | 0 => Nat.zero_le _
  | n + 1 => by
    have h1 := jq_sum_bd h n
    have h2 := h n
    show jq_sum f n + f n ≤ (n + 1) * c
    rw [Nat.add_mul, Nat.one_mul]
    omega
theorem jq_sum_z {f : Nat → Nat} {m : Nat} (h : ∀ i, i < m → f i = 0) : jq_sum f m = 0 := by
  induction m with
  | zero => rfl
  | succ m ih =>
    show jq_sum f m + f m = 0
    rw [ih (fun i hi => h i (by omega)), h m (by omega)]
/-! ===== what a wind chime is: n rods, damp d, tones, gaps, rings; a moment: 0 beat, 1 clapper, 2 far, 3 + r side, 11 + r ringing ===== -/
abbrev jq_K : Type := Nat × Nat × (Nat → Nat) × (Nat → Nat) × (Nat → Nat)
abbrev jq_M : Type := Nat → Nat
def jq_WK (K : jq_K) : Prop := K.1 ≤ 8 ∧ (1 ≤ K.2.1 ∧ K.2.1 ≤ 3) ∧ ∀ r, r < K.1 → K.2.2.1 r ≤ 48 ∧ (1 ≤ K.2.2.2.1 r ∧ K.2.2.2.1 r ≤ 9) ∧ (1 ≤ K.2.2.2.2 r ∧ K.2.2.2.2 r ≤ 9)
def jq_WM (n : Nat) (mo : jq_M) : Prop := (n = 0 → mo 2 = 0) ∧ mo 2 ≤ 9 ∧ (0 < n → mo 1 < n) ∧ mo 1 < 8 ∧ (∀ r, r < 8 → mo (3 + r) < 8 ∧ mo (11 + r) ≤ 9) ∧ (∀ r, r < n → mo (3 + r) < n) ∧ (∀ r s, r < n → s < n → mo (3 + r) = mo (3 + s) → r = s) ∧ (∀ t, t < n → ∃ r, r < n ∧ mo (3 + r) = t)
def jq_fade (n : Nat) (mo : jq_M) : jq_M := fun j => if j = 0 then mo 0 + 1 else if 11 ≤ j ∧ j < 11 + n then mo j - 1 else mo j
def jq_swing (K : jq_K) (mo : jq_M) : jq_M := fun j => if j = 1 then (mo 1 + K.1 / 2) % K.1 else if j = 2 then mo 2 - K.2.1 else mo j
def jq_blow (s g : Nat) (mo : jq_M) : jq_M := fun j => if j = 1 then s else if j = 2 then g else mo j
/-- the clapper moves: by a gust g from a side s (0: none) -/
def jq_move (K : jq_K) (s g : Nat) (mo : jq_M) : jq_M := if 0 < g ∧ mo 2 ≤ g then jq_blow s g mo else jq_swing K mo
def jq_at (n : Nat) (mo : jq_M) (t : Nat) : Nat := ((List.range n).find? (fun r => mo (3 + r) == t)).getD 0
theorem jq_at_ok {n t : Nat} {mo : jq_M} (h : jq_WM n mo) (ht : t < n) : jq_at n mo t < n ∧ mo (3 + jq_at n mo t) = t := by
  obtain ⟨r, hr, he⟩ := h.2.2.2.2.2.2.2 t ht
  unfold jq_at
  cases hf : (List.range n).find? (fun r => mo (3 + r) == t) with
  | none =>
    have := List.find?_eq_none.mp hf r (List.mem_range.mpr hr)
    simp [he] at this
  | some q =>
    have h1 := List.find?_some hf
    have h2 := List.mem_of_find?_eq_some hf
    exact ⟨List.mem_range.mp h2, by simpa using h1⟩
theorem jq_at_eq {n t r : Nat} {mo : jq_M} (h : jq_WM n mo) (hr : r < n) (he : mo (3 + r) = t) : jq_at n mo t = r := by
  have ht : t < n := by rw [← he]; exact h.2.2.2.2.2.1 r hr
  have h1 := jq_at_ok h ht
  exact h.2.2.2.2.2.2.1 _ _ h1.1 hr (h1.2.trans he.symm)
/-- the rod where the clapper is gets struck, if it can be -/
def jq_hit (K : jq_K) (mo : jq_M) : Bool := Nat.ble (K.2.2.2.1 (jq_at K.1 mo (mo 1))) (mo 2)
def jq_strike (K : jq_K) (mo : jq_M) : jq_M := if jq_hit K mo = true then (fun j => if j = 11 + jq_at K.1 mo (mo 1) then K.2.2.2.2 (jq_at K.1 mo (mo 1)) else if j = 2 then mo 2 - 1 else mo j) else mo
def jq_who (K : jq_K) (mo : jq_M) : Option Nat := if jq_hit K mo = true then some (jq_at K.1 mo (mo 1)) else none
def jq_beat (K : jq_K) (s g : Nat) (mo : jq_M) : jq_M := jq_strike K (jq_move K s g (jq_fade K.1 mo))
def jq_bw (K : jq_K) (s g : Nat) (mo : jq_M) : Option Nat := jq_who K (jq_move K s g (jq_fade K.1 mo))
def jq_an (o : Option Nat) : Int32 := match o with
  | none => -9
  | some r => nI r
def jq_cl (a b : Nat) : Bool := ([1, 2, 6, 10, 11] : List Nat).contains ((a + 120 - b) % 12)
def jq_pr (K : jq_K) (mo : jq_M) (a b : Nat) : Nat := if a < b ∧ 0 < mo (11 + a) ∧ 0 < mo (11 + b) ∧ jq_cl (K.2.2.1 a) (K.2.2.1 b) = true then 1 else 0
def jq_h (K : jq_K) (mo : jq_M) : Nat := jq_sum (fun a => jq_sum (jq_pr K mo a) K.1) K.1
theorem jq_pr_le {K : jq_K} {mo : jq_M} {a b : Nat} : jq_pr K mo a b ≤ 1 := by unfold jq_pr; split <;> decide
theorem jq_h_le {K : jq_K} {mo : jq_M} (h : K.1 ≤ 8) : jq_h K mo ≤ 64 := by
  have h1 := jq_sum_bd (f := fun a => jq_sum (jq_pr K mo a) K.1) (c := 8) (fun i => Nat.le_trans (jq_sum_bd (fun _ => jq_pr_le) K.1) (by omega)) K.1
  unfold jq_h
  omega
/-- which rods ring, in bits -/
def jq_rg (mo : jq_M) : Nat → Nat
  | 0 => 0
  | r + 1 => jq_rg mo r ||| (if 0 < mo (11 + r) then 1 <<< r else 0)
/-! representations -/
def jx_M (mem : jl_M) (b : Nat) (mo : jq_M) : Prop := mem b 1 = nI (mo 0) ∧ mem b 2 = nI (mo 1) ∧ mem b 3 = nI (mo 2) ∧ (∀ r, r < 8 → mem (b + 1) r = nI (mo (3 + r))) ∧ ∀ r, r < 8 → mem (b + 2) r = nI (mo (11 + r))
def jx_K (mem : jl_M) (K : jq_K) : Prop := mem 7 0 = nI K.1 ∧ mem 7 1 = nI K.2.1 ∧ ∀ r, r < K.1 → mem 8 r = nI (K.2.2.1 r) ∧ mem 9 r = nI (K.2.2.2.1 r) ∧ mem 10 r = nI (K.2.2.2.2 r)
def jy_M (mem : jl_M) (k : Nat) (mo : jq_M) : Prop := ∀ j, j < 19 → mem k j = nI (mo j)
def jy_K (mem : jl_M) (K : jq_K) : Prop := mem 62 9 = nI K.1 ∧ mem 62 10 = nI K.2.1 ∧ ∀ r, r < K.1 → mem 64 r = nI (K.2.2.1 r) ∧ mem 65 r = nI (K.2.2.2.1 r) ∧ mem 66 r = nI (K.2.2.2.2 r)
/-- all but some rows stay -/
def jl_F (S : Nat → Prop) (mem mem' : jl_M) : Prop := ∀ k, ¬ S k → mem' k = mem k
theorem jx_K.keep {mem mem' : jl_M} {K : jq_K} (h : jx_K mem K) (h7 : mem' 7 = mem 7) (h8 : mem' 8 = mem 8) (h9 : mem' 9 = mem 9) (h10 : mem' 10 = mem 10) : jx_K mem' K := by
  unfold jx_K
  rw [h7, h8, h9, h10]
  exact h
theorem jx_M.keep {mem mem' : jl_M} {b : Nat} {mo : jq_M} (h : jx_M mem b mo) (h0 : mem' b = mem b) (h1 : mem' (b + 1) = mem (b + 1)) (h2 : mem' (b + 2) = mem (b + 2)) : jx_M mem' b mo := by
  unfold jx_M
  rw [h0, h1, h2]
  exact h

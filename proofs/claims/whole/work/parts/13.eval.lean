/-! ===== evaluation of the small machine over the laid-out world ===== -/
abbrev jl_M : Type := Nat → Nat → Int32
abbrev jl_L : Type := Nat → Nat → Int64
theorem jl_exg (w : jw_W) : ∃ q : (Nat × Nat) × (Nat → Nat × Nat × (Nat → Option Nat)), q.1 = w.1 ∧ q.2 = w.2.1 := ⟨(w.1, w.2.1), rfl, rfl⟩
theorem jl_ex : ∃ q : (Nat × Nat) × (Nat → Nat × Nat × (Nat → Option Nat)), q.1 = jl_d.1 ∧ q.2 = jl_d.2.1 := jl_exg jl_d
noncomputable def jl_o : (Nat × Nat) × (Nat → Nat × Nat × (Nat → Option Nat)) := Classical.choose jl_ex
theorem jl_o1 : jl_o.1 = jl_d.1 := (Classical.choose_spec jl_ex).1
theorem jl_o2 : jl_o.2 = jl_d.2.1 := (Classical.choose_spec jl_ex).2
theorem jl_cnt : jl_o.1.1 = 76 := by rw [jl_o1]; exact jl_fact.1.2.1
noncomputable def jl_w (mem : jl_M) (lm : jl_L) : jw_W := (jl_o.1, jl_o.2, mem, lm)
def jl_s (mem : jl_M) (k j : Nat) (x : Int32) : jl_M := fun k' => if k' = k then upd (mem k) j x else mem k'
def jl_sl (lm : jl_L) (k j : Nat) (x : Int64) : jl_L := fun k' => if k' = k then vp_updL (lm k) j x else lm k'
/-- an array of ints of that length, of booleans -/
def jl_A (k n : Nat) : Prop := jl_K k = 0 ∧ jl_n k = n
def jl_Z (k n : Nat) : Prop := jl_K k = 1 ∧ jl_n k = n
theorem jl_lt {k : Nat} (h : jl_K k ≤ 8) : k < 76 := by
  rcases Nat.lt_or_ge k 76 with h1 | h1
  · exact h1
  · have : jl_K k = 99 := by
      unfold jl_K
      rw [List.getElem?_eq_none (by exact h1)]
      rfl
    omega
theorem jl_qk {k : Nat} (h : k < 76) : (jl_o.2 k).1 = jl_K k ∧ (jl_o.2 k).2.1 = jl_n k ∧ ∀ j, j < 30 → (jl_o.2 k).2.2 j = if jl_r k j = 0 then none else some (jl_r k j) := by
  have h1 := List.all_eq_true.mp jl_fact.2.2 k (List.mem_range.mpr h)
  simp only [jl_q, Bool.and_eq_true, decide_eq_true_eq, List.all_eq_true, List.mem_range] at h1
  rw [jl_o2]
  exact ⟨h1.1.1.1, h1.1.1.2, h1.1.2⟩
theorem jl_nsmall (k : Nat) : jl_n k < 2 ^ 31 := by
  rcases Nat.lt_or_ge k 76 with h1 | h1
  · have h : ∀ k, k < 76 → jl_n k < 2 ^ 31 := by decide +kernel
    exact h k h1
  · have : jl_n k = 0 := by
      unfold jl_n
      rw [List.getElem?_eq_none (by exact h1)]
      rfl
    omega
theorem jl_ob_ok {mem : jl_M} {lm : jl_L} {k ci : Nat} (hci : ci < 6) (hk : jl_K k = ci + 3) : k < (jl_w mem lm).1.1 ∧ ((jl_w mem lm).2.1 k).1 = ci + 3 := by
  have h : k < 76 := jl_lt (by omega)
  exact ⟨by show k < jl_o.1.1; rw [jl_cnt]; exact h, (jl_qk h).1.trans hk⟩
section EV
variable {P : Nat → jo_P} {pc n : Nat} {ls st : List Value} {w : jw_W} {mem : jl_M} {lm : jl_L}
theorem je_k {v : Value} (hp : P pc = jo_k v n) : jr_ev P pc ls st w = jr_ev P n ls (v :: st) w := jr_step (by rw [hp]; rfl)
theorem je_ild {k : Nat} {x : Int32} (hp : P pc = jo_ild k n) (h : ls[k]? = some (.int x)) : jr_ev P pc ls st w = jr_ev P n ls (.int x :: st) w := jr_step (by rw [hp]; unfold jo_ild; rw [h])
theorem je_rld {k x : Nat} (hp : P pc = jo_rld k n) (h : ls[k]? = some (.ref x)) : jr_ev P pc ls st w = jr_ev P n ls (.ref x :: st) w := jr_step (by rw [hp]; unfold jo_rld; rw [h])
theorem je_ist {k : Nat} {x : Int32} {ls' : List Value} (hp : P pc = jo_ist k n) (h : k < ls.length) (h2 : ls.set k (.int x) = ls') : jr_ev P pc ls (.int x :: st) w = jr_ev P n ls' st w := jr_step (by rw [hp]; unfold jo_ist; simp only [if_pos h, h2])
theorem je_rst {k x : Nat} {ls' : List Value} (hp : P pc = jo_rst k n) (h : k < ls.length) (h2 : ls.set k (.ref x) = ls') : jr_ev P pc ls (.ref x :: st) w = jr_ev P n ls' st w := jr_step (by rw [hp]; unfold jo_rst; simp only [if_pos h, h2])
theorem je_inc {k : Nat} {v x : Int32} {ls' : List Value} (hp : P pc = jo_inc k v n) (h : ls[k]? = some (.int x)) (h2 : ls.set k (.int (x + v)) = ls') : jr_ev P pc ls st w = jr_ev P n ls' st w := jr_step (by rw [hp]; unfold jo_inc; rw [h]; simp only [h2])
theorem je_bin {f : Int32 → Int32 → Int32} {x y : Int32} (hp : P pc = jo_bin f n) : jr_ev P pc ls (.int y :: .int x :: st) w = jr_ev P n ls (.int (f x y) :: st) w := jr_step (by rw [hp]; rfl)
theorem je_dv {f : Int32 → Int32 → Int32} {x y : Int32} (hp : P pc = jo_dv f n) (h : ¬ y = 0) : jr_ev P pc ls (.int y :: .int x :: st) w = jr_ev P n ls (.int (f x y) :: st) w := jr_step (by rw [hp]; unfold jo_dv; simp only [if_neg h])
theorem je_neg {x : Int32} (hp : P pc = jo_neg n) : jr_ev P pc ls (.int x :: st) w = jr_ev P n ls (.int (-x) :: st) w := jr_step (by rw [hp]; rfl)
theorem je_ladd {x y : Int64} (hp : P pc = jo_ladd n) : jr_ev P pc ls (.long y :: .long x :: st) w = jr_ev P n ls (.long (x + y) :: st) w := jr_step (by rw [hp]; rfl)
theorem je_lcmp {x y : Int64} (hp : P pc = jo_lcmp n) : jr_ev P pc ls (.long y :: .long x :: st) w = jr_ev P n ls (.int (lg_cmp x y) :: st) w := jr_step (by rw [hp]; rfl)
theorem je_dupi {x : Int32} (hp : P pc = jo_dup n) : jr_ev P pc ls (.int x :: st) w = jr_ev P n ls (.int x :: .int x :: st) w := jr_step (by rw [hp]; rfl)
theorem je_dupr {x : Nat} (hp : P pc = jo_dup n) : jr_ev P pc ls (.ref x :: st) w = jr_ev P n ls (.ref x :: .ref x :: st) w := jr_step (by rw [hp]; rfl)
theorem je_dup2 {x : Int32} {y : Nat} (hp : P pc = jo_dup2 n) : jr_ev P pc ls (.int x :: .ref y :: st) w = jr_ev P n ls (.int x :: .ref y :: .int x :: .ref y :: st) w := jr_step (by rw [hp]; rfl)
theorem je_pop {x : Int32} (hp : P pc = jo_pop n) : jr_ev P pc ls (.int x :: st) w = jr_ev P n ls st w := jr_step (by rw [hp]; rfl)
theorem je_go (hp : P pc = jo_go n) : jr_ev P pc ls st w = jr_ev P n ls st w := jr_step (by rw [hp]; rfl)
theorem je_if {t : Nat} {c : Int32 → Prop} {dc : ∀ x, Decidable (c x)} {x : Int32} (hp : P pc = jo_if (fun x => decide (c x)) t n) : jr_ev P pc ls (.int x :: st) w = if c x then jr_ev P t ls st w else jr_ev P n ls st w := by
  by_cases h : c x
  · rw [if_pos h]; exact jr_step (by rw [hp]; unfold jo_if; simp [h])
  · rw [if_neg h]; exact jr_step (by rw [hp]; unfold jo_if; simp [h])
theorem je_ifn {t : Nat} {c : Int32 → Prop} {dc : ∀ x, Decidable (c x)} {x : Int32} (hp : P pc = jo_if (fun x => !decide (c x)) t n) : jr_ev P pc ls (.int x :: st) w = if c x then jr_ev P n ls st w else jr_ev P t ls st w := by
  by_cases h : c x
  · rw [if_pos h]; exact jr_step (by rw [hp]; unfold jo_if; simp [h])
  · rw [if_neg h]; exact jr_step (by rw [hp]; unfold jo_if; simp [h])
theorem je_ic {t : Nat} {c : Int32 → Int32 → Prop} {dc : ∀ x y, Decidable (c x y)} {x y : Int32} (hp : P pc = jo_ic (fun x y => decide (c x y)) t n) : jr_ev P pc ls (.int y :: .int x :: st) w = if c x y then jr_ev P t ls st w else jr_ev P n ls st w := by
  by_cases h : c x y
  · rw [if_pos h]; exact jr_step (by rw [hp]; unfold jo_ic; simp [h])
  · rw [if_neg h]; exact jr_step (by rw [hp]; unfold jo_ic; simp [h])
theorem je_icn {t : Nat} {c : Int32 → Int32 → Prop} {dc : ∀ x y, Decidable (c x y)} {x y : Int32} (hp : P pc = jo_ic (fun x y => !decide (c x y)) t n) : jr_ev P pc ls (.int y :: .int x :: st) w = if c x y then jr_ev P n ls st w else jr_ev P t ls st w := by
  by_cases h : c x y
  · rw [if_pos h]; exact jr_step (by rw [hp]; unfold jo_ic; simp [h])
  · rw [if_neg h]; exact jr_step (by rw [hp]; unfold jo_ic; simp [h])
theorem je_ts {lo : Int} {ts : List Nat} {d : Nat} {x : Int32} (hp : P pc = jo_ts lo ts d) : jr_ev P pc ls (.int x :: st) w = jr_ev P (if x.toInt < lo then d else (ts[(x.toInt - lo).toNat]?).getD d) ls st w := jr_step (by rw [hp]; rfl)
theorem je_max {x y : Int32} (hp : P pc = jo_max n) (h : st.length ≤ 4) : jr_ev P pc ls (.int y :: .int x :: st) w = jr_ev P n ls (.int (if x < y then y else x) :: st) w := jr_step (by rw [hp]; unfold jo_max; simp only [if_pos h])
theorem je_min {x y : Int32} (hp : P pc = jo_min n) (h : st.length ≤ 4) : jr_ev P pc ls (.int y :: .int x :: st) w = jr_ev P n ls (.int (if y < x then y else x) :: st) w := jr_step (by rw [hp]; unfold jo_min; simp only [if_pos h])
theorem je_ret (hp : P pc = jo_ret) : jr_ev P pc ls [] w = some (none, w) := jr_ret (by rw [hp]; rfl)
theorem je_iret {x : Int32} (hp : P pc = jo_iret) : jr_ev P pc ls [.int x] w = some (some (.int x), w) := jr_ret (by rw [hp]; rfl)
theorem je_lret {x : Int64} (hp : P pc = jo_lret) : jr_ev P pc ls [.long x] w = some (some (.long x), w) := jr_ret (by rw [hp]; rfl)
theorem je_zret {x : Int32} (hp : P pc = jo_zret) (h : narrow .boolean (.int x) = .int x) : jr_ev P pc ls [.int x] w = some (some (.int x), w) := jr_ret (by rw [hp]; unfold jo_zret; simp only [if_pos h])
theorem je_gI {ci j k : Nat} (hp : P pc = jo_gI ci j n) (hci : ci < 6) (hk : jl_K k = ci + 3) : jr_ev P pc ls (.ref k :: st) (jl_w mem lm) = jr_ev P n ls (.int (mem k j) :: st) (jl_w mem lm) := jr_step (by rw [hp]; unfold jo_gI; simp only [if_pos (jl_ob_ok hci hk)]; rfl)
theorem je_gL {ci j k : Nat} (hp : P pc = jo_gL ci j n) (hci : ci < 6) (hk : jl_K k = ci + 3) : jr_ev P pc ls (.ref k :: st) (jl_w mem lm) = jr_ev P n ls (.long (lm k j) :: st) (jl_w mem lm) := jr_step (by rw [hp]; unfold jo_gL; simp only [if_pos (jl_ob_ok hci hk)]; rfl)
theorem je_gR {ci j k r : Nat} (hp : P pc = jo_gR ci j n) (hci : ci < 6) (hk : jl_K k = ci + 3) (hj : j < 30) (hr : jl_r k j = r) (hr0 : r ≠ 0) : jr_ev P pc ls (.ref k :: st) (jl_w mem lm) = jr_ev P n ls (.ref r :: st) (jl_w mem lm) := jr_step (by
  have h1 := (jl_qk (jl_lt (k := k) (by omega))).2.2 j hj
  rw [hr, if_neg hr0] at h1
  rw [hp]; unfold jo_gR
  have h2 : ((jl_w mem lm).2.1 k).2.2 j = some r := h1
  simp only [h2, if_pos (jl_ob_ok hci hk)])
theorem je_pI {ci j k : Nat} {x : Int32} (hp : P pc = jo_pI ci j n) (hci : ci < 6) (hk : jl_K k = ci + 3) : jr_ev P pc ls (.int x :: .ref k :: st) (jl_w mem lm) = jr_ev P n ls st (jl_w (jl_s mem k j x) lm) := jr_step (by rw [hp]; unfold jo_pI; simp only [if_pos (jl_ob_ok hci hk)]; rfl)
theorem je_pZ {ci j k : Nat} {x : Int32} (hp : P pc = jo_pZ ci j n) (hci : ci < 6) (hx : narrow .boolean (.int x) = .int x ∧ fits .boolean (.int x) = true) (hk : jl_K k = ci + 3) : jr_ev P pc ls (.int x :: .ref k :: st) (jl_w mem lm) = jr_ev P n ls st (jl_w (jl_s mem k j x) lm) := jr_step (by rw [hp]; unfold jo_pZ; simp only [if_pos (And.intro (jl_ob_ok (mem := mem) (lm := lm) hci hk) hx)]; rfl)
theorem je_pL {ci j k : Nat} {x : Int64} (hp : P pc = jo_pL ci j n) (hci : ci < 6) (hk : jl_K k = ci + 3) : jr_ev P pc ls (.long x :: .ref k :: st) (jl_w mem lm) = jr_ev P n ls st (jl_w mem (jl_sl lm k j x)) := jr_step (by rw [hp]; unfold jo_pL; simp only [if_pos (jl_ob_ok hci hk)]; rfl)
theorem jl_arr_ok {t k N r : Nat} (ht : t ≤ 2) (hk : jl_K k = t ∧ jl_n k = N) (hr : r < N) : ((k < (jl_w mem lm).1.1 ∧ ((jl_w mem lm).2.1 k).1 = t) ∧ ¬ nI r < 0 ∧ (nI r).toNatClampNeg < ((jl_w mem lm).2.1 k).2.1) ∧ (nI r).toNatClampNeg = r := by
  have h : k < 76 := jl_lt (by omega)
  have h3 := jl_nsmall k
  have h4 : r < 2 ^ 31 := by omega
  refine ⟨⟨⟨by show k < jl_o.1.1; rw [jl_cnt]; exact h, (jl_qk h).1.trans hk.1⟩, nI_pos h4, ?_⟩, nI_clamp h4⟩
  rw [nI_clamp h4]
  show r < (jl_o.2 k).2.1
  rw [(jl_qk h).2.1, hk.2]
  exact hr
theorem je_al {k N r : Nat} (hp : P pc = jo_al 0 n) (hk : jl_A k N) (hr : r < N) : jr_ev P pc ls (.int (nI r) :: .ref k :: st) (jl_w mem lm) = jr_ev P n ls (.int (mem k r) :: st) (jl_w mem lm) := jr_step (by
  have h := jl_arr_ok (mem := mem) (lm := lm) (t := 0) (by omega) hk hr
  rw [hp]; unfold jo_al; simp only [if_pos h.1]; rw [h.2]; rfl)
theorem je_zl {k N r : Nat} (hp : P pc = jo_al 1 n) (hk : jl_Z k N) (hr : r < N) : jr_ev P pc ls (.int (nI r) :: .ref k :: st) (jl_w mem lm) = jr_ev P n ls (.int (mem k r) :: st) (jl_w mem lm) := jr_step (by
  have h := jl_arr_ok (mem := mem) (lm := lm) (t := 1) (by omega) hk hr
  rw [hp]; unfold jo_al; simp only [if_pos h.1]; rw [h.2]; rfl)
theorem je_as {k N r : Nat} {x : Int32} (hp : P pc = jo_as n) (hk : jl_A k N) (hr : r < N) : jr_ev P pc ls (.int x :: .int (nI r) :: .ref k :: st) (jl_w mem lm) = jr_ev P n ls st (jl_w (jl_s mem k r x) lm) := jr_step (by
  have h := jl_arr_ok (mem := mem) (lm := lm) (t := 0) (by omega) hk hr
  rw [hp]; unfold jo_as; simp only [if_pos h.1]; rw [h.2]; rfl)
theorem je_zs {k N r : Nat} {x : Int32} (hp : P pc = jo_zs n) (hk : jl_Z k N) (hr : r < N) (hx : vp_nar .boolean x = x) : jr_ev P pc ls (.int x :: .int (nI r) :: .ref k :: st) (jl_w mem lm) = jr_ev P n ls st (jl_w (jl_s mem k r x) lm) := jr_step (by
  have h := jl_arr_ok (mem := mem) (lm := lm) (t := 1) (by omega) hk hr
  rw [hp]; unfold jo_zs; simp only [if_pos h.1]; rw [h.2, hx]; rfl)
theorem je_rl {k N i r : Nat} (hp : P pc = jo_rl n) (hk : jl_K k = 2 ∧ jl_n k = N) (hN : N ≤ 30) (hi : i < N) (hr : jl_r k i = r) (hr0 : r ≠ 0) : jr_ev P pc ls (.int (nI i) :: .ref k :: st) (jl_w mem lm) = jr_ev P n ls (.ref r :: st) (jl_w mem lm) := jr_step (by
  have h := jl_arr_ok (mem := mem) (lm := lm) (t := 2) (by omega) hk hi
  have h1 := (jl_qk (jl_lt (k := k) (by omega))).2.2 i (by omega)
  rw [hr, if_neg hr0] at h1
  have h2 : ((jl_w mem lm).2.1 k).2.2 (nI i).toNatClampNeg = some r := by rw [h.2]; exact h1
  rw [hp]; unfold jo_rl; simp only [h2, if_pos h.1])
theorem jl_aft {r : Option Value} {ls rest : List Value} {mem' : jl_M} {lm' : jl_L} (h : rest.length ≤ 4) : jo_aft (some (r, jl_w mem' lm')) ls rest (jl_w mem lm) n = some (.inl (n, ls, r.toList ++ rest, jl_w mem' lm')) := by
  unfold jo_aft
  exact if_pos ⟨h, by show jl_o.1.1 ≤ 1000; rw [jl_cnt]; decide, ⟨Nat.le_refl _, Nat.le_refl _⟩, Or.inl rfl⟩
theorem je_cs {na : Nat} {f : List Value → jw_W → Option jo_R} {av st' : List Value} {r : Option Value} {mem' : jl_M} {lm' : jl_L} (hp : P pc = jo_cs na f n) (hs : na ≤ st.length ∧ (st.take na).reverse = av ∧ st.drop na = st') (h4 : st'.length ≤ 4) (h : f av (jl_w mem lm) = some (r, jl_w mem' lm')) : jr_ev P pc ls st (jl_w mem lm) = jr_ev P n ls (r.toList ++ st') (jl_w mem' lm') := jr_step (by
  rw [hp]; unfold jo_cs; rw [if_pos hs.1, hs.2.1, hs.2.2, h, jl_aft h4])
theorem je_cv {ci na k : Nat} {f : List Value → jw_W → Option jo_R} {av st' : List Value} {r : Option Value} {mem' : jl_M} {lm' : jl_L} (hp : P pc = jo_cv ci na f n) (hci : ci < 6) (hs : na ≤ st.length ∧ (st.take na).reverse = .ref k :: av ∧ st.drop na = st') (h4 : st'.length ≤ 4) (hk : jl_K k = ci + 3) (h : f (.ref k :: av) (jl_w mem lm) = some (r, jl_w mem' lm')) : jr_ev P pc ls st (jl_w mem lm) = jr_ev P n ls (r.toList ++ st') (jl_w mem' lm') := jr_step (by
  rw [hp]; unfold jo_cv; rw [hs.2.1]; simp only []
  rw [if_pos ⟨hs.1, jl_ob_ok hci hk⟩, hs.2.2, h, jl_aft h4])
end EV

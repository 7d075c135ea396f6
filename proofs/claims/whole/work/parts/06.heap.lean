/-! ===== fields, arrays, new cells ===== -/
def jo_gI (ci j n : Nat) : jo_P := fun ls st w => match st with
  | .ref k :: st' => if k < w.1.1 ∧ (w.2.1 k).1 = ci + 3 then some (.inl (n, ls, .int (w.2.2.1 k j) :: st', w)) else none
  | _ => none
def jo_gL (ci j n : Nat) : jo_P := fun ls st w => match st with
  | .ref k :: st' => if k < w.1.1 ∧ (w.2.1 k).1 = ci + 3 then some (.inl (n, ls, .long (w.2.2.2 k j) :: st', w)) else none
  | _ => none
def jo_gR (ci j n : Nat) : jo_P := fun ls st w => match st with
  | .ref k :: st' => match (w.2.1 k).2.2 j with
    | some r => if k < w.1.1 ∧ (w.2.1 k).1 = ci + 3 then some (.inl (n, ls, .ref r :: st', w)) else none
    | none => none
  | _ => none
def jo_pI (ci j n : Nat) : jo_P := fun ls st w => match st with
  | .int x :: .ref k :: st' => if k < w.1.1 ∧ (w.2.1 k).1 = ci + 3 then some (.inl (n, ls, st', jw_mi w k j x)) else none
  | _ => none
def jo_pZ (ci j n : Nat) : jo_P := fun ls st w => match st with
  | .int x :: .ref k :: st' => if (k < w.1.1 ∧ (w.2.1 k).1 = ci + 3) ∧ narrow .boolean (.int x) = .int x ∧ fits .boolean (.int x) = true then some (.inl (n, ls, st', jw_mi w k j x)) else none
  | _ => none
def jo_pL (ci j n : Nat) : jo_P := fun ls st w => match st with
  | .long x :: .ref k :: st' => if k < w.1.1 ∧ (w.2.1 k).1 = ci + 3 then some (.inl (n, ls, st', jw_ml w k j x)) else none
  | _ => none
def jo_pR (ci j n : Nat) : jo_P := fun ls st w => match st with
  | .ref r :: .ref k :: st' => if k < w.1.1 ∧ (w.2.1 k).1 = ci + 3 ∧ r < w.1.1 then some (.inl (n, ls, st', jw_mr w k j r)) else none
  | _ => none
def jo_al (t n : Nat) : jo_P := fun ls st w => match st with
  | .int i :: .ref k :: st' => if (k < w.1.1 ∧ (w.2.1 k).1 = t) ∧ ¬ i < 0 ∧ i.toNatClampNeg < (w.2.1 k).2.1 then some (.inl (n, ls, .int (w.2.2.1 k i.toNatClampNeg) :: st', w)) else none
  | _ => none
def jo_as (n : Nat) : jo_P := fun ls st w => match st with
  | .int x :: .int i :: .ref k :: st' => if (k < w.1.1 ∧ (w.2.1 k).1 = 0) ∧ ¬ i < 0 ∧ i.toNatClampNeg < (w.2.1 k).2.1 then some (.inl (n, ls, st', jw_mi w k i.toNatClampNeg x)) else none
  | _ => none
def jo_zs (n : Nat) : jo_P := fun ls st w => match st with
  | .int x :: .int i :: .ref k :: st' => if (k < w.1.1 ∧ (w.2.1 k).1 = 1) ∧ ¬ i < 0 ∧ i.toNatClampNeg < (w.2.1 k).2.1 then some (.inl (n, ls, st', jw_mi w k i.toNatClampNeg (vp_nar .boolean x))) else none
  | _ => none
def jo_rl (n : Nat) : jo_P := fun ls st w => match st with
  | .int i :: .ref k :: st' => match (w.2.1 k).2.2 i.toNatClampNeg with
    | some r => if (k < w.1.1 ∧ (w.2.1 k).1 = 2) ∧ ¬ i < 0 ∧ i.toNatClampNeg < (w.2.1 k).2.1 then some (.inl (n, ls, .ref r :: st', w)) else none
    | none => none
  | _ => none
/-- a Moment is put into an array of Moments -/
def jo_rs (n : Nat) : jo_P := fun ls st w => match st with
  | .ref r :: .int i :: .ref k :: st' => if (k < w.1.1 ∧ (w.2.1 k).1 = 2) ∧ (r < w.1.1 ∧ (w.2.1 r).1 = 4) ∧ ¬ i < 0 ∧ i.toNatClampNeg < (w.2.1 k).2.1 then some (.inl (n, ls, st', jw_mr w k i.toNatClampNeg r)) else none
  | _ => none
def jo_new (ci n : Nat) : jo_P := fun ls st w => if w.1.1 < 1000 ∧ (ls ++ st).all (jw_ok w.1.1) = true then some (.inl (n, ls, .ref w.1.1 :: st, jw_nw w (ci + 3) 0 (jw_nf ci))) else none
/-- a new array: 0 of ints, 1 of booleans, 2 of Moments -/
def jo_na (t n : Nat) : jo_P := fun ls st w => match st with
  | .int i :: st' => if (w.1.1 < 1000 ∧ (ls ++ st').all (jw_ok w.1.1) = true) ∧ ¬ i < 0 ∧ i.toNatClampNeg ≤ 100000 then some (.inl (n, ls, .ref w.1.1 :: st', jw_nw w t i.toNatClampNeg i.toNatClampNeg)) else none
  | _ => none
def jw_cl (Ts : List Cond) (ci : Nat) (C : String) (T : u_T) (N : Nat) : Prop := vwCl[ci]? = some (C, T, N) ∧ N = jw_nf ci ∧ (∀ w ∈ u_ws C T N, w ∈ Ts) ∧ (∀ k, k < N → parseFieldDescriptor (T k).2.2.1 = some (jw_ty ci k)) ∧ (∀ a, a < N → ∀ b, b < N → a ≠ b → (T a).2.1 ≠ (T b).2.1)
theorem jw_ce_obj {cs : Nat → ClassId} {as : Nat → Nat} {w : jw_W} {k ci : Nat} (h : (w.2.1 k).1 = ci + 3) : jw_ce cs as w k = .inr (ci, (List.range (jw_nf ci)).map (jw_fv as w k ci)) := by
  unfold jw_ce
  rw [h]
  rfl
theorem jw_ce_0 {cs : Nat → ClassId} {as : Nat → Nat} {w : jw_W} {k : Nat} (h : (w.2.1 k).1 = 0) : jw_ce cs as w k = .inl (cs 0, (w.2.1 k).2.1, .inl (w.2.2.1 k)) := by
  unfold jw_ce
  rw [h]
  rfl
theorem jw_ce_1 {cs : Nat → ClassId} {as : Nat → Nat} {w : jw_W} {k : Nat} (h : (w.2.1 k).1 = 1) : jw_ce cs as w k = .inl (cs 1, (w.2.1 k).2.1, .inl (w.2.2.1 k)) := by
  unfold jw_ce
  rw [h]
  rfl
theorem jw_ce_2 {cs : Nat → ClassId} {as : Nat → Nat} {w : jw_W} {k : Nat} (h : (w.2.1 k).1 = 2) : jw_ce cs as w k = .inl (cs 2, (w.2.1 k).2.1, .inr (.inr (.inr (.inr (fun i => ((w.2.1 k).2.2 i).map as))))) := by
  unfold jw_ce
  rw [h]
  rfl
theorem jw_ce_congr {cs : Nat → ClassId} {as : Nat → Nat} {w w' : jw_W} {i : Nat} (h1 : w'.2.1 i = w.2.1 i) (h2 : w'.2.2.1 i = w.2.2.1 i) (h3 : w'.2.2.2 i = w.2.2.2 i) : jw_ce cs as w' i = jw_ce cs as w i := by
  have hf : ∀ ci, jw_fv as w' i ci = jw_fv as w i ci := fun ci => by
    funext j
    unfold jw_fv
    rw [h1, h2, h3]
  unfold jw_ce jw_cg
  rw [h1, h2]
  simp only [hf]
theorem jw_fset {N j : Nat} {g g' : Nat → Value} {v : Value} (hj : j < N) (h1 : g' j = v) (h2 : ∀ i, i ≠ j → g' i = g i) : (List.range N).map g' = ((List.range N).map g).set j v := by
  apply List.ext_getElem?
  intro i
  by_cases hi : i < N
  · by_cases hij : j = i
    · subst hij
      rw [List.getElem?_set_self (by simpa using hi)]
      simp [hi, h1]
    · rw [List.getElem?_set_ne hij]
      simp [hi, h2 i (Ne.symm hij)]
  · rw [List.getElem?_eq_none (by simp; omega), List.getElem?_eq_none (by simp; omega)]
section HEAP
variable {own : String} {cc : ByteArray} {nL : Nat} {ret : Option FieldType} {ini : Bool} {Ts : List Cond} {fr lo : Nat} {l : Launch} {pc : Nat}
def jh_H (own : String) (cc : ByteArray) (nL : Nat) (ret : Option FieldType) (ini : Bool) (Ts : List Cond) (l : Launch) (pc : Nat) (ls st : List Value) (w : jw_W) (pc' : Nat) (st' : List Value) (w' : jw_W) : Prop :=
  ∀ (D : va_G) (cs : Nat → ClassId) (A : Nat → Prop) (p : Program) (e : Env) (R : Room) (s : State) (m : MethodId) (args : Array Value) (below : List Frame) (meth : Method) (c : Code) (Q : State → Prop) (H : Heap) (locs : List Loc) (cells slots : Nat) (as : Nat → Nat) (la : Array Slot), jc_C own cc nL ret ini D cs Ts A p s m args meth c → jw_Z D cs as w A s.heap H locs →
    (∀ H1 locs1, jw_Z D cs as w' A s.heap H1 locs1 → W p l e R s m args below meth c H1 locs1 cells slots Q (F0 m pc' la (st'.map (jw_rn as)))) → W p l e R s m args below meth c H locs cells slots Q (F0 m pc la (st.map (jw_rn as)))
theorem jb_heap {op : jo_P} (h : ∀ ls st w o, op ls st w = some o → ∃ pc' st' w', o = .inl (pc', ls, st', w') ∧ w'.1 = w.1 ∧ jh_H own cc nL ret ini Ts l pc ls st w pc' st' w') : jc_B own cc nL ret ini Ts fr lo l pc op := by
  refine ⟨fun D cs A as0 w0 p e R s m args below meth c Q hC hfr hlo ls st w pc' ls' st' w' ho => ?_, fun D cs A as0 w0 p e R s m args below meth c hC ls st w r w' ho => ?_⟩
  · obtain ⟨pc1, st1, w1, e1, h0, h1⟩ := h ls st w _ ho
    cases e1
    refine ⟨⟨by rw [h0]; exact Nat.le_refl _, by rw [h0]; exact Nat.le_refl _⟩, fun hc hs hG as H locs la hZ hE hL => ?_⟩
    have hE' : jw_E as0 w0 as w' := by unfold jw_E; rw [h0]; exact hE
    refine h1 D cs A p e R s m args below meth c Q H locs _ _ as la hC hZ (fun H1 locs1 hZ1 => ?_)
    have := hG as H1 locs1 la hZ1 hE' hL
    rw [h0] at this
    exact this
  · obtain ⟨pc1, st1, w1, e1, h0, h1⟩ := h ls st w _ ho
    cases e1
theorem js_gI {ci j i : Nat} {C : String} {T : u_T} {N : Nat} (hcl : jw_cl Ts ci C T N) (hj : j < N) (hft : jw_ft ci j = 0) (hd : decode cc pc = .ok (.getfield i, 3)) (hw : Cond.fieldLink own i (T j).1 (T j).2.1 (T j).2.2.1 ∈ Ts) : jc_B own cc nL ret ini Ts fr lo l pc (jo_gI ci j (pc + 3)) :=
  jb_heap fun ls st w o ho => by
    unfold jo_gI at ho
    split at ho
    · rename_i k st'
      split at ho
      · rename_i hk
        cases ho
        refine ⟨_, _, _, rfl, rfl, fun D cs A p e R s m args below meth c Q H locs cells slots as la hC hZ kk => ?_⟩
        obtain ⟨h1, h2, h3, h4, h5⟩ := hcl
        refine va_get hC.1 hC.2.1 hC.2.2.2.2.1 h3 hC.2.2.2.1 hC.2.2.2.2.2.2.2.2.1 hZ.1 k ((jw_at hk.1).trans (by rw [jw_ce_obj hk.2])) h1 j hj (hC.2.2.2.2.1 _ hw) (fun _ h => h) (v := .int (w.2.2.1 k j)) ?_ hd (kk H locs hZ)
        rw [h2] at hj
        simp [hj, jw_fv, hft]
      · cases ho
    · cases ho
theorem js_gIN {ci j i : Nat} {C host : String} {T : u_T} {N : Nat} (hcl : jw_cl Ts ci C T N) (hj : j < N) (hft : jw_ft ci j = 0) (hd : decode cc pc = .ok (.getfield i, 3)) (hw : Cond.fieldLinkNest own i (T j).1 (T j).2.1 (T j).2.2.1 host ∈ lw_tbl) : jc_B own cc nL ret ini Ts fr lo l pc (jo_gI ci j (pc + 3)) :=
  jb_heap fun ls st w o ho => by
    unfold jo_gI at ho
    split at ho
    · rename_i k st'
      split at ho
      · rename_i hk
        cases ho
        refine ⟨_, _, _, rfl, rfl, fun D cs A p e R s m args below meth c Q H locs cells slots as la hC hZ kk => ?_⟩
        obtain ⟨h1, h2, h3, h4, h5⟩ := hcl
        refine va_getN hC.1 hC.2.1 hC.2.2.2.2.1 h3 hC.2.2.2.1 hC.2.2.2.2.2.2.2.2.1 hZ.1 k ((jw_at hk.1).trans (by rw [jw_ce_obj hk.2])) h1 j hj (va_Nw.use rfl (hC.2.2.2.2.2.2.2.2.2.1.1 _ hw rfl)) (fun _ h => h) (v := .int (w.2.2.1 k j)) ?_ hd (kk H locs hZ)
        rw [h2] at hj
        simp [hj, jw_fv, hft]
      · cases ho
    · cases ho
theorem js_gL {ci j i : Nat} {C : String} {T : u_T} {N : Nat} (hcl : jw_cl Ts ci C T N) (hj : j < N) (hft : jw_ft ci j = 1) (hd : decode cc pc = .ok (.getfield i, 3)) (hw : Cond.fieldLink own i (T j).1 (T j).2.1 (T j).2.2.1 ∈ Ts) : jc_B own cc nL ret ini Ts fr lo l pc (jo_gL ci j (pc + 3)) :=
  jb_heap fun ls st w o ho => by
    unfold jo_gL at ho
    split at ho
    · rename_i k st'
      split at ho
      · rename_i hk
        cases ho
        refine ⟨_, _, _, rfl, rfl, fun D cs A p e R s m args below meth c Q H locs cells slots as la hC hZ kk => ?_⟩
        obtain ⟨h1, h2, h3, h4, h5⟩ := hcl
        refine va_get hC.1 hC.2.1 hC.2.2.2.2.1 h3 hC.2.2.2.1 hC.2.2.2.2.2.2.2.2.1 hZ.1 k ((jw_at hk.1).trans (by rw [jw_ce_obj hk.2])) h1 j hj (hC.2.2.2.2.1 _ hw) (fun _ h => h) (v := .long (w.2.2.2 k j)) ?_ hd (kk H locs hZ)
        rw [h2] at hj
        simp [hj, jw_fv, hft]
      · cases ho
    · cases ho
theorem js_gR {ci j i : Nat} {C : String} {T : u_T} {N : Nat} (hcl : jw_cl Ts ci C T N) (hj : j < N) (hft : jw_ft ci j = 2) (hd : decode cc pc = .ok (.getfield i, 3)) (hw : Cond.fieldLink own i (T j).1 (T j).2.1 (T j).2.2.1 ∈ Ts) : jc_B own cc nL ret ini Ts fr lo l pc (jo_gR ci j (pc + 3)) :=
  jb_heap fun ls st w o ho => by
    unfold jo_gR at ho
    split at ho
    · rename_i k st'
      split at ho
      · rename_i r hr
        split at ho
        · rename_i hk
          cases ho
          refine ⟨_, _, _, rfl, rfl, fun D cs A p e R s m args below meth c Q H locs cells slots as la hC hZ kk => ?_⟩
          obtain ⟨h1, h2, h3, h4, h5⟩ := hcl
          refine va_get hC.1 hC.2.1 hC.2.2.2.2.1 h3 hC.2.2.2.1 hC.2.2.2.2.2.2.2.2.1 hZ.1 k ((jw_at hk.1).trans (by rw [jw_ce_obj hk.2])) h1 j hj (hC.2.2.2.2.1 _ hw) (fun _ h => h) (v := .ref (as r)) ?_ hd (kk H locs hZ)
          rw [h2] at hj
          simp [hj, jw_fv, hft, hr, va_rf]
        · cases ho
      · cases ho
    · cases ho
theorem js_gRN {ci j i : Nat} {C host : String} {T : u_T} {N : Nat} (hcl : jw_cl Ts ci C T N) (hj : j < N) (hft : jw_ft ci j = 2) (hd : decode cc pc = .ok (.getfield i, 3)) (hw : Cond.fieldLinkNest own i (T j).1 (T j).2.1 (T j).2.2.1 host ∈ lw_tbl) : jc_B own cc nL ret ini Ts fr lo l pc (jo_gR ci j (pc + 3)) :=
  jb_heap fun ls st w o ho => by
    unfold jo_gR at ho
    split at ho
    · rename_i k st'
      split at ho
      · rename_i r hr
        split at ho
        · rename_i hk
          cases ho
          refine ⟨_, _, _, rfl, rfl, fun D cs A p e R s m args below meth c Q H locs cells slots as la hC hZ kk => ?_⟩
          obtain ⟨h1, h2, h3, h4, h5⟩ := hcl
          refine va_getN hC.1 hC.2.1 hC.2.2.2.2.1 h3 hC.2.2.2.1 hC.2.2.2.2.2.2.2.2.1 hZ.1 k ((jw_at hk.1).trans (by rw [jw_ce_obj hk.2])) h1 j hj (va_Nw.use rfl (hC.2.2.2.2.2.2.2.2.2.1.1 _ hw rfl)) (fun _ h => h) (v := .ref (as r)) ?_ hd (kk H locs hZ)
          rw [h2] at hj
          simp [hj, jw_fv, hft, hr, va_rf]
        · cases ho
      · cases ho
    · cases ho
theorem jw_Z_of {D : va_G} {cs : Nat → ClassId} {as : Nat → Nat} {w w' : jw_W} {A : Nat → Prop} {H0 H1 : Heap} {locs : List Loc} {k : Nat} {e : va_E} (hc : w'.1.1 = w.1.1) (hwf : jw_WF w') (he : jw_ce cs as w' k = e) (ho : ∀ i, i ≠ k → jw_ce cs as w' i = jw_ce cs as w i) (h1 : va_P D vwCl ((jw_wl cs as w).set k (as k, e)) H1) (h2 : va_D A ((jw_wl cs as w).set k (as k, e))) (h3 : va_S A H0 H1 locs) : jw_Z D cs as w' A H0 H1 locs := by
  rw [jw_set (w := w) (w' := w') hc he ho] at h1 h2
  exact ⟨h1, h2, h3, hwf⟩
theorem jw_Z_mi {D : va_G} {cs : Nat → ClassId} {as : Nat → Nat} {w : jw_W} {A : Nat → Prop} {H0 H1 : Heap} {locs : List Loc} {k j : Nat} {x : Int32} {e : va_E} (hwf : jw_WF w) (he : jw_ce cs as (jw_mi w k j x) k = e) (h1 : va_P D vwCl ((jw_wl cs as w).set k (as k, e)) H1) (h2 : va_D A ((jw_wl cs as w).set k (as k, e))) (h3 : va_S A H0 H1 locs) : jw_Z D cs as (jw_mi w k j x) A H0 H1 locs := by
  rw [jw_set (w := w) (w' := jw_mi w k j x) rfl he (fun i hi => jw_ce_congr rfl (if_neg hi) rfl)] at h1 h2
  exact ⟨h1, h2, h3, hwf⟩
theorem jw_mi_obj {cs : Nat → ClassId} {as : Nat → Nat} {w : jw_W} {k ci j : Nat} {x : Int32} (h : (w.2.1 k).1 = ci + 3) (hj : j < jw_nf ci) (hft : jw_ft ci j = 0) : jw_ce cs as (jw_mi w k j x) k = .inr (ci, ((List.range (jw_nf ci)).map (jw_fv as w k ci)).set j (.int x)) := by
  rw [jw_ce_obj (w := jw_mi w k j x) h, jw_fset hj (g := jw_fv as w k ci) (v := .int x)]
  · simp [jw_fv, hft, jw_mi, upd]
  · intro i hi
    unfold jw_fv
    simp [jw_mi, upd, hi]
theorem js_pI {ci j i : Nat} {C : String} {T : u_T} {N : Nat} (hcl : jw_cl Ts ci C T N) (hj : j < N) (hty : jw_ty ci j = .int) (hfin : (T j).2.2.2 = false) (hd : decode cc pc = .ok (.putfield i, 3)) (hw : Cond.fieldLink own i (T j).1 (T j).2.1 (T j).2.2.1 ∈ Ts) : jc_B own cc nL ret ini Ts fr lo l pc (jo_pI ci j (pc + 3)) :=
  jb_heap fun ls st w o ho => by
    have hft : jw_ft ci j = 0 := by unfold jw_ft; rw [hty]
    unfold jo_pI at ho
    split at ho
    · rename_i x k st'
      split at ho
      · rename_i hk
        cases ho
        refine ⟨_, _, _, rfl, rfl, fun D cs A p e R s m args below meth c Q H locs cells slots as la hC hZ kk => ?_⟩
        obtain ⟨h1, h2, h3, h4, h5⟩ := hcl
        have h4j := h4 j hj
        rw [hty] at h4j
        exact va_put hC.1 hC.2.1 hC.2.2.2.2.1 h3 (jw_ty ci) h4 h5 hC.2.2.2.1 hC.2.2.2.2.2.2.2.2.1 hZ.1 hZ.2.1 hZ.2.2.1 k ((jw_at hk.1).trans (by rw [jw_ce_obj hk.2])) h1 j hj (hC.2.2.2.2.1 _ hw) (fun _ h => h) hfin h4j rfl rfl (by rw [← h2]; simpa using hj) hd (fun H1 locs1 g1 g2 g3 => kk H1 locs1 (jw_Z_mi hZ.2.2.2 (jw_mi_obj hk.2 (h2 ▸ hj) hft) g1 g2 g3))
      · cases ho
    · cases ho
theorem js_pIN {ci j i : Nat} {C host : String} {T : u_T} {N : Nat} (hcl : jw_cl Ts ci C T N) (hj : j < N) (hty : jw_ty ci j = .int) (hfin : (T j).2.2.2 = false) (hd : decode cc pc = .ok (.putfield i, 3)) (hw : Cond.fieldLinkNest own i (T j).1 (T j).2.1 (T j).2.2.1 host ∈ lw_tbl) : jc_B own cc nL ret ini Ts fr lo l pc (jo_pI ci j (pc + 3)) :=
  jb_heap fun ls st w o ho => by
    have hft : jw_ft ci j = 0 := by unfold jw_ft; rw [hty]
    unfold jo_pI at ho
    split at ho
    · rename_i x k st'
      split at ho
      · rename_i hk
        cases ho
        refine ⟨_, _, _, rfl, rfl, fun D cs A p e R s m args below meth c Q H locs cells slots as la hC hZ kk => ?_⟩
        obtain ⟨h1, h2, h3, h4, h5⟩ := hcl
        have h4j := h4 j hj
        rw [hty] at h4j
        exact va_putN hC.1 hC.2.1 hC.2.2.2.2.1 h3 (jw_ty ci) h4 h5 hC.2.2.2.1 hC.2.2.2.2.2.2.2.2.1 hZ.1 hZ.2.1 hZ.2.2.1 k ((jw_at hk.1).trans (by rw [jw_ce_obj hk.2])) h1 j hj (va_Nw.use rfl (hC.2.2.2.2.2.2.2.2.2.1.1 _ hw rfl)) (fun _ h => h) hfin h4j rfl rfl (by rw [← h2]; simpa using hj) hd (fun H1 locs1 g1 g2 g3 => kk H1 locs1 (jw_Z_mi hZ.2.2.2 (jw_mi_obj hk.2 (h2 ▸ hj) hft) g1 g2 g3))
      · cases ho
    · cases ho
theorem js_pZ {ci j i : Nat} {C : String} {T : u_T} {N : Nat} (hcl : jw_cl Ts ci C T N) (hj : j < N) (hty : jw_ty ci j = .boolean) (hfin : (T j).2.2.2 = false) (hd : decode cc pc = .ok (.putfield i, 3)) (hw : Cond.fieldLink own i (T j).1 (T j).2.1 (T j).2.2.1 ∈ Ts) : jc_B own cc nL ret ini Ts fr lo l pc (jo_pZ ci j (pc + 3)) :=
  jb_heap fun ls st w o ho => by
    have hft : jw_ft ci j = 0 := by unfold jw_ft; rw [hty]
    unfold jo_pZ at ho
    split at ho
    · rename_i x k st'
      split at ho
      · rename_i hk
        cases ho
        refine ⟨_, _, _, rfl, rfl, fun D cs A p e R s m args below meth c Q H locs cells slots as la hC hZ kk => ?_⟩
        obtain ⟨h1, h2, h3, h4, h5⟩ := hcl
        have h4j := h4 j hj
        rw [hty] at h4j
        exact va_put hC.1 hC.2.1 hC.2.2.2.2.1 h3 (jw_ty ci) h4 h5 hC.2.2.2.1 hC.2.2.2.2.2.2.2.2.1 hZ.1 hZ.2.1 hZ.2.2.1 k ((jw_at hk.1.1).trans (by rw [jw_ce_obj hk.1.2])) h1 j hj (hC.2.2.2.2.1 _ hw) (fun _ h => h) hfin h4j hk.2.1 hk.2.2 (by rw [← h2]; simpa using hj) hd (fun H1 locs1 g1 g2 g3 => kk H1 locs1 (jw_Z_mi hZ.2.2.2 (jw_mi_obj hk.1.2 (h2 ▸ hj) hft) g1 g2 g3))
      · cases ho
    · cases ho
theorem js_pL {ci j i : Nat} {C : String} {T : u_T} {N : Nat} (hcl : jw_cl Ts ci C T N) (hj : j < N) (hty : jw_ty ci j = .long) (hfin : (T j).2.2.2 = false) (hd : decode cc pc = .ok (.putfield i, 3)) (hw : Cond.fieldLink own i (T j).1 (T j).2.1 (T j).2.2.1 ∈ Ts) : jc_B own cc nL ret ini Ts fr lo l pc (jo_pL ci j (pc + 3)) :=
  jb_heap fun ls st w o ho => by
    have hft : jw_ft ci j = 1 := by unfold jw_ft; rw [hty]
    unfold jo_pL at ho
    split at ho
    · rename_i x k st'
      split at ho
      · rename_i hk
        cases ho
        refine ⟨_, _, _, rfl, rfl, fun D cs A p e R s m args below meth c Q H locs cells slots as la hC hZ kk => ?_⟩
        obtain ⟨h1, h2, h3, h4, h5⟩ := hcl
        have h4j := h4 j hj
        rw [hty] at h4j
        refine va_put hC.1 hC.2.1 hC.2.2.2.2.1 h3 (jw_ty ci) h4 h5 hC.2.2.2.1 hC.2.2.2.2.2.2.2.2.1 hZ.1 hZ.2.1 hZ.2.2.1 k ((jw_at hk.1).trans (by rw [jw_ce_obj hk.2])) h1 j hj (hC.2.2.2.2.1 _ hw) (fun _ h => h) hfin h4j rfl rfl (by rw [← h2]; simpa using hj) hd (fun H1 locs1 g1 g2 g3 => kk H1 locs1 ?_)
        have he : jw_ce cs as (jw_ml w k j x) k = .inr (ci, ((List.range (jw_nf ci)).map (jw_fv as w k ci)).set j (.long x)) := by
          rw [jw_ce_obj (w := jw_ml w k j x) hk.2, jw_fset (h2 ▸ hj) (g := jw_fv as w k ci) (v := .long x)]
          · simp [jw_fv, hft, jw_ml, vp_updL]
          · intro i hi
            unfold jw_fv
            simp [jw_ml, vp_updL, hi]
        exact jw_Z_of (w := w) rfl hZ.2.2.2 he (fun i hi => jw_ce_congr rfl rfl (if_neg hi)) g1 g2 g3
      · cases ho
    · cases ho
theorem jw_WF_mr {w : jw_W} {k j r : Nat} (h : jw_WF w) (hr : r < w.1.1) (hk0 : k < w.1.1) : jw_WF (jw_mr w k j r) := by
  intro k' hk' j' r' h'
  show r' < w.1.1
  simp only [jw_mr] at h' hk'
  by_cases e : k' = k
  · rw [if_pos e] at h'
    simp only [va_up] at h'
    by_cases e2 : j' = j
    · rw [if_pos e2] at h'
      cases h'
      exact hr
    · rw [if_neg e2] at h'
      exact h k hk0 j' r' h'
  · rw [if_neg e] at h'
    exact h k' hk' j' r' h'
theorem js_pR {ci j i : Nat} {C : String} {T : u_T} {N : Nat} {ty : FieldType} (hcl : jw_cl Ts ci C T N) (hj : j < N) (hty : jw_ty ci j = ty) (hft : jw_ft ci j = 2) (hn : ∀ a, narrow ty (.ref a) = .ref a) (hfi : ∀ a, fits ty (.ref a) = true) (hfin : (T j).2.2.2 = true) (hown : (T j).1 = own) (hin : ini = true) (hd : decode cc pc = .ok (.putfield i, 3)) (hw : Cond.fieldLink own i (T j).1 (T j).2.1 (T j).2.2.1 ∈ Ts) : jc_B own cc nL ret ini Ts fr lo l pc (jo_pR ci j (pc + 3)) :=
  jb_heap fun ls st w o ho => by
    unfold jo_pR at ho
    split at ho
    · rename_i r k st'
      split at ho
      · rename_i hk
        cases ho
        refine ⟨_, _, _, rfl, rfl, fun D cs A p e R s m args below meth c Q H locs cells slots as la hC hZ kk => ?_⟩
        obtain ⟨h1, h2, h3, h4, h5⟩ := hcl
        have h4j := h4 j hj
        rw [hty] at h4j
        refine va_putF hC.1 hC.2.1 hC.2.2.2.2.1 h3 (jw_ty ci) h4 h5 hC.2.2.2.1 hC.2.2.2.2.2.2.2.2.1 hZ.1 hZ.2.1 hZ.2.2.1 k ((jw_at hk.1).trans (by rw [jw_ce_obj hk.2.1])) h1 j hj (hC.2.2.2.2.1 _ hw) (fun _ h => h) hfin (hC.2.2.2.2.2.2.2.1 hin) hown h4j (hn _) (hfi _) (by rw [← h2]; simpa using hj) hd (fun H1 locs1 g1 g2 g3 => kk H1 locs1 ?_)
        have he : jw_ce cs as (jw_mr w k j r) k = .inr (ci, ((List.range (jw_nf ci)).map (jw_fv as w k ci)).set j (.ref (as r))) := by
          rw [jw_ce_obj (w := jw_mr w k j r) (by simp [jw_mr]; exact hk.2.1), jw_fset (h2 ▸ hj) (g := jw_fv as w k ci) (v := .ref (as r))]
          · simp [jw_fv, hft, jw_mr, va_up, va_rf]
          · intro i hi
            unfold jw_fv
            simp [jw_mr, va_up, hi]
        exact jw_Z_of (w := w) rfl (jw_WF_mr hZ.2.2.2 hk.2.2 hk.1) he (fun i hi => jw_ce_congr (if_neg hi) rfl rfl) g1 g2 g3
      · cases ho
    · cases ho
theorem js_iald (hd : decode cc pc = .ok (.iaload, 1)) : jc_B own cc nL ret ini Ts fr lo l pc (jo_al 0 (pc + 1)) :=
  jb_heap fun ls st w o ho => by
    unfold jo_al at ho
    split at ho
    · rename_i i k st'
      split at ho
      · rename_i hk
        cases ho
        refine ⟨_, _, _, rfl, rfl, fun D cs A p e R s m args below meth c Q H locs cells slots as la hC hZ kk => ?_⟩
        exact va_iald hC.1 hC.2.1 hC.2.2.2.2.2.2.2.2.1 hZ.1 k 0 ((jw_at hk.1.1).trans (by rw [jw_ce_0 hk.1.2])) rfl (fun h => h.elim hk.2.1 (fun h => absurd hk.2.2 (Nat.not_lt.mpr h))) hd (kk H locs hZ)
      · cases ho
    · cases ho
theorem js_zald (hd : decode cc pc = .ok (.baload, 1)) : jc_B own cc nL ret ini Ts fr lo l pc (jo_al 1 (pc + 1)) :=
  jb_heap fun ls st w o ho => by
    unfold jo_al at ho
    split at ho
    · rename_i i k st'
      split at ho
      · rename_i hk
        cases ho
        refine ⟨_, _, _, rfl, rfl, fun D cs A p e R s m args below meth c Q H locs cells slots as la hC hZ kk => ?_⟩
        exact va_zald hC.1 hC.2.1 hC.2.2.2.2.2.2.2.2.1 hZ.1 k 1 ((jw_at hk.1.1).trans (by rw [jw_ce_1 hk.1.2])) rfl (fun h => h.elim hk.2.1 (fun h => absurd hk.2.2 (Nat.not_lt.mpr h))) hd (kk H locs hZ)
      · cases ho
    · cases ho
theorem js_iast (hd : decode cc pc = .ok (.iastore, 1)) : jc_B own cc nL ret ini Ts fr lo l pc (jo_as (pc + 1)) :=
  jb_heap fun ls st w o ho => by
    unfold jo_as at ho
    split at ho
    · rename_i x i k st'
      split at ho
      · rename_i hk
        cases ho
        refine ⟨_, _, _, rfl, rfl, fun D cs A p e R s m args below meth c Q H locs cells slots as la hC hZ kk => ?_⟩
        refine va_iast hC.1 hC.2.1 hC.2.2.2.2.2.2.2.2.1 hZ.1 hZ.2.1 hZ.2.2.1 k 0 ((jw_at hk.1.1).trans (by rw [jw_ce_0 hk.1.2])) rfl (fun h => h.elim hk.2.1 (fun h => absurd hk.2.2 (Nat.not_lt.mpr h))) hd (fun H1 locs1 g1 g2 g3 => kk H1 locs1 (jw_Z_mi hZ.2.2.2 ?_ g1 g2 g3))
        rw [jw_ce_0 (w := jw_mi w k i.toNatClampNeg x) hk.1.2]
        simp [jw_mi]
      · cases ho
    · cases ho
theorem js_zast (hd : decode cc pc = .ok (.bastore, 1)) : jc_B own cc nL ret ini Ts fr lo l pc (jo_zs (pc + 1)) :=
  jb_heap fun ls st w o ho => by
    unfold jo_zs at ho
    split at ho
    · rename_i x i k st'
      split at ho
      · rename_i hk
        cases ho
        refine ⟨_, _, _, rfl, rfl, fun D cs A p e R s m args below meth c Q H locs cells slots as la hC hZ kk => ?_⟩
        refine va_zast hC.1 hC.2.1 hC.2.2.2.2.2.2.2.2.1 hZ.1 hZ.2.1 hZ.2.2.1 k 1 ((jw_at hk.1.1).trans (by rw [jw_ce_1 hk.1.2])) rfl (fun h => h.elim hk.2.1 (fun h => absurd hk.2.2 (Nat.not_lt.mpr h))) hd (fun H1 locs1 g1 g2 g3 => kk H1 locs1 (jw_Z_mi hZ.2.2.2 ?_ g1 g2 g3))
        rw [jw_ce_1 (w := jw_mi w k i.toNatClampNeg (vp_nar .boolean x)) hk.1.2]
        simp [jw_mi]
      · cases ho
    · cases ho
theorem js_rald (hd : decode cc pc = .ok (.aaload, 1)) : jc_B own cc nL ret ini Ts fr lo l pc (jo_rl (pc + 1)) :=
  jb_heap fun ls st w o ho => by
    unfold jo_rl at ho
    split at ho
    · rename_i i k st'
      split at ho
      · rename_i r hr
        split at ho
        · rename_i hk
          cases ho
          refine ⟨_, _, _, rfl, rfl, fun D cs A p e R s m args below meth c Q H locs cells slots as la hC hZ kk => ?_⟩
          refine va_aldq hC.1 hC.2.1 hC.2.2.2.2.2.2.2.2.1 hZ.1 k 2 ((jw_at hk.1.1).trans (by rw [jw_ce_2 hk.1.2])) rfl (fun h => h.elim hk.2.1 (fun h => absurd hk.2.2 (Nat.not_lt.mpr h))) hd ?_
          rw [hr]
          exact kk H locs hZ
        · cases ho
      · cases ho
    · cases ho
theorem js_rast (hd : decode cc pc = .ok (.aastore, 1)) : jc_B own cc nL ret ini Ts fr lo l pc (jo_rs (pc + 1)) :=
  jb_heap fun ls st w o ho => by
    unfold jo_rs at ho
    split at ho
    · rename_i r i k st'
      split at ho
      · rename_i hk
        cases ho
        refine ⟨_, _, _, rfl, rfl, fun D cs A p e R s m args below meth c Q H locs cells slots as la hC hZ kk => ?_⟩
        refine va_astq hC.1 hC.2.1 hC.2.2.2.2.2.2.2.2.1 hZ.1 hZ.2.1 hZ.2.2.1 k 2 r 1 (r := (RX1, TX1, 6)) ((jw_at hk.1.1).trans (by rw [jw_ce_2 hk.1.2])) rfl ((jw_at hk.2.1.1).trans (by rw [jw_ce_obj (ci := 1) hk.2.1.2])) rfl (fun h => h.elim hk.2.2.1 (fun h => absurd hk.2.2.2 (Nat.not_lt.mpr h))) hd (fun H1 locs1 g1 g2 g3 => kk H1 locs1 ?_)
        have he : jw_ce cs as (jw_mr w k i.toNatClampNeg r) k = .inl (cs 2, (w.2.1 k).2.1, .inr (.inr (.inr (.inr (va_up (fun i => ((w.2.1 k).2.2 i).map as) i.toNatClampNeg (some (as r))))))) := by
          rw [jw_ce_2 (w := jw_mr w k i.toNatClampNeg r) (by simp [jw_mr]; exact hk.1.2)]
          simp only [jw_mr, if_true]
          congr 7
          funext j
          unfold va_up
          split <;> rfl
        exact jw_Z_of (w := w) rfl (jw_WF_mr hZ.2.2.2 hk.2.1.1 hk.1.1) he (fun i hi => jw_ce_congr (if_neg hi) rfl rfl) g1 g2 g3
      · cases ho
    · cases ho
end HEAP

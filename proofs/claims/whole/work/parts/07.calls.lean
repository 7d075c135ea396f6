/-! ===== new cells, calls ===== -/
theorem jw_ce_ren {cs : Nat → ClassId} {as as' : Nat → Nat} {w : jw_W} {k : Nat} (h : ∀ j r, (w.2.1 k).2.2 j = some r → as' r = as r) : jw_ce cs as' w k = jw_ce cs as w k := by
  have h1 : ∀ j, ((w.2.1 k).2.2 j).map as' = ((w.2.1 k).2.2 j).map as := fun j => by
    cases hj : (w.2.1 k).2.2 j with
    | none => rfl
    | some r => simp [h j r hj]
  have h2 : ∀ ci, jw_fv as' w k ci = jw_fv as w k ci := fun ci => by
    funext j
    unfold jw_fv
    rw [h1 j]
  unfold jw_ce jw_cg
  simp only [h1, h2]
theorem jw_wl_nw {cs : Nat → ClassId} {as : Nat → Nat} {w : jw_W} {t n sl q : Nat} (hwf : jw_WF w) : jw_wl cs (va_up as w.1.1 q) (jw_nw w t n sl) = jw_wl cs as w ++ [(q, jw_ce cs (va_up as w.1.1 q) (jw_nw w t n sl) w.1.1)] := by
  have hl : ∀ k, k < w.1.1 → va_up as w.1.1 q k = as k := fun k hk => if_neg (Nat.ne_of_lt hk)
  show (List.range (w.1.1 + 1)).map _ = _
  rw [List.range_succ, List.map_append]
  congr 1
  · apply List.map_congr_left
    intro k hk
    have hk := List.mem_range.mp hk
    have hn := Nat.ne_of_lt hk
    rw [hl k hk, jw_ce_congr (w := w) (if_neg hn) (if_neg hn) (if_neg hn), jw_ce_ren (fun j r hr => hl r (hwf k hk j r hr))]
  · show [(va_up as w.1.1 q w.1.1, _)] = _
    rw [show va_up as w.1.1 q w.1.1 = q from if_pos rfl]
theorem jw_WF_nw {w : jw_W} {t n sl : Nat} (hwf : jw_WF w) : jw_WF (jw_nw w t n sl) := by
  intro k hk j r hr
  show r < w.1.1 + 1
  simp only [jw_nw] at hk hr
  by_cases e : k = w.1.1
  · rw [if_pos e] at hr
    cases hr
  · rw [if_neg e] at hr
    have := hwf k (by omega) j r hr
    omega
theorem jw_Lo.ren {as as' : Nat → Nat} {nL : Nat} {la : Array Slot} {ls : List Value} (h : jw_Lo as nL la ls) (hr : ∀ v ∈ ls, jw_rn as' v = jw_rn as v) : jw_Lo as' nL la ls :=
  ⟨h.1, h.2.1, h.2.2.1, h.2.2.2.1, fun i v hv hn => by rw [hr v (List.mem_of_getElem? hv)]; exact h.2.2.2.2 i v hv hn⟩
theorem jw_map_ren {as as' : Nat → Nat} {st : List Value} (hr : ∀ v ∈ st, jw_rn as' v = jw_rn as v) : st.map (jw_rn as') = st.map (jw_rn as) := List.map_congr_left hr
theorem jw_E_nw {as0 as : Nat → Nat} {w0 w : jw_W} {t n sl q : Nat} (h : jw_E as0 w0 as w) : jw_E as0 w0 (va_up as w.1.1 q) (jw_nw w t n sl) := by
  obtain ⟨h1, h2, h3⟩ := h
  refine ⟨fun k hk => ?_, ?_, ?_⟩
  · show (if k = w.1.1 then q else as k) = as0 k
    have hk : k < w0.1.1 ∨ w.1.1 + 1 ≤ k := hk
    rw [if_neg (by omega)]
    exact h1 k (by omega)
  · show w0.1.1 ≤ w.1.1 + 1
    omega
  · show w0.1.2 ≤ w.1.2 + sl
    omega
theorem jw_va_up_ok {as : Nat → Nat} {n q : Nat} {vs : List Value} (hn : n < 1000) (h : vs.all (jw_ok n) = true) : ∀ v ∈ vs, jw_rn (va_up as n q) v = jw_rn as v := fun v hv =>
  jw_rn_ok (n := n) (n' := n + 1) (fun k hk => if_neg (by omega)) (by omega) (List.all_eq_true.mp h v hv)
section NEWC
variable {own : String} {cc : ByteArray} {nL : Nat} {ret : Option FieldType} {ini : Bool} {Ts : List Cond} {fr lo : Nat} {l : Launch} {pc : Nat}
theorem js_new {ci i : Nat} {C : String} {T : u_T} {N : Nat} (hcl : jw_cl Ts ci C T N) (hdf : ∀ j, j < N → defaultValue (jw_ty ci j) = match jw_ft ci j with | 0 => Value.int 0 | 1 => Value.long 0 | _ => Value.null) (hd : decode cc pc = .ok (.new i, 3)) (h1 : Cond.classLink own i C ∈ Ts) (h2 : Cond.instantiable C N ∈ Ts) (h3 : Cond.initialized C ∈ Ts) : jc_B own cc nL ret ini Ts fr lo l pc (jo_new ci (pc + 3)) := by
  refine ⟨fun D cs A as0 w0 p e R s m args below meth c Q hC hfr hlo ls st w pc' ls' st' w' ho => ?_, fun D cs A as0 w0 p e R s m args below meth c hC ls st w r w' ho => ?_⟩
  · unfold jo_new at ho
    split at ho
    · rename_i hok
      cases ho
      refine ⟨⟨Nat.le_succ _, Nat.le_add_right _ _⟩, fun hc hs hG as H locs la hZ hE hL => ?_⟩
      obtain ⟨g1, g2, g3, g4, g5⟩ := hcl
      have hc : w.1.1 + 1 - w0.1.1 ≤ R.cells := hc
      have hs : w.1.2 + jw_nf ci - w0.1.2 ≤ R.slots := hs
      have e1 := hE.2.1
      have e2 := hE.2.2
      refine va_new (fs := (List.range (jw_nf ci)).map (fun j => match jw_ft ci j with | 0 => Value.int 0 | 1 => Value.long 0 | _ => Value.null)) hC.1 hC.2.1 hC.2.2.2.2.1 g3 (jw_ty ci) g4 hC.2.2.2.1 (hC.2.2.2.2.1 _ h1) (hC.2.2.2.2.1 _ h2) (hC.2.2.2.2.1 _ h3) hC.2.2.2.2.2.2.2.2.1 hZ.1 hZ.2.1 hZ.2.2.1 hC.2.2.2.2.2.2.2.2.2.2 g1 (fun j hj => ?_) (by omega) (by omega) hd (fun q H1 k1 k2 k3 => ?_)
      · rw [hdf j hj]
        rw [g2] at hj
        simp [vp_V, List.getD_eq_getElem?_getD, hj]
      · have ha := List.all_eq_true.mp hok.2
        have hv := jw_va_up_ok (as := as) (q := q) hok.1 hok.2
        have hG1 := hG (va_up as w.1.1 q) H1 locs la
        have hw := jw_wl_nw (cs := cs) (as := as) (t := ci + 3) (n := 0) (sl := jw_nf ci) (q := q) hZ.2.2.2
        have he : jw_ce cs (va_up as w.1.1 q) (jw_nw w (ci + 3) 0 (jw_nf ci)) w.1.1 = .inr (ci, (List.range (jw_nf ci)).map (fun j => match jw_ft ci j with | 0 => Value.int 0 | 1 => Value.long 0 | _ => Value.null)) := by
          rw [jw_ce_obj (ci := ci) (by simp [jw_nw])]
          congr 2
          apply List.map_congr_left
          intro j _
          unfold jw_fv
          simp only [jw_nw, if_true]
          split <;> first | rfl | simp_all [va_rf]
        rw [he] at hw
        have hG2 := hG1 (by unfold jw_Z; rw [hw]; exact ⟨k1, k2, k3, jw_WF_nw hZ.2.2.2⟩) (jw_E_nw hE) (hL.ren (fun v hv' => hv v (List.mem_append_left _ hv')))
        have e3 : (jw_nw w (ci + 3) 0 (jw_nf ci)).1.1 - w0.1.1 = w.1.1 - w0.1.1 + 1 := by show w.1.1 + 1 - w0.1.1 = _; omega
        have e4 : (jw_nw w (ci + 3) 0 (jw_nf ci)).1.2 - w0.1.2 = w.1.2 - w0.1.2 + N := by show w.1.2 + jw_nf ci - w0.1.2 = _; omega
        rw [e3, e4, List.map_cons, jw_map_ren (fun v hv' => hv v (List.mem_append_right _ hv'))] at hG2
        have e5 : jw_rn (va_up as w.1.1 q) (.ref w.1.1) = .ref q := by show Value.ref (va_up as w.1.1 q w.1.1) = _; rw [show va_up as w.1.1 q w.1.1 = q from if_pos rfl]
        rw [e5] at hG2
        exact hG2
    · cases ho
  · unfold jo_new at ho
    split at ho <;> cases ho
theorem js_na (t : Nat) {at' : ArrayType} {ty : FieldType} (ht : (t = 0 ∧ at' = .int ∧ ty = .int) ∨ (t = 1 ∧ at' = .boolean ∧ ty = .boolean)) (hd : decode cc pc = .ok (.newarray at', 2)) (h1 : Cond.arrayClass ty ∈ Ts) : jc_B own cc nL ret ini Ts fr lo l pc (jo_na t (pc + 2)) := by
  refine ⟨fun D cs A as0 w0 p e R s m args below meth c Q hC hfr hlo ls st w pc' ls' st' w' ho => ?_, fun D cs A as0 w0 p e R s m args below meth c hC ls st w r w' ho => ?_⟩
  · unfold jo_na at ho
    split at ho
    · rename_i i st'
      split at ho
      · rename_i hok
        cases ho
        refine ⟨⟨Nat.le_succ _, Nat.le_add_right _ _⟩, fun hc hs hG as H locs la hZ hE hL => ?_⟩
        have hc : w.1.1 + 1 - w0.1.1 ≤ R.cells := hc
        have hs : w.1.2 + i.toNatClampNeg - w0.1.2 ≤ R.slots := hs
        have e1 := hE.2.1
        have e2 := hE.2.2
        have hty : newarray.typeOf at' = ty := by rcases ht with ⟨-, rfl, rfl⟩ | ⟨-, rfl, rfl⟩ <;> rfl
        have hbt : componentBytes ty ≤ 4 := by rcases ht with ⟨-, rfl, rfl⟩ | ⟨-, rfl, rfl⟩ <;> decide
        refine va_newa (atype := at') (ty := ty) (a0 := (i.toNatClampNeg, .inl (fun _ => 0))) hC.1 hC.2.1 (by rw [hty]; exact hC.2.2.2.2.1 _ h1) hty hC.2.2.2.2.2.2.2.2.1 hZ.1 hZ.2.1 hZ.2.2.1 hC.2.2.2.2.2.2.2.2.2.2 (fun cA => ?_) hok.2.1 rfl (Nat.le_trans (Nat.mul_le_mul hok.2.2 hbt) (by decide)) (by omega) (by omega) hd (fun q cA H1 k0 k1 k2 k3 => ?_)
        · rcases ht with ⟨-, rfl, rfl⟩ | ⟨-, rfl, rfl⟩ <;> rfl
        · have hcA : cA = cs t := by
            have a1 := (k0.2 3 (cA, ty) rfl).2
            rcases ht with ⟨rfl, -, rfl⟩ | ⟨rfl, -, rfl⟩
            · have a2 := (k0.2 0 (cs 0, .int) rfl).2
              exact Option.some.inj (a1.symm.trans a2)
            · have a2 := (k0.2 1 (cs 1, .boolean) rfl).2
              exact Option.some.inj (a1.symm.trans a2)
          have hv := jw_va_up_ok (as := as) (q := q) hok.1.1 hok.1.2
          have hG1 := hG (va_up as w.1.1 q) H1 locs la
          have hw := jw_wl_nw (cs := cs) (as := as) (t := t) (n := i.toNatClampNeg) (sl := i.toNatClampNeg) (q := q) hZ.2.2.2
          have he : jw_ce cs (va_up as w.1.1 q) (jw_nw w t i.toNatClampNeg i.toNatClampNeg) w.1.1 = .inl (cA, i.toNatClampNeg, .inl (fun _ => 0)) := by
            rcases ht with ⟨rfl, -, rfl⟩ | ⟨rfl, -, rfl⟩
            · rw [jw_ce_0 (by simp [jw_nw]), hcA]
              simp [jw_nw]
            · rw [jw_ce_1 (by simp [jw_nw]), hcA]
              simp [jw_nw]
          rw [he] at hw
          have hG2 := hG1 (by unfold jw_Z; rw [hw]; exact ⟨k1, k2, k3, jw_WF_nw hZ.2.2.2⟩) (jw_E_nw hE) (hL.ren (fun v hv' => hv v (List.mem_append_left _ hv')))
          have e3 : (jw_nw w t i.toNatClampNeg i.toNatClampNeg).1.1 - w0.1.1 = w.1.1 - w0.1.1 + 1 := by show w.1.1 + 1 - w0.1.1 = _; omega
          have e4 : (jw_nw w t i.toNatClampNeg i.toNatClampNeg).1.2 - w0.1.2 = w.1.2 - w0.1.2 + i.toNatClampNeg := by show w.1.2 + i.toNatClampNeg - w0.1.2 = _; omega
          rw [e3, e4, List.map_cons, jw_map_ren (fun v hv' => hv v (List.mem_append_right _ hv'))] at hG2
          have e5 : jw_rn (va_up as w.1.1 q) (.ref w.1.1) = .ref q := by show Value.ref (va_up as w.1.1 q w.1.1) = _; rw [show va_up as w.1.1 q w.1.1 = q from if_pos rfl]
          rw [e5] at hG2
          exact hG2
      · cases ho
    · cases ho
  · unfold jo_na at ho
    split at ho
    · split at ho <;> cases ho
    · cases ho
theorem js_nq {i : Nat} (hd : decode cc pc = .ok (.anewarray i, 3)) (h1 : Cond.classLink own i "RodChimes$Moment" ∈ Ts) : jc_B own cc nL ret ini Ts fr lo l pc (jo_na 2 (pc + 3)) := by
  refine ⟨fun D cs A as0 w0 p e R s m args below meth c Q hC hfr hlo ls st w pc' ls' st' w' ho => ?_, fun D cs A as0 w0 p e R s m args below meth c hC ls st w r w' ho => ?_⟩
  · unfold jo_na at ho
    split at ho
    · rename_i i st'
      split at ho
      · rename_i hok
        cases ho
        refine ⟨⟨Nat.le_succ _, Nat.le_add_right _ _⟩, fun hc hs hG as H locs la hZ hE hL => ?_⟩
        have hc : w.1.1 + 1 - w0.1.1 ≤ R.cells := hc
        have hs : w.1.2 + i.toNatClampNeg - w0.1.2 ≤ R.slots := hs
        have e1 := hE.2.1
        have e2 := hE.2.2
        refine va_newq hC.1 hC.2.1 hC.2.2.2.1 (hC.2.2.2.2.1 _ h1) hC.2.2.2.2.2.2.2.2.2.1.2 hC.2.2.2.2.2.2.2.2.1 hZ.1 hZ.2.1 hZ.2.2.1 hC.2.2.2.2.2.2.2.2.2.2 hok.2.1 rfl (Nat.le_trans (Nat.mul_le_mul hok.2.2 (Nat.le_refl 4)) (by decide)) (by omega) (by omega) hd (fun q cA H1 k0 k1 k2 k3 => ?_)
        have hcA : cA = cs 2 := by
          obtain ⟨_, _, _, _, _, a1⟩ := (k0.2 3 (cA, .object "RodChimes$Moment") rfl).2
          obtain ⟨_, _, _, _, _, a2⟩ := (k0.2 2 (cs 2, .object "RodChimes$Moment") rfl).2
          exact Option.some.inj (a1.symm.trans a2)
        have hv := jw_va_up_ok (as := as) (q := q) hok.1.1 hok.1.2
        have hG1 := hG (va_up as w.1.1 q) H1 locs la
        have hw := jw_wl_nw (cs := cs) (as := as) (t := 2) (n := i.toNatClampNeg) (sl := i.toNatClampNeg) (q := q) hZ.2.2.2
        have he : jw_ce cs (va_up as w.1.1 q) (jw_nw w 2 i.toNatClampNeg i.toNatClampNeg) w.1.1 = .inl (cA, i.toNatClampNeg, .inr (.inr (.inr (.inr (fun _ => none))))) := by
          rw [jw_ce_2 (by simp [jw_nw]), hcA]
          simp [jw_nw]
        rw [he] at hw
        have hG2 := hG1 (by unfold jw_Z; rw [hw]; exact ⟨k1, k2, k3, jw_WF_nw hZ.2.2.2⟩) (jw_E_nw hE) (hL.ren (fun v hv' => hv v (List.mem_append_left _ hv')))
        have e3 : (jw_nw w 2 i.toNatClampNeg i.toNatClampNeg).1.1 - w0.1.1 = w.1.1 - w0.1.1 + 1 := by show w.1.1 + 1 - w0.1.1 = _; omega
        have e4 : (jw_nw w 2 i.toNatClampNeg i.toNatClampNeg).1.2 - w0.1.2 = w.1.2 - w0.1.2 + i.toNatClampNeg := by show w.1.2 + i.toNatClampNeg - w0.1.2 = _; omega
        rw [e3, e4, List.map_cons, jw_map_ren (fun v hv' => hv v (List.mem_append_right _ hv'))] at hG2
        have e5 : jw_rn (va_up as w.1.1 q) (.ref w.1.1) = .ref q := by show Value.ref (va_up as w.1.1 q w.1.1) = _; rw [show va_up as w.1.1 q w.1.1 = q from if_pos rfl]
        rw [e5] at hG2
        exact hG2
      · cases ho
    · cases ho
  · unfold jo_na at ho
    split at ho
    · split at ho <;> cases ho
    · cases ho
end NEWC

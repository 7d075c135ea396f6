/-! ===== methods and calls ===== -/
def jw_tb : List Cond := lw_tbl.filter goodWord
theorem jw_in {w : Cond} (i : Nat) (h : lw_tbl[i]? = some w) (g : goodWord w = true) : w ∈ jw_tb := List.mem_filter.mpr ⟨List.mem_of_getElem? h, g⟩
theorem jw_nin {w : Cond} (i : Nat) (h : lw_tbl[i]? = some w) : w ∈ lw_tbl := List.mem_of_getElem? h
def jc_ws (y : MethodName) (bytes : ByteArray) (mL : Nat) (ret : Option FieldType) : List Cond := .code y bytes mL ret :: jw_tb
theorem jw_gd {w : Cond} (h : w ∈ jw_tb) : (w.onTables && w.keeps) = true ∨ ∃ ty, w = .arrayClass ty := good_of_word (List.mem_filter.mp h).2
theorem jw_goodIn {Ts ws : List Cond} (hT : ∀ w ∈ jw_tb, w ∈ Ts) (h : ∀ w ∈ ws, w ∈ jw_tb) : GoodIn Ts ws := fun w hw => ⟨hT w (h w hw), jw_gd (h w hw)⟩
theorem jw_ws_in {y : MethodName} {bytes : ByteArray} {mL : Nat} {ret : Option FieldType} : ∀ w ∈ jw_tb, w ∈ jc_ws y bytes mL ret := fun _ h => List.mem_cons_of_mem _ h
def jc_M (l : Launch) (y : MethodName) (ws : List Cond) (fr lo : Nat) (av : List Value) (w : jw_W) (r : Option Value) (w' : jw_W) : Prop :=
  ∀ (D : va_G) (cs : Nat → ClassId) (as : Nat → Nat) (sz : Nat), Met l y ws { frames := fr, cells := w'.1.1 - w.1.1, slots := w'.1.2 - w.1.2, locals := lo } (va_Pc (av.map (jw_rn as)) (fun U => U.heap.size = sz ∧ jw_V D cs as w U)) (jc_Q D cs as w (va_A (jw_wl cs as w) sz) r w') (w'.1.1 - w.1.1) (w'.1.2 - w.1.2) (va_A (jw_wl cs as w) sz)
noncomputable def jr_call (P : Nat → jo_P) (na nL : Nat) (av : List Value) (w : jw_W) : Option jo_R := if av.length = na ∧ av.all (fun v => Nat.beq v.category 1) = true then jr_ev P 0 (av ++ List.replicate (nL - na) Value.null) [] w else none
theorem jw_args : ∀ (vs : List Value) (n i : Nat) (v : Value), (∀ v ∈ vs, v.category = 1) → vs[i]? = some v → (n + i, v) ∈ lv_args n vs
  | [], _, _, _, _, h => by simp at h
  | a :: vs, n, 0, v, _, h => by
    simp at h
    subst h
    exact List.mem_cons_self
  | a :: vs, n, i + 1, v, hc, h => by
    rw [List.getElem?_cons_succ] at h
    have h1 := jw_args vs (n + 1) i v (fun v hv => hc v (List.mem_cons_of_mem _ hv)) h
    have h2 : ¬ a.category = 2 := by rw [hc a List.mem_cons_self]; decide
    unfold lv_args
    rw [if_neg h2]
    rw [show n + (i + 1) = n + 1 + i by omega]
    exact List.mem_cons_of_mem _ h1
theorem jw_sl_len : ∀ (vs : List Value), (∀ v ∈ vs, v.category = 1) → (lg_sl vs).length = vs.length
  | [], _ => rfl
  | a :: vs, hc => by
    have h1 := jw_sl_len vs (fun v hv => hc v (List.mem_cons_of_mem _ hv))
    have h2 : ¬ a.category = 2 := by rw [hc a List.mem_cons_self]; decide
    simp only [lg_sl, List.flatMap_cons, List.length_append] at h1 ⊢
    rw [if_neg h2, h1]
    simp; omega
theorem jc_met {l : Launch} {y : MethodName} {bytes : ByteArray} {nL na : Nat} {ret : Option FieldType} {ini : Bool} {fr lo : Nat} {P : Nat → jo_P} (hB : ∀ pc, jc_B y.cls bytes nL ret ini (jc_ws y bytes nL ret) fr lo l pc (P pc)) (hpl : plainName y.cls = true) (hini : ini = true → y.name = "<init>") (hna : na ≤ nL) {av : List Value} {w : jw_W} {r : Option Value} {w' : jw_W} (h : jr_call P na nL av w = some (r, w')) : jc_M l y (jc_ws y bytes nL ret) fr lo av w r w' := by
  unfold jr_call at h
  split at h
  · rename_i hav
    obtain ⟨n, hn⟩ := (jr_iff _).mp h
    intro D cs as sz
    refine Met.ofW (cc := bytes) (maxL := nL) (ret := ret) hpl rfl ?_
    intro p e s m args below meth c s₁ B hml hv
    obtain ⟨rfl, hsz, hK, hN, hP, hD0, hWF⟩ := hv
    have hts := atoms_spec (ws := jc_ws y bytes nL ret) B.pre
    have hown : s.vm.findClass y.cls = some m.cls := findClass_of_methodNamed B.named
    have hin : meth.name = y.name := (name_of_methodNamed B.named B.method).1
    subst hsz
    have hD := hD0.self (sz := s.heap.size)
    have hC : jc_C y.cls bytes nL ret ini D cs (jc_ws y bytes nL ret) (va_A (jw_wl cs as w) s.heap.size) p s m (av.map (jw_rn as)).toArray meth c :=
      ⟨B.exec, B.bytes, hml, hown, hts, B.returns, B.notSynchronized, fun hi => hin.trans (hini hi), hK, hN, fun q hq => Or.inr hq⟩
    have hR := (jc_run hB (as0 := as) (w0 := w) (e := e) (R := { frames := fr, cells := w'.1.1 - w.1.1, slots := w'.1.2 - w.1.2, locals := lo }) (below := below) hC (Nat.le_refl _) (Nat.le_refl _) n 0 _ [] w r w' hn).2 (Nat.le_refl _) (Nat.le_refl _)
    have hcat : ∀ v ∈ av.map (jw_rn as), v.category = 1 := by
      intro v hv
      obtain ⟨u, hu, rfl⟩ := List.mem_map.mp hv
      rw [jw_rn_cat]
      exact Nat.eq_of_beq_eq_true (List.all_eq_true.mp hav.2 u hu)
    have hlen := jw_sl_len _ hcat
    have hl := lv_entry (av.map (jw_rn as)) (n := nL) (by rw [hlen, List.length_map, hav.1]; exact hna)
    rw [lg_entry_eq]
    have hLo : jw_Lo as nL ((lg_sl (av.map (jw_rn as)) ++ List.replicate (nL - (lg_sl (av.map (jw_rn as))).length) Slot.unset).toArray) (av ++ List.replicate (nL - na) Value.null) := by
      have hrep : ∀ (i : Nat) (v : Value), (av ++ List.replicate (nL - na) Value.null)[i]? = some v → av[i]? = some v ∨ v = Value.null := by
        intro i v hv
        by_cases hi : i < av.length
        · rw [List.getElem?_append_left hi] at hv
          exact Or.inl hv
        · rw [List.getElem?_append_right (by omega)] at hv
          exact Or.inr (List.eq_of_mem_replicate (List.mem_of_getElem? hv))
      refine ⟨hl.1, hl.2.1, by rw [List.length_append, List.length_replicate, hav.1]; omega, fun i v hv => ?_, fun i v hv hn => ?_⟩
      · rcases hrep i v hv with h1 | h1
        · exact Nat.eq_of_beq_eq_true (List.all_eq_true.mp hav.2 v (List.mem_of_getElem? h1))
        · rw [h1]; rfl
      · rcases hrep i v hv with h1 | h1
        · have h2 := jw_args (av.map (jw_rn as)) 0 i (jw_rn as v) hcat (by rw [List.getElem?_map, h1]; rfl)
          rw [Nat.zero_add] at h2
          exact hl.2.2 _ h2
        · exact absurd h1 hn
    have hG := hR as s.heap [] _ ⟨hP, hD, va_S.rf, hWF⟩ ⟨fun _ _ => rfl, Nat.le_refl _, Nat.le_refl _⟩ hLo
    rw [Nat.sub_self, Nat.sub_self] at hG
    exact hG
  · cases h
/-- behind a call: what is left of the stack, the callee's answer -/
def jo_aft (o : Option jo_R) (ls rest : List Value) (w : jw_W) (n : Nat) : Option jo_O := match o with
  | some (r, w') => if rest.length ≤ 4 ∧ w'.1.1 ≤ 1000 ∧ (w.1.1 ≤ w'.1.1 ∧ w.1.2 ≤ w'.1.2) ∧ (w'.1.1 = w.1.1 ∨ (ls ++ rest).all (jw_ok w.1.1) = true) then some (.inl (n, ls, r.toList ++ rest, w')) else none
  | none => none
def jo_cs (na : Nat) (f : List Value → jw_W → Option jo_R) (n : Nat) : jo_P := fun ls st w => if na ≤ st.length then jo_aft (f (st.take na).reverse w) ls (st.drop na) w n else none
def jo_cv (ci na : Nat) (f : List Value → jw_W → Option jo_R) (n : Nat) : jo_P := fun ls st w => match (st.take na).reverse with
  | .ref k :: av => if na ≤ st.length ∧ k < w.1.1 ∧ (w.2.1 k).1 = ci + 3 then jo_aft (f (.ref k :: av) w) ls (st.drop na) w n else none
  | _ => none
def jo_ci (na : Nat) (f : List Value → jw_W → Option jo_R) (n : Nat) : jo_P := fun ls st w => match (st.take na).reverse with
  | .ref k :: av => if na ≤ st.length then jo_aft (f (.ref k :: av) w) ls (st.drop na) w n else none
  | _ => none
section CALL
variable {own : String} {cc : ByteArray} {nL : Nat} {ret : Option FieldType} {ini : Bool} {Ts : List Cond} {fr lo : Nat} {l : Launch} {pc : Nat}
theorem jc_aft {D : va_G} {cs : Nat → ClassId} {A : Nat → Prop} {as0 : Nat → Nat} {w0 : jw_W} {p : Program} {e : Env} {R : Room} {s : State} {m : MethodId} {args : Array Value} {below : List Frame} {meth : Method} {c : Code} {Q : State → Prop} (hC : jc_C own cc nL ret ini D cs Ts A p s m args meth c) {as : Nat → Nat} {w w' : jw_W} {H : Heap} {locs : List Loc} {la : Array Slot} {ls rest st0 : List Value} {r : Option Value} {a : Array Value} (hZ : jw_Z D cs as w A s.heap H locs) (hE : jw_E as0 w0 as w) (hL : jw_Lo as nL la ls)
    (hr : va_Run p l e R s m args below meth c H locs (w.1.1 - w0.1.1) (w.1.2 - w0.1.2) (w'.1.1 - w.1.1) (w'.1.2 - w.1.2) (F0 m pc la st0) (rest.map (jw_rn as)) (jc_Q D cs as w (va_A (jw_wl cs as w) H.size) r w' a) (va_A (jw_wl cs as w) H.size))
    (hok : rest.length ≤ 4 ∧ w'.1.1 ≤ 1000 ∧ (w.1.1 ≤ w'.1.1 ∧ w.1.2 ≤ w'.1.2) ∧ (w'.1.1 = w.1.1 ∨ (ls ++ rest).all (jw_ok w.1.1) = true)) (hG : jc_G D cs A as0 w0 nL p l e R s m args below meth c Q (pc + 3) ls (r.toList ++ rest) w') : W p l e R s m args below meth c H locs (w.1.1 - w0.1.1) (w.1.2 - w0.1.2) Q (F0 m pc la st0) := by
  intro T hT X
  obtain ⟨v, st₀, t, T', L, h0, X', hLc, e1, e2, ⟨⟨as', hE', hv, hP1, hD1, hWF1⟩, hz, hk⟩, st⟩ := hr T hT X
  have hv : v = r.map (jw_rn as') := by cases hv; rfl
  subst hv
  rw [h0] at hz hk
  rw [← e1] at hz hk hP1
  have hF : ∀ q, va_A (jw_wl cs as w) H.size q → A q := by
    intro q hq
    rcases hq with ⟨k, e', h'⟩ | h'
    · exact hZ.2.1.2 k (q, e') h'
    · exact hC.2.2.2.2.2.2.2.2.2.2 q (Nat.le_trans hZ.2.2.1.1 h')
  have hS : va_S A s.heap T'.heap (locs ++ L) :=
    ⟨Nat.le_trans hZ.2.2.1.1 hz, fun q h1 h2 => by rw [hk q (Nat.lt_of_lt_of_le h1 hZ.2.2.1.1) (fun z => h2 (hF q z))]; exact hZ.2.2.1.2.1 q h1 h2, fun q hq => by
      rcases List.mem_append.mp hq with h | h
      · exact hZ.2.2.1.2.2 q h
      · exact hF _ (hLc q h)⟩
  have hren : ∀ v ∈ ls ++ rest, jw_rn as' v = jw_rn as v := by
    rcases hok.2.2.2 with he | he
    · have : as' = as := funext fun k => hE'.1 k (by rw [he]; omega)
      intro v _
      rw [this]
    · intro v hv
      exact jw_rn_ok (n := w.1.1) (n' := w'.1.1) hE'.1 hok.2.1 (List.all_eq_true.mp he v hv)
  have hE2 : jw_E as0 w0 as' w' := by
    obtain ⟨a1, a2, a3⟩ := hE
    have b1 := hok.2.2.1.1
    have b2 := hok.2.2.1.2
    refine ⟨fun k hk => ?_, by omega, by omega⟩
    rw [hE'.1 k (by omega)]
    exact a1 k (by omega)
  have hG1 := hG as' T'.heap (locs ++ L) la ⟨hP1, hD1.weaken (fun k q _ h => hF q.1 h), hS, hWF1⟩ hE2 (hL.ren (fun v hv => hren v (List.mem_append_left _ hv)))
  have hst : (r.toList ++ rest).map (jw_rn as') = (r.map (jw_rn as')).toList ++ rest.map (jw_rn as) := by
    rw [List.map_append, jw_map_ren (fun v hv => hren v (List.mem_append_right _ hv))]
    cases r <;> rfl
  have c1 : w'.1.1 - w0.1.1 = w.1.1 - w0.1.1 + (w'.1.1 - w.1.1) := by have := hE.2.1; have := hok.2.2.1.1; omega
  have c2 : w'.1.2 - w0.1.2 = w.1.2 - w0.1.2 + (w'.1.2 - w.1.2) := by have := hE.2.2; have := hok.2.2.1.2; omega
  rw [hst, c1, c2] at hG1
  obtain ⟨t2, a1, b1⟩ := hG1 T' rfl X'
  exact ⟨t2, st t2 a1, b1⟩
theorem jw_blind {D : va_G} {cs : Nat → ClassId} {as : Nat → Nat} {w : jw_W} {av : List Value} {sz : Nat} : FrameBlind (va_Pc av (fun U => U.heap.size = sz ∧ jw_V D cs as w U)) := by
  intro a U g mk hq
  obtain ⟨q0, q1, qK, qN, qU⟩ := hq
  exact ⟨q0, q1, va_K.moved (u := U) (U := U.calling g mk a) (Vm.Alike.refl U.vm) qK, qN.warm (s := U) (U := U.calling g mk a) (State.WarmedH.refl U), qU⟩
theorem jw_pre {D : va_G} {cs : Nat → ClassId} {A : Nat → Prop} {p : Program} {s : State} {m : MethodId} {args : Array Value} {meth : Method} {c : Code} (hC : jc_C own cc nL ret ini D cs Ts A p s m args meth c) {as : Nat → Nat} {w : jw_W} {H : Heap} {locs : List Loc} {av : List Value} (hZ : jw_Z D cs as w A s.heap H locs) : ∀ U : State, U.heap = H → s.WarmedH U.vm → va_Pc av (fun U => U.heap.size = H.size ∧ jw_V D cs as w U) av.toArray U :=
  fun U hU hW => ⟨rfl, by rw [hU], va_K.moved hW.alike hC.2.2.2.2.2.2.2.2.1, hC.2.2.2.2.2.2.2.2.2.1.warm hW, by rw [hU]; exact hZ.1, hZ.2.1.weaken (fun _ _ _ _ => trivial), hZ.2.2.2⟩
theorem jw_rev {st : List Value} {na : Nat} {as : Nat → Nat} {vs : List Value} (h : (st.take na).reverse = vs) : st.map (jw_rn as) = (vs.map (jw_rn as)).reverse ++ (st.drop na).map (jw_rn as) := by
  subst h
  rw [List.map_reverse, List.reverse_reverse, ← List.map_append, List.take_append_drop]
/-- a callee: its name, code, locals, room; what its runs are -/
def jc_K (l : Launch) (y : MethodName) (bytes : ByteArray) (mL : Nat) (rt : Option FieldType) (fr lo : Nat) (f : List Value → jw_W → Option jo_R) : Prop := ∀ (av : List Value) (w : jw_W) (r : Option Value) (w' : jw_W), f av w = some (r, w') → jc_M l y (jc_ws y bytes mL rt) fr lo av w r w'
theorem js_cv {ci i n na mL fr' lo' : Nat} {y : MethodName} {bytes : ByteArray} {rt : Option FieldType} {f : List Value → jw_W → Option jo_R} {C : String} {T : u_T} {N : Nat} (hK : jc_K l y bytes mL rt fr' lo' f) (hsub : ∀ w ∈ jw_tb, w ∈ Ts) (hcl : vwCl[ci]? = some (C, T, N)) (hd : decode cc pc = .ok (.invokevirtual i, 3)) (h1 : Cond.methodLink own i y ∈ jw_tb) (h2 : Cond.instanceMethod y ∈ jw_tb) (h3 : Cond.selects C y y ∈ jw_tb) (h4 : Cond.initialized C ∈ jw_tb) (h5 : Cond.code y bytes mL rt ∈ jw_tb)
    (hy : y.cls = C ∧ y.cls ≠ "java/lang/invoke/MethodHandle" ∧ y.cls ≠ "java/lang/invoke/VarHandle" ∧ (parseMethodDescriptor y.desc).map (fun d => d.parameters.length) = some n) (hna : na = n + 1) (hR : fr' + 1 ≤ fr ∧ 8 + (mL + 11) + lo' ≤ lo) : jc_B own cc nL ret ini Ts fr lo l pc (jo_cv ci na f (pc + 3)) := by
  refine ⟨fun D cs A as0 w0 p e R s m args below meth c Q hC hfr hlo ls st w pc' ls' st' w' ho => ?_, fun D cs A as0 w0 p e R s m args below meth c hC ls st w r w' ho => ?_⟩
  · unfold jo_cv at ho
    split at ho
    · rename_i k av hav
      split at ho
      · rename_i hk
        unfold jo_aft at ho
        split at ho
        · rename_i r w1 hf
          split at ho
          · rename_i hok
            cases ho
            refine ⟨hok.2.2.1, fun hc hs hG as H locs la hZ hE hL => ?_⟩
            have hlen : av.length = n := by
              have := congrArg List.length hav
              simp at this
              omega
            have b1 := hE.2.1
            have b2 := hE.2.2
            have b3 := hok.2.2.1
            refine jc_aft hC hZ hE hL (a := ((Value.ref k :: av).map (jw_rn as)).toArray) (va_runV (As := av.map (jw_rn as)) (b := as k) ⟨hC.1, hC.2.1, hC.2.2.1, hC.2.2.2.1, hC.2.2.2.2.1⟩ (hK _ _ _ _ hf D cs as H.size) (cwV n hC.2.2.2.2.1 (jw_goodIn hsub ?_) rfl rfl rfl hy ⟨?_, ?_⟩) ⟨jw_blind, va_recv hC.2.2.2.2.2.2.2.2.1 hZ.1 hcl ((jw_at hk.2.1).trans (by rw [jw_ce_obj hk.2.2])), jw_pre hC hZ⟩ rfl (by rw [List.length_map]; exact hlen) hL.1 ?_ (lv_room (Nat.le_trans (jw_sum _) (by omega))) hd ⟨by omega, by omega⟩) hok hG
            · intro w9 hw9
              unfold wsV jc_ws at hw9
              simp only [List.mem_append, List.mem_cons, List.not_mem_nil, or_false] at hw9
              rcases hw9 with (rfl | rfl | rfl | rfl) | (rfl | h) <;> assumption
            · show fr' + 1 ≤ R.frames
              omega
            · show 8 + (mL + 11) + lo' ≤ R.locals
              omega
            · show st.map (jw_rn as) = _
              rw [jw_rev hav, List.map_cons, List.reverse_cons, List.append_assoc]
              rfl
          · cases ho
        · cases ho
      · cases ho
    · cases ho
  · unfold jo_cv at ho
    split at ho
    · split at ho
      · unfold jo_aft at ho
        split at ho
        · split at ho <;> cases ho
        · cases ho
      · cases ho
    · cases ho
end CALL

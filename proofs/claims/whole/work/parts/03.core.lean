/-! ===== a small machine over virtual worlds: cells by number, ints in one memory; its steps are sound for the JVM's ===== -/
abbrev jw_W : Type := (Nat × Nat) × (Nat → Nat × Nat × (Nat → Option Nat)) × (Nat → Nat → Int32) × (Nat → Nat → Int64)
abbrev jo_R : Type := Option Value × jw_W
abbrev jo_O : Type := (Nat × List Value × List Value × jw_W) ⊕ jo_R
abbrev jo_P : Type := List Value → List Value → jw_W → Option jo_O
def jw_nf (ci : Nat) : Nat := match ci with
  | 0 => 5
  | 1 => 6
  | 2 => 5
  | 3 => 7
  | 4 => 15
  | 5 => 30
  | _ => 0
def jw_ty (ci : Nat) : Nat → FieldType := match ci with
  | 0 => tyX0
  | 1 => tyX1
  | 2 => tyX2
  | 3 => tyX3
  | 4 => tyX4
  | _ => tyX5
def jw_ft (ci j : Nat) : Nat := match jw_ty ci j with
  | .int => 0
  | .boolean => 0
  | .long => 1
  | _ => 2
def jw_rn (as : Nat → Nat) (v : Value) : Value := match v with
  | .ref k => .ref (as k)
  | v => v
def jw_fv (as : Nat → Nat) (w : jw_W) (k ci j : Nat) : Value := match jw_ft ci j with
  | 0 => .int (w.2.2.1 k j)
  | 1 => .long (w.2.2.2 k j)
  | _ => va_rf (((w.2.1 k).2.2 j).map as)
def jw_cg (cs : Nat → ClassId) (as : Nat → Nat) (w : jw_W) (k t : Nat) : va_E := match t with
  | 0 => .inl (cs 0, (w.2.1 k).2.1, .inl (w.2.2.1 k))
  | 1 => .inl (cs 1, (w.2.1 k).2.1, .inl (w.2.2.1 k))
  | 2 => .inl (cs 2, (w.2.1 k).2.1, .inr (.inr (.inr (.inr (fun i => ((w.2.1 k).2.2 i).map as)))))
  | ci + 3 => .inr (ci, (List.range (jw_nf ci)).map (jw_fv as w k ci))
def jw_ce (cs : Nat → ClassId) (as : Nat → Nat) (w : jw_W) (k : Nat) : va_E := jw_cg cs as w k (w.2.1 k).1
def jw_wl (cs : Nat → ClassId) (as : Nat → Nat) (w : jw_W) : va_W := (List.range w.1.1).map (fun k => (as k, jw_ce cs as w k))
abbrev jw_tys (cs : Nat → ClassId) : List (ClassId × FieldType) := [(cs 0, .int), (cs 1, .boolean), (cs 2, .object "RodChimes$Moment")]
def jw_WF (w : jw_W) : Prop := ∀ k, k < w.1.1 → ∀ j r, (w.2.1 k).2.2 j = some r → r < w.1.1
def jw_mi (w : jw_W) (k j : Nat) (x : Int32) : jw_W := (w.1, w.2.1, (fun k' => if k' = k then upd (w.2.2.1 k) j x else w.2.2.1 k'), w.2.2.2)
def jw_ml (w : jw_W) (k j : Nat) (x : Int64) : jw_W := (w.1, w.2.1, w.2.2.1, fun k' => if k' = k then vp_updL (w.2.2.2 k) j x else w.2.2.2 k')
def jw_mr (w : jw_W) (k j r : Nat) : jw_W := (w.1, (fun k' => if k' = k then ((w.2.1 k).1, (w.2.1 k).2.1, va_up (w.2.1 k).2.2 j (some r)) else w.2.1 k'), w.2.2.1, w.2.2.2)
def jw_nw (w : jw_W) (t n sl : Nat) : jw_W := ((w.1.1 + 1, w.1.2 + sl), (fun k' => if k' = w.1.1 then (t, n, fun _ => none) else w.2.1 k'), (fun k' => if k' = w.1.1 then (fun _ => 0) else w.2.2.1 k'), (fun k' => if k' = w.1.1 then (fun _ => 0) else w.2.2.2 k'))
/-- a value that stays the same when a new cell gets its address: n cells so far, place 1000 is the law's script -/
def jw_ok (n : Nat) (v : Value) : Bool := match v with
  | .ref r => Nat.blt r n || Nat.beq r 1000
  | _ => true
theorem jw_at {cs : Nat → ClassId} {as : Nat → Nat} {w : jw_W} {k : Nat} (h : k < w.1.1) : (jw_wl cs as w)[k]? = some (as k, jw_ce cs as w k) := by
  simp [jw_wl, h]
theorem jw_set {cs : Nat → ClassId} {as : Nat → Nat} {w w' : jw_W} {k : Nat} {e : va_E} (hc : w'.1.1 = w.1.1) (hk : jw_ce cs as w' k = e) (ho : ∀ i, i ≠ k → jw_ce cs as w' i = jw_ce cs as w i) : (jw_wl cs as w).set k (as k, e) = jw_wl cs as w' := by
  apply List.ext_getElem?
  intro i
  by_cases hi : i < w.1.1
  · by_cases hik : i = k
    · subst hik
      rw [List.getElem?_set_self (by simp [jw_wl, hi]), jw_at (by rw [hc]; exact hi), hk]
    · rw [List.getElem?_set_ne (Ne.symm hik), jw_at hi, jw_at (by rw [hc]; exact hi), ho i hik]
  · rw [List.getElem?_eq_none (by simp [jw_wl]; omega), List.getElem?_eq_none (by simp [jw_wl, hc]; omega)]
theorem jw_rn_cat (as : Nat → Nat) (v : Value) : (jw_rn as v).category = v.category := by
  cases v <;> rfl
theorem jw_rn_ok {as as' : Nat → Nat} {n n' : Nat} (h : ∀ k, k < n ∨ n' ≤ k → as' k = as k) (hn : n' ≤ 1000) {v : Value} (hv : jw_ok n v = true) : jw_rn as' v = jw_rn as v := by
  cases v with
  | ref r =>
    simp only [jw_ok, Bool.or_eq_true] at hv
    show Value.ref (as' r) = Value.ref (as r)
    rcases hv with hv | hv
    · rw [h r (Or.inl (Nat.blt_eq.mp hv))]
    · have e : r = 1000 := Nat.eq_of_beq_eq_true hv
      rw [h r (Or.inr (e ▸ hn))]
  | _ => rfl
/-! the context of a run, and what is to be shown at a place -/
def jw_Z (D : va_G) (cs : Nat → ClassId) (as : Nat → Nat) (w : jw_W) (A : Nat → Prop) (H0 H : Heap) (locs : List Loc) : Prop := va_P D vwCl (jw_wl cs as w) H ∧ va_D A (jw_wl cs as w) ∧ va_S A H0 H locs ∧ jw_WF w
/-- words of the tables that are no 'good' words: they go with the state -/
def jw_isN : Cond → Bool
  | .fieldLinkNest .. => true
  | .methodLinkNest .. => true
  | _ => false
def jw_N (U : State) : Prop := (∀ w ∈ lw_tbl, jw_isN w = true → va_Nw w U) ∧ va_AO "RodChimes$Moment" U
theorem jw_N.warm {s U : State} (hW : s.WarmedH U.vm) (h : jw_N s) : jw_N U := by
  refine ⟨fun w hw hn => ?_, va_AO.moved hW.alike h.2⟩
  have h1 := h.1 w hw hn
  cases w <;> first | exact va_Nw.warmF hW h1 | exact va_Nw.warmM hW h1 | (simp [jw_isN] at hn; done)
def jw_U (D : va_G) (cs : Nat → ClassId) (as : Nat → Nat) (w : jw_W) (A : Nat → Prop) (U : State) : Prop := va_P D vwCl (jw_wl cs as w) U.heap ∧ va_D A (jw_wl cs as w) ∧ jw_WF w
def jw_V (D : va_G) (cs : Nat → ClassId) (as : Nat → Nat) (w : jw_W) (U : State) : Prop := va_K D vwCl (jw_tys cs) U ∧ jw_N U ∧ jw_U D cs as w (fun _ => True) U
def jw_E (as0 : Nat → Nat) (w0 : jw_W) (as : Nat → Nat) (w : jw_W) : Prop := (∀ k, k < w0.1.1 ∨ w.1.1 ≤ k → as k = as0 k) ∧ w0.1.1 ≤ w.1.1 ∧ w0.1.2 ≤ w.1.2
def jw_Lo (as : Nat → Nat) (nL : Nat) (la : Array Slot) (ls : List Value) : Prop := la.size = nL ∧ lv_wf la ∧ ls.length ≤ nL ∧ (∀ (i : Nat) (v : Value), ls[i]? = some v → v.category = 1) ∧ ∀ (i : Nat) (v : Value), ls[i]? = some v → v ≠ .null → la[i]? = some (.val (jw_rn as v))
def jc_C (own : String) (cc : ByteArray) (nL : Nat) (ret : Option FieldType) (ini : Bool) (D : va_G) (cs : Nat → ClassId) (Ts : List Cond) (A : Nat → Prop) (p : Program) (s : State) (m : MethodId) (args : Array Value) (meth : Method) (c : Code) : Prop :=
  p.tables.exec = Jvm.exec ∧ c.code = cc ∧ c.maxLocals = nL ∧ s.vm.findClass own = some m.cls ∧ (∀ w ∈ Ts, w.before args s = true) ∧ meth.sig.returnType = ret ∧ meth.locks = false ∧ (ini = true → meth.name = "<init>") ∧ va_K D vwCl (jw_tys cs) s ∧ jw_N s ∧ ∀ q, s.heap.size ≤ q → A q
def jc_G (D : va_G) (cs : Nat → ClassId) (A : Nat → Prop) (as0 : Nat → Nat) (w0 : jw_W) (nL : Nat) (p : Program) (l : Launch) (e : Env) (R : Room) (s : State) (m : MethodId) (args : Array Value) (below : List Frame) (meth : Method) (c : Code) (Q : State → Prop) (pc : Nat) (ls st : List Value) (w : jw_W) : Prop :=
  ∀ (as : Nat → Nat) (H : Heap) (locs : List Loc) (la : Array Slot), jw_Z D cs as w A s.heap H locs → jw_E as0 w0 as w → jw_Lo as nL la ls → W p l e R s m args below meth c H locs (w.1.1 - w0.1.1) (w.1.2 - w0.1.2) Q (F0 m pc la (st.map (jw_rn as)))
def jc_Q (D : va_G) (cs : Nat → ClassId) (as : Nat → Nat) (w : jw_W) (A : Nat → Prop) (r : Option Value) (w' : jw_W) : Array Value → State → Outcome → State → Prop := fun _ st oc t => (∃ as', jw_E as w as' w' ∧ oc = .returned (r.map (jw_rn as')) ∧ jw_U D cs as' w' A t) ∧ va_F A st t
def jc_S (own : String) (cc : ByteArray) (nL : Nat) (ret : Option FieldType) (ini : Bool) (Ts : List Cond) (fr lo : Nat) (l : Launch) (pc : Nat) (op : jo_P) : Prop :=
  ∀ (D : va_G) (cs : Nat → ClassId) (A : Nat → Prop) (as0 : Nat → Nat) (w0 : jw_W) (p : Program) (e : Env) (R : Room) (s : State) (m : MethodId) (args : Array Value) (below : List Frame) (meth : Method) (c : Code) (Q : State → Prop), jc_C own cc nL ret ini D cs Ts A p s m args meth c → fr ≤ R.frames → lo ≤ R.locals → ∀ (ls st : List Value) (w : jw_W) (pc' : Nat) (ls' st' : List Value) (w' : jw_W), op ls st w = some (.inl (pc', ls', st', w')) →
    (w.1.1 ≤ w'.1.1 ∧ w.1.2 ≤ w'.1.2) ∧ (w'.1.1 - w0.1.1 ≤ R.cells → w'.1.2 - w0.1.2 ≤ R.slots → jc_G D cs A as0 w0 nL p l e R s m args below meth c Q pc' ls' st' w' → jc_G D cs A as0 w0 nL p l e R s m args below meth c Q pc ls st w)
def jc_T (own : String) (cc : ByteArray) (nL : Nat) (ret : Option FieldType) (ini : Bool) (Ts : List Cond) (l : Launch) (pc : Nat) (op : jo_P) : Prop :=
  ∀ (D : va_G) (cs : Nat → ClassId) (A : Nat → Prop) (as0 : Nat → Nat) (w0 : jw_W) (p : Program) (e : Env) (R : Room) (s : State) (m : MethodId) (args : Array Value) (below : List Frame) (meth : Method) (c : Code), jc_C own cc nL ret ini D cs Ts A p s m args meth c → ∀ (ls st : List Value) (w : jw_W) (r : Option Value) (w' : jw_W), op ls st w = some (.inr (r, w')) →
    w' = w ∧ jc_G D cs A as0 w0 nL p l e R s m args below meth c (MQ below (jc_Q D cs as0 w0 A r w) args s (w.1.1 - w0.1.1) (w.1.2 - w0.1.2) A) pc ls st w
def jc_B (own : String) (cc : ByteArray) (nL : Nat) (ret : Option FieldType) (ini : Bool) (Ts : List Cond) (fr lo : Nat) (l : Launch) (pc : Nat) (op : jo_P) : Prop := jc_S own cc nL ret ini Ts fr lo l pc op ∧ jc_T own cc nL ret ini Ts l pc op
/-! the machine -/
def jr_run (P : Nat → jo_P) : Nat → Nat → List Value → List Value → jw_W → Option jo_R
  | 0, _, _, _, _ => none
  | n + 1, pc, ls, st, w => match P pc ls st w with
    | none => none
    | some (.inl (pc', ls', st', w')) => jr_run P n pc' ls' st' w'
    | some (.inr r) => some r
theorem jr_mono {P : Nat → jo_P} : ∀ (n : Nat) (pc : Nat) (ls st : List Value) (w : jw_W) (r : jo_R), jr_run P n pc ls st w = some r → ∀ k, jr_run P (n + k) pc ls st w = some r
  | 0, _, _, _, _, _, h, _ => by cases h
  | n + 1, pc, ls, st, w, r, h, k => by
    rw [Nat.succ_add]
    simp only [jr_run] at h ⊢
    split at h
    · cases h
    · exact jr_mono n _ _ _ _ _ h k
    · exact h
theorem jr_det {P : Nat → jo_P} {n k pc : Nat} {ls st : List Value} {w : jw_W} {r r' : jo_R} (h : jr_run P n pc ls st w = some r) (h' : jr_run P k pc ls st w = some r') : r = r' := by
  have h1 := jr_mono n pc ls st w r h k
  have h2 := jr_mono k pc ls st w r' h' n
  rw [Nat.add_comm] at h2
  exact Option.some.inj (h1.symm.trans h2)
noncomputable def jr_ev (P : Nat → jo_P) (pc : Nat) (ls st : List Value) (w : jw_W) : Option jo_R := Classical.epsilon (fun o => ∀ r, o = some r ↔ ∃ n, jr_run P n pc ls st w = some r)
theorem jr_iff {P : Nat → jo_P} {pc : Nat} {ls st : List Value} {w : jw_W} (r : jo_R) : jr_ev P pc ls st w = some r ↔ ∃ n, jr_run P n pc ls st w = some r := by
  have h : ∃ o : Option jo_R, ∀ r, o = some r ↔ ∃ n, jr_run P n pc ls st w = some r := by
    by_cases hx : ∃ r n, jr_run P n pc ls st w = some r
    · obtain ⟨r, n, hr⟩ := hx
      exact ⟨some r, fun r' => ⟨fun e => ⟨n, (by rw [hr]; exact e)⟩, fun ⟨k, hk⟩ => congrArg some (jr_det hr hk)⟩⟩
    · exact ⟨none, fun r' => ⟨fun e => (by cases e), fun ⟨k, hk⟩ => absurd ⟨r', k, hk⟩ hx⟩⟩
  exact Classical.epsilon_spec h r
theorem jr_step {P : Nat → jo_P} {pc : Nat} {ls st : List Value} {w : jw_W} {pc' : Nat} {ls' st' : List Value} {w' : jw_W} (h : P pc ls st w = some (.inl (pc', ls', st', w'))) : jr_ev P pc ls st w = jr_ev P pc' ls' st' w' := by
  apply Option.ext
  intro r
  rw [jr_iff, jr_iff]
  constructor
  · intro ⟨n, hn⟩
    cases n with
    | zero => cases hn
    | succ n => simp only [jr_run, h] at hn; exact ⟨n, hn⟩
  · intro ⟨n, hn⟩
    exact ⟨n + 1, by simp only [jr_run, h]; exact hn⟩
theorem jr_ret {P : Nat → jo_P} {pc : Nat} {ls st : List Value} {w : jw_W} {r : jo_R} (h : P pc ls st w = some (.inr r)) : jr_ev P pc ls st w = some r := by
  rw [jr_iff]
  exact ⟨1, by simp only [jr_run, h]⟩
theorem jr_none {P : Nat → jo_P} {pc : Nat} {ls st : List Value} {w : jw_W} (h : P pc ls st w = none) : jr_ev P pc ls st w = none := by
  apply Option.ext
  intro r
  rw [jr_iff]
  constructor
  · intro ⟨n, hn⟩
    cases n with
    | zero => cases hn
    | succ n => simp only [jr_run, h] at hn; cases hn
  · intro e; cases e
def jo_at : List (Nat × jo_P) → Nat → jo_P
  | [], _ => fun _ _ _ => none
  | q :: L, pc => if pc = q.1 then q.2 else jo_at L pc
theorem jo_at_all {L : List (Nat × jo_P)} {F : Nat → jo_P → Prop} (h : ∀ q ∈ L, F q.1 q.2) (h0 : ∀ pc, F pc (fun _ _ _ => none)) (pc : Nat) : F pc (jo_at L pc) := by
  induction L with
  | nil => exact h0 pc
  | cons q L ih =>
    unfold jo_at
    split
    · rename_i e; subst e; exact h q List.mem_cons_self
    · exact ih (fun q hq => h q (List.mem_cons_of_mem _ hq))
section RUN
variable {own : String} {cc : ByteArray} {nL : Nat} {ret : Option FieldType} {ini : Bool} {Ts : List Cond} {fr lo : Nat} {l : Launch}
theorem jc_B_none (pc : Nat) : jc_B own cc nL ret ini Ts fr lo l pc (fun _ _ _ => none) :=
  ⟨fun _ _ _ _ _ _ _ _ _ _ _ _ _ _ _ _ _ _ _ _ _ _ _ _ _ h => (by cases h), fun _ _ _ _ _ _ _ _ _ _ _ _ _ _ _ _ _ _ _ _ h => by cases h⟩
theorem jc_run {P : Nat → jo_P} (hB : ∀ pc, jc_B own cc nL ret ini Ts fr lo l pc (P pc)) {D : va_G} {cs : Nat → ClassId} {A : Nat → Prop} {as0 : Nat → Nat} {w0 : jw_W} {p : Program} {e : Env} {R : Room} {s : State} {m : MethodId} {args : Array Value} {below : List Frame} {meth : Method} {c : Code} (hC : jc_C own cc nL ret ini D cs Ts A p s m args meth c) (hfr : fr ≤ R.frames) (hlo : lo ≤ R.locals) :
    ∀ (n pc : Nat) (ls st : List Value) (w : jw_W) (r : Option Value) (w' : jw_W), jr_run P n pc ls st w = some (r, w') → (w.1.1 ≤ w'.1.1 ∧ w.1.2 ≤ w'.1.2) ∧ (w'.1.1 - w0.1.1 ≤ R.cells → w'.1.2 - w0.1.2 ≤ R.slots → jc_G D cs A as0 w0 nL p l e R s m args below meth c (MQ below (jc_Q D cs as0 w0 A r w') args s (w'.1.1 - w0.1.1) (w'.1.2 - w0.1.2) A) pc ls st w)
  | 0, _, _, _, _, _, _, h => by cases h
  | n + 1, pc, ls, st, w, r, w', h => by
    simp only [jr_run] at h
    split at h
    · cases h
    · rename_i pc1 ls1 st1 w1 he
      have ih := jc_run hB (as0 := as0) (w0 := w0) (e := e) (below := below) hC hfr hlo n pc1 ls1 st1 w1 r w' h
      have h1 := (hB pc).1 D cs A as0 w0 p e R s m args below meth c (MQ below (jc_Q D cs as0 w0 A r w') args s (w'.1.1 - w0.1.1) (w'.1.2 - w0.1.2) A) hC hfr hlo ls st w pc1 ls1 st1 w1 he
      exact ⟨⟨Nat.le_trans h1.1.1 ih.1.1, Nat.le_trans h1.1.2 ih.1.2⟩, fun hc hs => h1.2 (Nat.le_trans (Nat.sub_le_sub_right ih.1.1 _) hc) (Nat.le_trans (Nat.sub_le_sub_right ih.1.2 _) hs) (ih.2 hc hs)⟩
    · rename_i r0 he
      cases h
      have h1 := (hB pc).2 D cs A as0 w0 p e R s m args below meth c hC ls st w r w' he
      obtain ⟨rfl, hg⟩ := h1
      exact ⟨⟨Nat.le_refl _, Nat.le_refl _⟩, fun _ _ => hg⟩
end RUN

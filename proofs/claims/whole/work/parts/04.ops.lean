/-! ===== the instructions of the small machine, and that each is sound ===== -/
def jo_k (v : Value) (n : Nat) : jo_P := fun ls st w => some (.inl (n, ls, v :: st, w))
def jo_ild (k n : Nat) : jo_P := fun ls st w => match ls[k]? with
  | some (.int x) => some (.inl (n, ls, .int x :: st, w))
  | _ => none
def jo_rld (k n : Nat) : jo_P := fun ls st w => match ls[k]? with
  | some (.ref x) => some (.inl (n, ls, .ref x :: st, w))
  | _ => none
def jo_ist (k n : Nat) : jo_P := fun ls st w => match st with
  | .int x :: st' => if k < ls.length then some (.inl (n, ls.set k (.int x), st', w)) else none
  | _ => none
def jo_rst (k n : Nat) : jo_P := fun ls st w => match st with
  | .ref x :: st' => if k < ls.length then some (.inl (n, ls.set k (.ref x), st', w)) else none
  | _ => none
def jo_inc (k : Nat) (v : Int32) (n : Nat) : jo_P := fun ls st w => match ls[k]? with
  | some (.int x) => some (.inl (n, ls.set k (.int (x + v)), st, w))
  | _ => none
def jo_bin (f : Int32 → Int32 → Int32) (n : Nat) : jo_P := fun ls st w => match st with
  | .int y :: .int x :: st' => some (.inl (n, ls, .int (f x y) :: st', w))
  | _ => none
def jo_dv (f : Int32 → Int32 → Int32) (n : Nat) : jo_P := fun ls st w => match st with
  | .int y :: .int x :: st' => if y = 0 then none else some (.inl (n, ls, .int (f x y) :: st', w))
  | _ => none
def jo_neg (n : Nat) : jo_P := fun ls st w => match st with
  | .int x :: st' => some (.inl (n, ls, .int (-x) :: st', w))
  | _ => none
def jo_ladd (n : Nat) : jo_P := fun ls st w => match st with
  | .long y :: .long x :: st' => some (.inl (n, ls, .long (x + y) :: st', w))
  | _ => none
def jo_lcmp (n : Nat) : jo_P := fun ls st w => match st with
  | .long y :: .long x :: st' => some (.inl (n, ls, .int (lg_cmp x y) :: st', w))
  | _ => none
def jo_dup (n : Nat) : jo_P := fun ls st w => match st with
  | .int x :: st' => some (.inl (n, ls, .int x :: .int x :: st', w))
  | .ref x :: st' => some (.inl (n, ls, .ref x :: .ref x :: st', w))
  | _ => none
def jo_dup2 (n : Nat) : jo_P := fun ls st w => match st with
  | .int x :: .ref y :: st' => some (.inl (n, ls, .int x :: .ref y :: .int x :: .ref y :: st', w))
  | _ => none
def jo_pop (n : Nat) : jo_P := fun ls st w => match st with
  | .int _ :: st' => some (.inl (n, ls, st', w))
  | _ => none
def jo_go (n : Nat) : jo_P := fun ls st w => some (.inl (n, ls, st, w))
def jo_if (f : Int32 → Bool) (t n : Nat) : jo_P := fun ls st w => match st with
  | .int x :: st' => some (.inl (if f x = true then t else n, ls, st', w))
  | _ => none
def jo_ic (f : Int32 → Int32 → Bool) (t n : Nat) : jo_P := fun ls st w => match st with
  | .int y :: .int x :: st' => some (.inl (if f x y = true then t else n, ls, st', w))
  | _ => none
/-- a table switch: its lowest number, its targets, the other one -/
def jo_ts (lo : Int) (ts : List Nat) (d : Nat) : jo_P := fun ls st w => match st with
  | .int x :: st' => some (.inl (if x.toInt < lo then d else (ts[(x.toInt - lo).toNat]?).getD d, ls, st', w))
  | _ => none
/-- Math.max, min -/
def jo_max (n : Nat) : jo_P := fun ls st w => match st with
  | .int y :: .int x :: st' => if st'.length ≤ 4 then some (.inl (n, ls, .int (if x < y then y else x) :: st', w)) else none
  | _ => none
def jo_min (n : Nat) : jo_P := fun ls st w => match st with
  | .int y :: .int x :: st' => if st'.length ≤ 4 then some (.inl (n, ls, .int (if y < x then y else x) :: st', w)) else none
  | _ => none
def jo_oin (n : Nat) : jo_P := fun ls st w => match st with
  | .ref _ :: st' => if st'.length ≤ 4 then some (.inl (n, ls, st', w)) else none
  | _ => none
def jo_ret : jo_P := fun _ st w => match st with
  | [] => some (.inr (none, w))
  | _ => none
def jo_iret : jo_P := fun _ st w => match st with
  | [.int x] => some (.inr (some (.int x), w))
  | _ => none
def jo_zret : jo_P := fun _ st w => match st with
  | [.int x] => if narrow .boolean (.int x) = .int x then some (.inr (some (.int x), w)) else none
  | _ => none
def jo_lret : jo_P := fun _ st w => match st with
  | [.long x] => some (.inr (some (.long x), w))
  | _ => none
theorem jw_sum {as : Nat → Nat} : ∀ (st : List Value), ((st.map (jw_rn as)).map fun v => v.category).sum ≤ 2 * st.length
  | [] => Nat.le_refl _
  | v :: st => by
    have h := jw_sum (as := as) st
    have h2 : (jw_rn as v).category ≤ 2 := by rw [jw_rn_cat]; cases v <;> exact Nat.le_of_ble_eq_true rfl
    simp only [List.map_cons, List.sum_cons, List.length_cons]
    omega
def jw_lv (as : Nat → Nat) (ls : List Value) : List (Nat × Value) := (List.range ls.length).filterMap (fun i => (ls[i]?).bind (fun v => if v = Value.null then none else some (i, jw_rn as v)))
theorem jw_lv_mem {as : Nat → Nat} {ls : List Value} {i : Nat} {v : Value} (h : ls[i]? = some v) (hn : v ≠ Value.null) : (i, jw_rn as v) ∈ jw_lv as ls := by
  refine List.mem_filterMap.mpr ⟨i, List.mem_range.mpr (List.getElem?_eq_some_iff.mp h).1, ?_⟩
  rw [h, Option.bind_some, if_neg hn]
theorem jw_Lo.has {as : Nat → Nat} {nL : Nat} {la : Array Slot} {ls : List Value} (h : jw_Lo as nL la ls) : lv_has la nL (jw_lv as ls) := by
  refine ⟨h.1, h.2.1, fun q hq => ?_⟩
  obtain ⟨i, -, hi⟩ := List.mem_filterMap.mp hq
  obtain ⟨v, hv, hi⟩ := Option.bind_eq_some_iff.mp hi
  split at hi
  · cases hi
  · rename_i hn
    cases hi
    exact h.2.2.2.2 i v hv hn
theorem jw_Lo.store {as : Nat → Nat} {nL k : Nat} {la la' : Array Slot} {ls : List Value} {x : Value} (h : jw_Lo as nL la ls) (hk : k < ls.length) (hx : x.category = 1) (h' : lv_has la' nL ((k, jw_rn as x) :: (jw_lv as ls).filter (fun q => !(q.1 == k) && !(q.1 + 1 == k && q.2.category == 2)))) : jw_Lo as nL la' (ls.set k x) := by
  refine ⟨h'.1, h'.2.1, by rw [List.length_set]; exact h.2.2.1, fun i v hv => ?_, fun i v hv hn => ?_⟩
  · by_cases hik : k = i
    · subst hik
      rw [List.getElem?_set_self hk] at hv
      cases hv
      exact hx
    · rw [List.getElem?_set_ne hik] at hv
      exact h.2.2.2.1 i v hv
  · by_cases hik : k = i
    · subst hik
      rw [List.getElem?_set_self hk] at hv
      cases hv
      exact h'.2.2 _ List.mem_cons_self
    · rw [List.getElem?_set_ne hik] at hv
      refine h'.2.2 (i, jw_rn as v) (List.mem_cons_of_mem _ (List.mem_filter.mpr ⟨jw_lv_mem hv hn, ?_⟩))
      have hc := h.2.2.2.1 i v hv
      have h1 : (i == k) = false := by simp; exact fun e => hik e.symm
      have h2 : ((jw_rn as v).category == 2) = false := by rw [jw_rn_cat, hc]; rfl
      show (!(i == k) && !(i + 1 == k && (jw_rn as v).category == 2)) = true
      rw [h1, h2]
      simp
section OPS
variable {own : String} {cc : ByteArray} {nL : Nat} {ret : Option FieldType} {ini : Bool} {Ts : List Cond} {fr lo : Nat} {l : Launch} {pc : Nat}
def jp_H (own : String) (cc : ByteArray) (nL : Nat) (ret : Option FieldType) (ini : Bool) (Ts : List Cond) (fr lo : Nat) (l : Launch) (pc : Nat) (ls st : List Value) (pc' : Nat) (ls' st' : List Value) : Prop :=
  ∀ (D : va_G) (cs : Nat → ClassId) (A : Nat → Prop) (p : Program) (e : Env) (R : Room) (s : State) (m : MethodId) (args : Array Value) (below : List Frame) (meth : Method) (c : Code) (Q : State → Prop) (H : Heap) (locs : List Loc) (cells slots : Nat) (as : Nat → Nat) (la : Array Slot), jc_C own cc nL ret ini D cs Ts A p s m args meth c → fr ≤ R.frames → lo ≤ R.locals → cells ≤ R.cells → slots ≤ R.slots → jw_Lo as nL la ls →
    (∀ la', jw_Lo as nL la' ls' → W p l e R s m args below meth c H locs cells slots Q (F0 m pc' la' (st'.map (jw_rn as)))) → W p l e R s m args below meth c H locs cells slots Q (F0 m pc la (st.map (jw_rn as)))
theorem jb_pure {op : jo_P} (h : ∀ ls st w o, op ls st w = some o → ∃ pc' ls' st', o = .inl (pc', ls', st', w) ∧ jp_H own cc nL ret ini Ts fr lo l pc ls st pc' ls' st') : jc_B own cc nL ret ini Ts fr lo l pc op := by
  refine ⟨fun D cs A as0 w0 p e R s m args below meth c Q hC hfr hlo ls st w pc' ls' st' w' ho => ?_, fun D cs A as0 w0 p e R s m args below meth c hC ls st w r w' ho => ?_⟩
  · obtain ⟨pc1, ls1, st1, e1, h1⟩ := h ls st w _ ho
    cases e1
    exact ⟨⟨Nat.le_refl _, Nat.le_refl _⟩, fun hc hs hG as H locs la hZ hE hL => h1 D cs A p e R s m args below meth c Q H locs _ _ as la hC hfr hlo hc hs hL (fun la' hL' => hG as H locs la' hZ hE hL')⟩
  · obtain ⟨pc1, ls1, st1, e1, h1⟩ := h ls st w _ ho
    cases e1
theorem js_iconst {n : Int} (v : Int32) (hd : decode cc pc = .ok (.iconst n, 1)) (hv : Int32.ofInt n = v) : jc_B own cc nL ret ini Ts fr lo l pc (jo_k (.int v) (pc + 1)) :=
  jb_pure fun ls st w o ho => by
    cases ho
    exact ⟨_, _, _, rfl, fun D cs A p e R s m args below meth c Q H locs cells slots as la hC hfr hlo _ _ hL kk => lv_iconst hC.1 hC.2.1 hd hv (kk la hL)⟩
theorem js_bipush {n : Int} (v : Int32) (hd : decode cc pc = .ok (.bipush n, 2)) (hv : (Int8.ofInt n).toInt32 = v) : jc_B own cc nL ret ini Ts fr lo l pc (jo_k (.int v) (pc + 2)) :=
  jb_pure fun ls st w o ho => by
    cases ho
    exact ⟨_, _, _, rfl, fun D cs A p e R s m args below meth c Q H locs cells slots as la hC hfr hlo _ _ hL kk => lv_bipush hC.1 hC.2.1 hd hv (kk la hL)⟩
theorem js_sipush {n : Int} (v : Int32) (hd : decode cc pc = .ok (.sipush n, 3)) (hv : (Int16.ofInt n).toInt32 = v) : jc_B own cc nL ret ini Ts fr lo l pc (jo_k (.int v) (pc + 3)) :=
  jb_pure fun ls st w o ho => by
    cases ho
    exact ⟨_, _, _, rfl, fun D cs A p e R s m args below meth c Q H locs cells slots as la hC hfr hlo _ _ hL kk => lv_sipush hC.1 hC.2.1 hd hv (kk la hL)⟩
theorem js_lconst {n : Fin 2} (v : Int64) (hd : decode cc pc = .ok (.lconst n, 1)) (hv : Int64.ofNat (n : Nat) = v) : jc_B own cc nL ret ini Ts fr lo l pc (jo_k (.long v) (pc + 1)) :=
  jb_pure fun ls st w o ho => by
    cases ho
    exact ⟨_, _, _, rfl, fun D cs A p e R s m args below meth c Q H locs cells slots as la hC hfr hlo _ _ hL kk => lv_lconst hC.1 hC.2.1 hd hv (kk la hL)⟩
theorem js_ldc {i : Nat} (v : Int32) (hd : decode cc pc = .ok (.ldc i, 2)) (hw : Cond.constant own i v ∈ Ts) : jc_B own cc nL ret ini Ts fr lo l pc (jo_k (.int v) (pc + 2)) :=
  jb_pure fun ls st w o ho => by
    cases ho
    exact ⟨_, _, _, rfl, fun D cs A p e R s m args below meth c Q H locs cells slots as la hC hfr hlo _ _ hL kk => lv_ldc hC.1 hC.2.1 hC.2.2.2.1 (hC.2.2.2.2.1 _ hw) hd (kk la hL)⟩
theorem js_ldcw {i : Nat} (v : Int32) (hd : decode cc pc = .ok (.ldc_w i, 3)) (hw : Cond.constant own i v ∈ Ts) : jc_B own cc nL ret ini Ts fr lo l pc (jo_k (.int v) (pc + 3)) :=
  jb_pure fun ls st w o ho => by
    cases ho
    exact ⟨_, _, _, rfl, fun D cs A p e R s m args below meth c Q H locs cells slots as la hC hfr hlo _ _ hL kk => lv_ldcw hC.1 hC.2.1 hC.2.2.2.1 (hC.2.2.2.2.1 _ hw) hd (kk la hL)⟩
theorem js_ldc2 {i : Nat} (v : Int64) (hd : decode cc pc = .ok (.ldc2_w i, 3)) (hw : Cond.constantLong own i v ∈ Ts) : jc_B own cc nL ret ini Ts fr lo l pc (jo_k (.long v) (pc + 3)) :=
  jb_pure fun ls st w o ho => by
    cases ho
    exact ⟨_, _, _, rfl, fun D cs A p e R s m args below meth c Q H locs cells slots as la hC hfr hlo _ _ hL kk => lv_ldc2 hC.1 hC.2.1 hC.2.2.2.1 (hC.2.2.2.2.1 _ hw) hd (kk la hL)⟩
theorem js_iload_n {k : Fin 4} {i : Nat} (hd : decode cc pc = .ok (.iload_n k, 1)) (hi : (k : Nat) = i) : jc_B own cc nL ret ini Ts fr lo l pc (jo_ild i (pc + 1)) :=
  jb_pure fun ls st w o ho => by
    unfold jo_ild at ho
    split at ho
    · rename_i x hx
      cases ho
      exact ⟨_, _, _, rfl, fun D cs A p e R s m args below meth c Q H locs cells slots as la hC hfr hlo _ _ hL kk => lv_iload_n hC.1 hC.2.1 hd hi (hL.2.2.2.2 i (.int x) hx (by intro h; cases h)) (kk la hL)⟩
    · cases ho
theorem js_iload {i : Nat} (hd : decode cc pc = .ok (.iload i, 2)) : jc_B own cc nL ret ini Ts fr lo l pc (jo_ild i (pc + 2)) :=
  jb_pure fun ls st w o ho => by
    unfold jo_ild at ho
    split at ho
    · rename_i x hx
      cases ho
      exact ⟨_, _, _, rfl, fun D cs A p e R s m args below meth c Q H locs cells slots as la hC hfr hlo _ _ hL kk => lv_iload hC.1 hC.2.1 hd (hL.2.2.2.2 i (.int x) hx (by intro h; cases h)) (kk la hL)⟩
    · cases ho
theorem js_aload_n {k : Fin 4} {i : Nat} (hd : decode cc pc = .ok (.aload_n k, 1)) (hi : (k : Nat) = i) : jc_B own cc nL ret ini Ts fr lo l pc (jo_rld i (pc + 1)) :=
  jb_pure fun ls st w o ho => by
    unfold jo_rld at ho
    split at ho
    · rename_i x hx
      cases ho
      exact ⟨_, _, _, rfl, fun D cs A p e R s m args below meth c Q H locs cells slots as la hC hfr hlo _ _ hL kk => lv_aload_n hC.1 hC.2.1 hd hi (hL.2.2.2.2 i (.ref x) hx (by intro h; cases h)) (kk la hL)⟩
    · cases ho
theorem js_istore_n {k : Fin 4} {i : Nat} (hd : decode cc pc = .ok (.istore_n k, 1)) (hi : (k : Nat) = i) : jc_B own cc nL ret ini Ts fr lo l pc (jo_ist i (pc + 1)) :=
  jb_pure fun ls st w o ho => by
    unfold jo_ist at ho
    split at ho
    · split at ho
      · rename_i hk
        cases ho
        exact ⟨_, _, _, rfl, fun D cs A p e R s m args below meth c Q H locs cells slots as la hC hfr hlo _ _ hL kk => lv_istore_n hC.1 hC.2.1 hd hi hL.has (Nat.lt_of_lt_of_le hk hL.2.2.1) rfl (fun la' h' => kk la' (hL.store hk rfl h'))⟩
      · cases ho
    · cases ho
theorem js_istore {i : Nat} (hd : decode cc pc = .ok (.istore i, 2)) : jc_B own cc nL ret ini Ts fr lo l pc (jo_ist i (pc + 2)) :=
  jb_pure fun ls st w o ho => by
    unfold jo_ist at ho
    split at ho
    · split at ho
      · rename_i hk
        cases ho
        exact ⟨_, _, _, rfl, fun D cs A p e R s m args below meth c Q H locs cells slots as la hC hfr hlo _ _ hL kk => lv_istore hC.1 hC.2.1 hd hL.has (Nat.lt_of_lt_of_le hk hL.2.2.1) rfl (fun la' h' => kk la' (hL.store hk rfl h'))⟩
      · cases ho
    · cases ho
theorem js_astore_n {k : Fin 4} {i : Nat} (hd : decode cc pc = .ok (.astore_n k, 1)) (hi : (k : Nat) = i) : jc_B own cc nL ret ini Ts fr lo l pc (jo_rst i (pc + 1)) :=
  jb_pure fun ls st w o ho => by
    unfold jo_rst at ho
    split at ho
    · split at ho
      · rename_i hk
        cases ho
        exact ⟨_, _, _, rfl, fun D cs A p e R s m args below meth c Q H locs cells slots as la hC hfr hlo _ _ hL kk => lv_astore_n hC.1 hC.2.1 hd hi hL.has (Nat.lt_of_lt_of_le hk hL.2.2.1) rfl (fun la' h' => kk la' (hL.store hk rfl h'))⟩
      · cases ho
    · cases ho
theorem js_iinc {i : Nat} {n : Int} (v : Int32) (hd : decode cc pc = .ok (.iinc i n, 3)) (hv : Int32.ofInt n = v) : jc_B own cc nL ret ini Ts fr lo l pc (jo_inc i v (pc + 3)) :=
  jb_pure fun ls st w o ho => by
    unfold jo_inc at ho
    split at ho
    · rename_i x hx
      cases ho
      have hk := (List.getElem?_eq_some_iff.mp hx).1
      refine ⟨_, _, _, rfl, fun D cs A p e R s m args below meth c Q H locs cells slots as la hC hfr hlo _ _ hL kk => ?_⟩
      obtain ⟨k, hkk⟩ := List.getElem?_of_mem (jw_lv_mem (as := as) hx (by intro h; cases h))
      exact lv_iinc (k := k) hC.1 hC.2.1 hd hL.has hkk (by rw [hv]) (Nat.lt_of_lt_of_le hk hL.2.2.1) rfl (fun la' h' => kk la' (hL.store hk rfl h'))
    · cases ho
end OPS

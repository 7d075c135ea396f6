section OPS2
variable {own : String} {cc : ByteArray} {nL : Nat} {ret : Option FieldType} {ini : Bool} {Ts : List Cond} {fr lo : Nat} {l : Launch} {pc : Nat}
theorem js_iadd (hd : decode cc pc = .ok (.iadd, 1)) : jc_B own cc nL ret ini Ts fr lo l pc (jo_bin (fun x y => x + y) (pc + 1)) :=
  jb_pure fun ls st w o ho => by
    unfold jo_bin at ho
    split at ho
    · cases ho
      exact ⟨_, _, _, rfl, fun D cs A p e R s m args below meth c Q H locs cells slots as la hC hfr hlo hc hs hL kk => lv_iadd hC.1 hC.2.1 hd (kk la hL)⟩
    · cases ho
theorem js_isub (hd : decode cc pc = .ok (.isub, 1)) : jc_B own cc nL ret ini Ts fr lo l pc (jo_bin (fun x y => x - y) (pc + 1)) :=
  jb_pure fun ls st w o ho => by
    unfold jo_bin at ho
    split at ho
    · cases ho
      exact ⟨_, _, _, rfl, fun D cs A p e R s m args below meth c Q H locs cells slots as la hC hfr hlo hc hs hL kk => lv_isub hC.1 hC.2.1 hd (kk la hL)⟩
    · cases ho
theorem js_imul (hd : decode cc pc = .ok (.imul, 1)) : jc_B own cc nL ret ini Ts fr lo l pc (jo_bin (fun x y => x * y) (pc + 1)) :=
  jb_pure fun ls st w o ho => by
    unfold jo_bin at ho
    split at ho
    · cases ho
      exact ⟨_, _, _, rfl, fun D cs A p e R s m args below meth c Q H locs cells slots as la hC hfr hlo hc hs hL kk => lv_imul hC.1 hC.2.1 hd (kk la hL)⟩
    · cases ho
theorem js_iand (hd : decode cc pc = .ok (.iand, 1)) : jc_B own cc nL ret ini Ts fr lo l pc (jo_bin (fun x y => x &&& y) (pc + 1)) :=
  jb_pure fun ls st w o ho => by
    unfold jo_bin at ho
    split at ho
    · cases ho
      exact ⟨_, _, _, rfl, fun D cs A p e R s m args below meth c Q H locs cells slots as la hC hfr hlo hc hs hL kk => lv_iand hC.1 hC.2.1 hd (kk la hL)⟩
    · cases ho
theorem js_ior (hd : decode cc pc = .ok (.ior, 1)) : jc_B own cc nL ret ini Ts fr lo l pc (jo_bin (fun x y => x ||| y) (pc + 1)) :=
  jb_pure fun ls st w o ho => by
    unfold jo_bin at ho
    split at ho
    · cases ho
      exact ⟨_, _, _, rfl, fun D cs A p e R s m args below meth c Q H locs cells slots as la hC hfr hlo hc hs hL kk => lv_ior hC.1 hC.2.1 hd (kk la hL)⟩
    · cases ho
theorem js_ishl (hd : decode cc pc = .ok (.ishl, 1)) : jc_B own cc nL ret ini Ts fr lo l pc (jo_bin (fun x y => x <<< (y &&& 31)) (pc + 1)) :=
  jb_pure fun ls st w o ho => by
    unfold jo_bin at ho
    split at ho
    · cases ho
      exact ⟨_, _, _, rfl, fun D cs A p e R s m args below meth c Q H locs cells slots as la hC hfr hlo hc hs hL kk => lv_ishl hC.1 hC.2.1 hd (kk la hL)⟩
    · cases ho
theorem js_ishr (hd : decode cc pc = .ok (.ishr, 1)) : jc_B own cc nL ret ini Ts fr lo l pc (jo_bin (fun x y => x >>> (y &&& 31)) (pc + 1)) :=
  jb_pure fun ls st w o ho => by
    unfold jo_bin at ho
    split at ho
    · cases ho
      exact ⟨_, _, _, rfl, fun D cs A p e R s m args below meth c Q H locs cells slots as la hC hfr hlo hc hs hL kk => lv_ishr hC.1 hC.2.1 hd (kk la hL)⟩
    · cases ho
theorem js_iushr (hd : decode cc pc = .ok (.iushr, 1)) : jc_B own cc nL ret ini Ts fr lo l pc (jo_bin (fun x y => (x.toUInt32 >>> (y.toUInt32 &&& Int32.toUInt32 31)).toInt32) (pc + 1)) :=
  jb_pure fun ls st w o ho => by
    unfold jo_bin at ho
    split at ho
    · cases ho
      exact ⟨_, _, _, rfl, fun D cs A p e R s m args below meth c Q H locs cells slots as la hC hfr hlo hc hs hL kk => lv_iushr hC.1 hC.2.1 hd rfl (kk la hL)⟩
    · cases ho
theorem js_idiv (hd : decode cc pc = .ok (.idiv, 1)) : jc_B own cc nL ret ini Ts fr lo l pc (jo_dv (fun x y => x / y) (pc + 1)) :=
  jb_pure fun ls st w o ho => by
    unfold jo_dv at ho
    split at ho
    · split at ho
      · cases ho
      · rename_i hne
        cases ho
        exact ⟨_, _, _, rfl, fun D cs A p e R s m args below meth c Q H locs cells slots as la hC hfr hlo hc hs hL kk => lv_idiv hC.1 hC.2.1 hd hne (kk la hL)⟩
    · cases ho
theorem js_irem (hd : decode cc pc = .ok (.irem, 1)) : jc_B own cc nL ret ini Ts fr lo l pc (jo_dv (fun x y => x - x / y * y) (pc + 1)) :=
  jb_pure fun ls st w o ho => by
    unfold jo_dv at ho
    split at ho
    · split at ho
      · cases ho
      · rename_i hne
        cases ho
        exact ⟨_, _, _, rfl, fun D cs A p e R s m args below meth c Q H locs cells slots as la hC hfr hlo hc hs hL kk => lv_irem hC.1 hC.2.1 hd hne (kk la hL)⟩
    · cases ho
theorem js_ineg (hd : decode cc pc = .ok (.ineg, 1)) : jc_B own cc nL ret ini Ts fr lo l pc (jo_neg (pc + 1)) :=
  jb_pure fun ls st w o ho => by
    unfold jo_neg at ho
    split at ho
    · cases ho
      exact ⟨_, _, _, rfl, fun D cs A p e R s m args below meth c Q H locs cells slots as la hC hfr hlo hc hs hL kk => lv_ineg hC.1 hC.2.1 hd (kk la hL)⟩
    · cases ho
theorem js_ladd (hd : decode cc pc = .ok (.ladd, 1)) : jc_B own cc nL ret ini Ts fr lo l pc (jo_ladd (pc + 1)) :=
  jb_pure fun ls st w o ho => by
    unfold jo_ladd at ho
    split at ho
    · cases ho
      exact ⟨_, _, _, rfl, fun D cs A p e R s m args below meth c Q H locs cells slots as la hC hfr hlo hc hs hL kk => lv_ladd hC.1 hC.2.1 hd (kk la hL)⟩
    · cases ho
theorem js_lcmp (hd : decode cc pc = .ok (.lcmp, 1)) : jc_B own cc nL ret ini Ts fr lo l pc (jo_lcmp (pc + 1)) :=
  jb_pure fun ls st w o ho => by
    unfold jo_lcmp at ho
    split at ho
    · cases ho
      exact ⟨_, _, _, rfl, fun D cs A p e R s m args below meth c Q H locs cells slots as la hC hfr hlo hc hs hL kk => W.lcmp hC.1 hC.2.1 hd (kk la hL)⟩
    · cases ho
theorem js_dup2 (hd : decode cc pc = .ok (.dup2, 1)) : jc_B own cc nL ret ini Ts fr lo l pc (jo_dup2 (pc + 1)) :=
  jb_pure fun ls st w o ho => by
    unfold jo_dup2 at ho
    split at ho
    · cases ho
      exact ⟨_, _, _, rfl, fun D cs A p e R s m args below meth c Q H locs cells slots as la hC hfr hlo hc hs hL kk => lv_dup2_11 hC.1 hC.2.1 hd rfl rfl (kk la hL)⟩
    · cases ho
theorem js_pop (hd : decode cc pc = .ok (.pop, 1)) : jc_B own cc nL ret ini Ts fr lo l pc (jo_pop (pc + 1)) :=
  jb_pure fun ls st w o ho => by
    unfold jo_pop at ho
    split at ho
    · cases ho
      exact ⟨_, _, _, rfl, fun D cs A p e R s m args below meth c Q H locs cells slots as la hC hfr hlo hc hs hL kk => lv_pop hC.1 hC.2.1 hd rfl (kk la hL)⟩
    · cases ho
theorem js_dup (hd : decode cc pc = .ok (.dup, 1)) : jc_B own cc nL ret ini Ts fr lo l pc (jo_dup (pc + 1)) :=
  jb_pure fun ls st w o ho => by
    unfold jo_dup at ho
    split at ho
    · cases ho
      exact ⟨_, _, _, rfl, fun D cs A p e R s m args below meth c Q H locs cells slots as la hC hfr hlo hc hs hL kk => lv_dup hC.1 hC.2.1 hd rfl (kk la hL)⟩
    · cases ho
      exact ⟨_, _, _, rfl, fun D cs A p e R s m args below meth c Q H locs cells slots as la hC hfr hlo hc hs hL kk => lv_dup hC.1 hC.2.1 hd rfl (kk la hL)⟩
    · cases ho
theorem js_goto {off : Int} {t : Nat} (hd : decode cc pc = .ok (.goto off, 3)) (ht : (pc : Int) + off = (t : Int)) : jc_B own cc nL ret ini Ts fr lo l pc (jo_go t) :=
  jb_pure fun ls st w o ho => by
    cases ho
    exact ⟨_, _, _, rfl, fun D cs A p e R s m args below meth c Q H locs cells slots as la hC hfr hlo hc hs hL kk => lv_goto hC.1 hC.2.1 hd ht (kk la hL)⟩
theorem js_if_eq {off : Int} {t : Nat} (hd : decode cc pc = .ok (.ifCond .eq off, 3)) (ht : (pc : Int) + off = (t : Int)) : jc_B own cc nL ret ini Ts fr lo l pc (jo_if (fun x => decide (x = 0)) t (pc + 3)) :=
  jb_pure fun ls st w o ho => by
    unfold jo_if at ho
    split at ho
    · rename_i x st'
      cases ho
      refine ⟨_, _, _, rfl, fun D cs A p e R s m args below meth c Q H locs cells slots as la hC hfr hlo hc hs hL kk => lv_if_eq hC.1 hC.2.1 hd ht (fun h => ?_) (fun h => ?_)⟩
      · have k1 := kk la hL
        simp only [h, decide_true, decide_false, Bool.not_true, Bool.not_false, if_true, if_false, Bool.false_eq_true] at k1
        exact k1
      · have k1 := kk la hL
        simp only [h, decide_true, decide_false, Bool.not_true, Bool.not_false, if_true, if_false, Bool.false_eq_true] at k1
        exact k1
    · cases ho
theorem js_if_ne {off : Int} {t : Nat} (hd : decode cc pc = .ok (.ifCond .ne off, 3)) (ht : (pc : Int) + off = (t : Int)) : jc_B own cc nL ret ini Ts fr lo l pc (jo_if (fun x => !decide (x = 0)) t (pc + 3)) :=
  jb_pure fun ls st w o ho => by
    unfold jo_if at ho
    split at ho
    · rename_i x st'
      cases ho
      refine ⟨_, _, _, rfl, fun D cs A p e R s m args below meth c Q H locs cells slots as la hC hfr hlo hc hs hL kk => lv_if_ne hC.1 hC.2.1 hd ht (fun h => ?_) (fun h => ?_)⟩
      · have k1 := kk la hL
        simp only [h, decide_true, decide_false, Bool.not_true, Bool.not_false, if_true, if_false, Bool.false_eq_true] at k1
        exact k1
      · have k1 := kk la hL
        simp only [h, decide_true, decide_false, Bool.not_true, Bool.not_false, if_true, if_false, Bool.false_eq_true] at k1
        exact k1
    · cases ho
theorem js_if_lt {off : Int} {t : Nat} (hd : decode cc pc = .ok (.ifCond .lt off, 3)) (ht : (pc : Int) + off = (t : Int)) : jc_B own cc nL ret ini Ts fr lo l pc (jo_if (fun x => decide (x < 0)) t (pc + 3)) :=
  jb_pure fun ls st w o ho => by
    unfold jo_if at ho
    split at ho
    · rename_i x st'
      cases ho
      refine ⟨_, _, _, rfl, fun D cs A p e R s m args below meth c Q H locs cells slots as la hC hfr hlo hc hs hL kk => lv_if_lt hC.1 hC.2.1 hd ht (fun h => ?_) (fun h => ?_)⟩
      · have k1 := kk la hL
        simp only [h, decide_true, decide_false, Bool.not_true, Bool.not_false, if_true, if_false, Bool.false_eq_true] at k1
        exact k1
      · have k1 := kk la hL
        simp only [h, decide_true, decide_false, Bool.not_true, Bool.not_false, if_true, if_false, Bool.false_eq_true] at k1
        exact k1
    · cases ho
theorem js_if_ge {off : Int} {t : Nat} (hd : decode cc pc = .ok (.ifCond .ge off, 3)) (ht : (pc : Int) + off = (t : Int)) : jc_B own cc nL ret ini Ts fr lo l pc (jo_if (fun x => decide (0 ≤ x)) t (pc + 3)) :=
  jb_pure fun ls st w o ho => by
    unfold jo_if at ho
    split at ho
    · rename_i x st'
      cases ho
      refine ⟨_, _, _, rfl, fun D cs A p e R s m args below meth c Q H locs cells slots as la hC hfr hlo hc hs hL kk => lv_if_ge hC.1 hC.2.1 hd ht (fun h => ?_) (fun h => ?_)⟩
      · have k1 := kk la hL
        simp only [h, decide_true, decide_false, Bool.not_true, Bool.not_false, if_true, if_false, Bool.false_eq_true] at k1
        exact k1
      · have k1 := kk la hL
        simp only [h, decide_true, decide_false, Bool.not_true, Bool.not_false, if_true, if_false, Bool.false_eq_true] at k1
        exact k1
    · cases ho
theorem js_if_gt {off : Int} {t : Nat} (hd : decode cc pc = .ok (.ifCond .gt off, 3)) (ht : (pc : Int) + off = (t : Int)) : jc_B own cc nL ret ini Ts fr lo l pc (jo_if (fun x => decide (0 < x)) t (pc + 3)) :=
  jb_pure fun ls st w o ho => by
    unfold jo_if at ho
    split at ho
    · rename_i x st'
      cases ho
      refine ⟨_, _, _, rfl, fun D cs A p e R s m args below meth c Q H locs cells slots as la hC hfr hlo hc hs hL kk => lv_if_gt hC.1 hC.2.1 hd ht (fun h => ?_) (fun h => ?_)⟩
      · have k1 := kk la hL
        simp only [h, decide_true, decide_false, Bool.not_true, Bool.not_false, if_true, if_false, Bool.false_eq_true] at k1
        exact k1
      · have k1 := kk la hL
        simp only [h, decide_true, decide_false, Bool.not_true, Bool.not_false, if_true, if_false, Bool.false_eq_true] at k1
        exact k1
    · cases ho
theorem js_if_le {off : Int} {t : Nat} (hd : decode cc pc = .ok (.ifCond .le off, 3)) (ht : (pc : Int) + off = (t : Int)) : jc_B own cc nL ret ini Ts fr lo l pc (jo_if (fun x => decide (x ≤ 0)) t (pc + 3)) :=
  jb_pure fun ls st w o ho => by
    unfold jo_if at ho
    split at ho
    · rename_i x st'
      cases ho
      refine ⟨_, _, _, rfl, fun D cs A p e R s m args below meth c Q H locs cells slots as la hC hfr hlo hc hs hL kk => lv_if_le hC.1 hC.2.1 hd ht (fun h => ?_) (fun h => ?_)⟩
      · have k1 := kk la hL
        simp only [h, decide_true, decide_false, Bool.not_true, Bool.not_false, if_true, if_false, Bool.false_eq_true] at k1
        exact k1
      · have k1 := kk la hL
        simp only [h, decide_true, decide_false, Bool.not_true, Bool.not_false, if_true, if_false, Bool.false_eq_true] at k1
        exact k1
    · cases ho
theorem js_icmp_eq {off : Int} {t : Nat} (hd : decode cc pc = .ok (.if_icmp .eq off, 3)) (ht : (pc : Int) + off = (t : Int)) : jc_B own cc nL ret ini Ts fr lo l pc (jo_ic (fun x y => decide (x = y)) t (pc + 3)) :=
  jb_pure fun ls st w o ho => by
    unfold jo_ic at ho
    split at ho
    · rename_i y x st'
      cases ho
      refine ⟨_, _, _, rfl, fun D cs A p e R s m args below meth c Q H locs cells slots as la hC hfr hlo hc hs hL kk => lv_icmp_eq hC.1 hC.2.1 hd ht (fun h => ?_) (fun h => ?_)⟩
      · have k1 := kk la hL
        simp only [h, decide_true, decide_false, Bool.not_true, Bool.not_false, if_true, if_false, Bool.false_eq_true] at k1
        exact k1
      · have k1 := kk la hL
        simp only [h, decide_true, decide_false, Bool.not_true, Bool.not_false, if_true, if_false, Bool.false_eq_true] at k1
        exact k1
    · cases ho
theorem js_icmp_ne {off : Int} {t : Nat} (hd : decode cc pc = .ok (.if_icmp .ne off, 3)) (ht : (pc : Int) + off = (t : Int)) : jc_B own cc nL ret ini Ts fr lo l pc (jo_ic (fun x y => !decide (x = y)) t (pc + 3)) :=
  jb_pure fun ls st w o ho => by
    unfold jo_ic at ho
    split at ho
    · rename_i y x st'
      cases ho
      refine ⟨_, _, _, rfl, fun D cs A p e R s m args below meth c Q H locs cells slots as la hC hfr hlo hc hs hL kk => lv_icmp_ne hC.1 hC.2.1 hd ht (fun h => ?_) (fun h => ?_)⟩
      · have k1 := kk la hL
        simp only [h, decide_true, decide_false, Bool.not_true, Bool.not_false, if_true, if_false, Bool.false_eq_true] at k1
        exact k1
      · have k1 := kk la hL
        simp only [h, decide_true, decide_false, Bool.not_true, Bool.not_false, if_true, if_false, Bool.false_eq_true] at k1
        exact k1
    · cases ho
theorem js_icmp_lt {off : Int} {t : Nat} (hd : decode cc pc = .ok (.if_icmp .lt off, 3)) (ht : (pc : Int) + off = (t : Int)) : jc_B own cc nL ret ini Ts fr lo l pc (jo_ic (fun x y => decide (x < y)) t (pc + 3)) :=
  jb_pure fun ls st w o ho => by
    unfold jo_ic at ho
    split at ho
    · rename_i y x st'
      cases ho
      refine ⟨_, _, _, rfl, fun D cs A p e R s m args below meth c Q H locs cells slots as la hC hfr hlo hc hs hL kk => lv_icmp_lt hC.1 hC.2.1 hd ht (fun h => ?_) (fun h => ?_)⟩
      · have k1 := kk la hL
        simp only [h, decide_true, decide_false, Bool.not_true, Bool.not_false, if_true, if_false, Bool.false_eq_true] at k1
        exact k1
      · have k1 := kk la hL
        simp only [h, decide_true, decide_false, Bool.not_true, Bool.not_false, if_true, if_false, Bool.false_eq_true] at k1
        exact k1
    · cases ho
theorem js_icmp_ge {off : Int} {t : Nat} (hd : decode cc pc = .ok (.if_icmp .ge off, 3)) (ht : (pc : Int) + off = (t : Int)) : jc_B own cc nL ret ini Ts fr lo l pc (jo_ic (fun x y => decide (y ≤ x)) t (pc + 3)) :=
  jb_pure fun ls st w o ho => by
    unfold jo_ic at ho
    split at ho
    · rename_i y x st'
      cases ho
      refine ⟨_, _, _, rfl, fun D cs A p e R s m args below meth c Q H locs cells slots as la hC hfr hlo hc hs hL kk => lv_icmp_ge hC.1 hC.2.1 hd ht (fun h => ?_) (fun h => ?_)⟩
      · have k1 := kk la hL
        simp only [h, decide_true, decide_false, Bool.not_true, Bool.not_false, if_true, if_false, Bool.false_eq_true] at k1
        exact k1
      · have k1 := kk la hL
        simp only [h, decide_true, decide_false, Bool.not_true, Bool.not_false, if_true, if_false, Bool.false_eq_true] at k1
        exact k1
    · cases ho
theorem js_icmp_gt {off : Int} {t : Nat} (hd : decode cc pc = .ok (.if_icmp .gt off, 3)) (ht : (pc : Int) + off = (t : Int)) : jc_B own cc nL ret ini Ts fr lo l pc (jo_ic (fun x y => decide (y < x)) t (pc + 3)) :=
  jb_pure fun ls st w o ho => by
    unfold jo_ic at ho
    split at ho
    · rename_i y x st'
      cases ho
      refine ⟨_, _, _, rfl, fun D cs A p e R s m args below meth c Q H locs cells slots as la hC hfr hlo hc hs hL kk => lv_icmp_gt hC.1 hC.2.1 hd ht (fun h => ?_) (fun h => ?_)⟩
      · have k1 := kk la hL
        simp only [h, decide_true, decide_false, Bool.not_true, Bool.not_false, if_true, if_false, Bool.false_eq_true] at k1
        exact k1
      · have k1 := kk la hL
        simp only [h, decide_true, decide_false, Bool.not_true, Bool.not_false, if_true, if_false, Bool.false_eq_true] at k1
        exact k1
    · cases ho
theorem js_icmp_le {off : Int} {t : Nat} (hd : decode cc pc = .ok (.if_icmp .le off, 3)) (ht : (pc : Int) + off = (t : Int)) : jc_B own cc nL ret ini Ts fr lo l pc (jo_ic (fun x y => decide (x ≤ y)) t (pc + 3)) :=
  jb_pure fun ls st w o ho => by
    unfold jo_ic at ho
    split at ho
    · rename_i y x st'
      cases ho
      refine ⟨_, _, _, rfl, fun D cs A p e R s m args below meth c Q H locs cells slots as la hC hfr hlo hc hs hL kk => lv_icmp_le hC.1 hC.2.1 hd ht (fun h => ?_) (fun h => ?_)⟩
      · have k1 := kk la hL
        simp only [h, decide_true, decide_false, Bool.not_true, Bool.not_false, if_true, if_false, Bool.false_eq_true] at k1
        exact k1
      · have k1 := kk la hL
        simp only [h, decide_true, decide_false, Bool.not_true, Bool.not_false, if_true, if_false, Bool.false_eq_true] at k1
        exact k1
    · cases ho
theorem js_ts {d lw hi : Int} {offs : Array Int} {len : Nat} {ts : List Nat} {t : Nat} (hd : decode cc pc = .ok (.tableswitch d lw hi offs, len)) (ht : (pc : Int) + d = (t : Int)) (hl : (hi - lw + 1).toNat = ts.length ∧ lw ≤ hi) (hts : ∀ i, i < ts.length → ∃ o, offs[i]? = some o ∧ (pc : Int) + o = (ts.getD i 0 : Nat)) : jc_B own cc nL ret ini Ts fr lo l pc (jo_ts lw ts t) :=
  jb_pure fun ls st w o ho => by
    unfold jo_ts at ho
    split at ho
    · rename_i x st'
      cases ho
      refine ⟨_, _, _, rfl, fun D cs A p e R s m args below meth c Q H locs cells slots as la hC hfr hlo hc hs hL kk => ?_⟩
      have k1 := kk la hL
      by_cases h1 : x.toInt < lw
      · rw [if_pos h1] at k1
        exact lv_tableOut hC.1 hC.2.1 hd (Or.inl h1) ht k1
      · rw [if_neg h1] at k1
        by_cases h2 : hi < x.toInt
        · rw [List.getElem?_eq_none (by omega)] at k1
          exact lv_tableOut hC.1 hC.2.1 hd (Or.inr h2) ht k1
        · have hlt : (x.toInt - lw).toNat < ts.length := by omega
          obtain ⟨o, ho1, ho2⟩ := hts _ hlt
          have e1 : ts[(x.toInt - lw).toNat]? = some (ts.getD (x.toInt - lw).toNat 0) := by rw [List.getD_eq_getElem?_getD, List.getElem?_eq_getElem hlt]; rfl
          rw [e1] at k1
          exact lv_tableIn hC.1 hC.2.1 hd h1 h2 ho1 ho2 k1
    · cases ho
theorem js_max {i : Nat} (hd : decode cc pc = .ok (.invokestatic i, 3)) (h1 : Cond.methodLink own i Lib.Math.max.name ∈ Ts) (h2 : Cond.static Lib.Math.max.name ∈ Ts) (h3 : Cond.initialized "java/lang/Math" ∈ Ts) (h4 : Cond.code Lib.Math.max.name Lib.Math.max.code 2 (some .int) ∈ Ts) (hf : 1 ≤ fr) (hg : 21 ≤ lo) : jc_B own cc nL ret ini Ts fr lo l pc (jo_max (pc + 3)) :=
  jb_pure fun ls st w o ho => by
    unfold jo_max at ho
    split at ho
    · rename_i y x st'
      split at ho
      · rename_i h9
        cases ho
        refine ⟨_, _, _, rfl, fun D cs A p e R s m args below meth c Q H locs cells slots as la hC hfr hlo hc hs hL kk => ?_⟩
        have h5 := jw_sum (as := as) st'
        exact va_mmax hC.1 hC.2.1 (hC.2.2.1.trans hL.1.symm) hC.2.2.2.1 (hC.2.2.2.2.1 _ h1) (hC.2.2.2.2.1 _ h2) (hC.2.2.2.2.1 _ h3) (hC.2.2.2.2.1 _ (by assumption)) (by omega) (by omega) hc hs hd (kk la hL)
      · cases ho
    · cases ho
theorem js_min {i : Nat} (hd : decode cc pc = .ok (.invokestatic i, 3)) (h1 : Cond.methodLink own i Lib.Math.min.name ∈ Ts) (h2 : Cond.static Lib.Math.min.name ∈ Ts) (h3 : Cond.initialized "java/lang/Math" ∈ Ts) (h4 : Cond.code Lib.Math.min.name Lib.Math.min.code 2 (some .int) ∈ Ts) (hf : 1 ≤ fr) (hg : 21 ≤ lo) : jc_B own cc nL ret ini Ts fr lo l pc (jo_min (pc + 3)) :=
  jb_pure fun ls st w o ho => by
    unfold jo_min at ho
    split at ho
    · rename_i y x st'
      split at ho
      · rename_i h9
        cases ho
        refine ⟨_, _, _, rfl, fun D cs A p e R s m args below meth c Q H locs cells slots as la hC hfr hlo hc hs hL kk => ?_⟩
        have h5 := jw_sum (as := as) st'
        exact va_mmin hC.1 hC.2.1 (hC.2.2.1.trans hL.1.symm) hC.2.2.2.1 (hC.2.2.2.2.1 _ h1) (hC.2.2.2.2.1 _ h2) (hC.2.2.2.2.1 _ h3) (hC.2.2.2.2.1 _ (by assumption)) (by omega) (by omega) hc hs hd (kk la hL)
      · cases ho
    · cases ho
theorem js_oin {i : Nat} (hd : decode cc pc = .ok (.invokespecial i, 3)) (h1 : Cond.methodLink own i Lib.objectInit ∈ Ts) (h2 : Cond.instanceMethod Lib.objectInit ∈ Ts) (h3 : Cond.code Lib.objectInit ⟨#[0xb1]⟩ 1 none ∈ Ts) (hf : 1 ≤ fr) (hg : 20 ≤ lo) : jc_B own cc nL ret ini Ts fr lo l pc (jo_oin (pc + 3)) :=
  jb_pure fun ls st w o ho => by
    unfold jo_oin at ho
    split at ho
    · rename_i x st'
      split at ho
      · rename_i h9
        cases ho
        refine ⟨_, _, _, rfl, fun D cs A p e R s m args below meth c Q H locs cells slots as la hC hfr hlo hc hs hL kk => ?_⟩
        have h5 := jw_sum (as := as) st'
        refine W.objInit hC.1 hC.2.1 hC.2.2.2.1 (hC.2.2.2.2.1 _ h1) (hC.2.2.2.2.1 _ h2) (hC.2.2.2.2.1 _ h3) rfl (hL.1.trans hC.2.2.1.symm) rfl hd (by omega) ?_ (kk la hL)
        show 2 * (F0 m pc la _).monitorRoom + _ + 12 ≤ R.locals
        have h6 := lv_room (m := m) (pc := pc) (ls := la) (rest := List.map (jw_rn as) (Value.ref x :: st')) (st := st'.map (jw_rn as)) (by omega)
        omega
      · cases ho
    · cases ho
theorem js_ret (hd : decode cc pc = .ok (.return_, 1)) (hr : ret = none) : jc_B own cc nL ret ini Ts fr lo l pc jo_ret := by
  refine ⟨fun D cs A as0 w0 p e R s m args below meth c Q hC hfr hlo ls st w pc' ls' st' w' ho => ?_, fun D cs A as0 w0 p e R s m args below meth c hC ls st w r w' ho => ?_⟩
  · unfold jo_ret at ho
    split at ho
    · cases ho
    · cases ho
  · unfold jo_ret at ho
    split at ho
    · cases ho
      refine ⟨rfl, fun as H locs la hZ hE hL => ?_⟩
      exact W.vret hC.1 hC.2.1 (hC.2.2.2.2.2.1.trans hr) (fun t ht hW => ⟨⟨as, hE, rfl, by rw [ht]; exact hZ.1, hZ.2.1, hZ.2.2.2⟩, hZ.2.2.1.F ht⟩) hZ.2.2.1.2.2 hd (hlocks := hC.2.2.2.2.2.2.1)
    · cases ho
theorem js_iret (hd : decode cc pc = .ok (.ireturn, 1)) (hr : ret = some .int) : jc_B own cc nL ret ini Ts fr lo l pc jo_iret := by
  refine ⟨fun D cs A as0 w0 p e R s m args below meth c Q hC hfr hlo ls st w pc' ls' st' w' ho => ?_, fun D cs A as0 w0 p e R s m args below meth c hC ls st w r w' ho => ?_⟩
  · unfold jo_iret at ho
    split at ho
    · cases ho
    · cases ho
  · unfold jo_iret at ho
    split at ho
    · cases ho
      refine ⟨rfl, fun as H locs la hZ hE hL => ?_⟩
      exact W.iret hC.1 hC.2.1 (hC.2.2.2.2.2.1.trans hr) (fun t ht hW => ⟨⟨as, hE, rfl, by rw [ht]; exact hZ.1, hZ.2.1, hZ.2.2.2⟩, hZ.2.2.1.F ht⟩) hZ.2.2.1.2.2 hd (hlocks := hC.2.2.2.2.2.2.1)
    · cases ho
theorem js_lret (hd : decode cc pc = .ok (.lreturn, 1)) (hr : ret = some .long) : jc_B own cc nL ret ini Ts fr lo l pc jo_lret := by
  refine ⟨fun D cs A as0 w0 p e R s m args below meth c Q hC hfr hlo ls st w pc' ls' st' w' ho => ?_, fun D cs A as0 w0 p e R s m args below meth c hC ls st w r w' ho => ?_⟩
  · unfold jo_lret at ho
    split at ho
    · cases ho
    · cases ho
  · unfold jo_lret at ho
    split at ho
    · cases ho
      refine ⟨rfl, fun as H locs la hZ hE hL => ?_⟩
      exact W.lret hC.1 hC.2.1 (hC.2.2.2.2.2.1.trans hr) (fun t ht hW => ⟨⟨as, hE, rfl, by rw [ht]; exact hZ.1, hZ.2.1, hZ.2.2.2⟩, hZ.2.2.1.F ht⟩) hZ.2.2.1.2.2 hd (hlocks := hC.2.2.2.2.2.2.1)
    · cases ho
theorem js_zret (hd : decode cc pc = .ok (.ireturn, 1)) (hr : ret = some .boolean) : jc_B own cc nL ret ini Ts fr lo l pc jo_zret := by
  refine ⟨fun D cs A as0 w0 p e R s m args below meth c Q hC hfr hlo ls st w pc' ls' st' w' ho => ?_, fun D cs A as0 w0 p e R s m args below meth c hC ls st w r w' ho => ?_⟩
  · unfold jo_zret at ho
    split at ho
    · split at ho
      · cases ho
      · cases ho
    · cases ho
  · unfold jo_zret at ho
    split at ho
    · split at ho
      · rename_i hn
        cases ho
        refine ⟨rfl, fun as H locs la hZ hE hL => ?_⟩
        exact W.zret hC.1 hC.2.1 (hC.2.2.2.2.2.1.trans hr) hn (fun t ht hW => ⟨⟨as, hE, rfl, by rw [ht]; exact hZ.1, hZ.2.1, hZ.2.2.2⟩, hZ.2.2.1.F ht⟩) hZ.2.2.1.2.2 hd (hlocks := hC.2.2.2.2.2.2.1)
      · cases ho
    · cases ho
end OPS2

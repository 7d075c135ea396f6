section CALL2
variable {own : String} {cc : ByteArray} {nL : Nat} {ret : Option FieldType} {ini : Bool} {Ts : List Cond} {fr lo : Nat} {l : Launch} {pc : Nat}
theorem js_cvN {host : String} {ci i n na mL fr' lo' : Nat} {y : MethodName} {bytes : ByteArray} {rt : Option FieldType} {f : List Value → jw_W → Option jo_R} {C : String} {T : u_T} {N : Nat} (hK : jc_K l y bytes mL rt fr' lo' f) (hsub : ∀ w ∈ jw_tb, w ∈ Ts) (hcl : vwCl[ci]? = some (C, T, N)) (hd : decode cc pc = .ok (.invokevirtual i, 3)) (h1 : Cond.methodLinkNest own i y host ∈ lw_tbl) (h2 : Cond.instanceMethod y ∈ jw_tb) (h3 : Cond.selects C y y ∈ jw_tb) (h4 : Cond.initialized y.cls ∈ jw_tb) (h5 : Cond.code y bytes mL rt ∈ jw_tb)
    (hy : y.cls ≠ "java/lang/invoke/MethodHandle" ∧ y.cls ≠ "java/lang/invoke/VarHandle" ∧ (parseMethodDescriptor y.desc).map (fun d => d.parameters.length) = some n) (hna : na = n + 1) (hR : fr' + 1 ≤ fr ∧ 8 + (mL + 11) + lo' ≤ lo) : jc_B own cc nL ret ini Ts fr lo l pc (jo_cv ci na f (pc + 3)) := by
  refine ⟨fun D cs A as0 w0 p e R s m args below meth c Q hC hfr hlo ls st w pc' ls' st' w' ho => ?_, fun D cs A as0 w0 p e R s m args below meth c hC ls st w r w' ho => ?_⟩
  · unfold jo_cv at ho
    split at ho
    · rename_i k av hav
      split at ho
      · rename_i hk
        unfold jo_aft at ho
        split at ho
        · rename_i r w1 hf
          split at ho
          · rename_i hok
            cases ho
            refine ⟨hok.2.2.1, fun hc hs hG as H locs la hZ hE hL => ?_⟩
            have hlen : av.length = n := by
              have := congrArg List.length hav
              simp at this
              omega
            have b1 := hE.2.1
            have b2 := hE.2.2
            have b3 := hok.2.2.1
            refine jc_aft hC hZ hE hL (a := ((Value.ref k :: av).map (jw_rn as)).toArray) (va_runVN (As := av.map (jw_rn as)) (b := as k) ⟨hC.1, hC.2.1, hC.2.2.1, hC.2.2.2.1, hC.2.2.2.2.1⟩ (hK _ _ _ _ hf D cs as H.size) ⟨va_cnB n hC.2.2.2.2.1 (jw_goodIn hsub ?_) rfl rfl rfl (hC.2.2.2.2.2.2.2.2.2.1.1 _ h1 rfl) (hC.2.2.2.2.1 _ (hsub _ h4)) hy ⟨?_, ?_⟩, hC.2.2.2.2.1 _ (hsub _ h2), hC.2.2.2.2.1 _ (hsub _ h3)⟩ ⟨jw_blind, va_recv hC.2.2.2.2.2.2.2.2.1 hZ.1 hcl ((jw_at hk.2.1).trans (by rw [jw_ce_obj hk.2.2])), jw_pre hC hZ⟩ rfl (by rw [List.length_map]; exact hlen) hL.1 ?_ (lv_room (Nat.le_trans (jw_sum _) (by omega))) hd ⟨by omega, by omega⟩) hok hG
            · intro w9 hw9
              unfold jc_ws at hw9
              simp only [List.mem_cons] at hw9
              rcases hw9 with rfl | h <;> assumption
            · show fr' + 1 ≤ R.frames
              omega
            · show 8 + (mL + 11) + lo' ≤ R.locals
              omega
            · show st.map (jw_rn as) = _
              rw [jw_rev hav, List.map_cons, List.reverse_cons, List.append_assoc]
              rfl
          · cases ho
        · cases ho
      · cases ho
    · cases ho
  · unfold jo_cv at ho
    split at ho
    · split at ho
      · unfold jo_aft at ho
        split at ho
        · split at ho <;> cases ho
        · cases ho
      · cases ho
    · cases ho
theorem js_ci {i n na mL fr' lo' : Nat} {y : MethodName} {bytes : ByteArray} {f : List Value → jw_W → Option jo_R} (hK : jc_K l y bytes mL none fr' lo' f) (hsub : ∀ w ∈ jw_tb, w ∈ Ts) (hd : decode cc pc = .ok (.invokespecial i, 3)) (h1 : Cond.methodLink own i y ∈ jw_tb) (h2 : Cond.instanceMethod y ∈ jw_tb) (h3 : y.name = "<init>") (h4 : Cond.initialized y.cls ∈ jw_tb) (h5 : Cond.code y bytes mL none ∈ jw_tb)
    (hy : y.cls ≠ "java/lang/invoke/MethodHandle" ∧ y.cls ≠ "java/lang/invoke/VarHandle" ∧ (parseMethodDescriptor y.desc).map (fun d => d.parameters.length) = some n) (hna : na = n + 1) (hR : fr' + 1 ≤ fr ∧ 8 + (mL + 11) + lo' ≤ lo) : jc_B own cc nL ret ini Ts fr lo l pc (jo_ci na f (pc + 3)) := by
  refine ⟨fun D cs A as0 w0 p e R s m args below meth c Q hC hfr hlo ls st w pc' ls' st' w' ho => ?_, fun D cs A as0 w0 p e R s m args below meth c hC ls st w r w' ho => ?_⟩
  · unfold jo_ci at ho
    split at ho
    · rename_i k av hav
      split at ho
      · rename_i hk
        unfold jo_aft at ho
        split at ho
        · rename_i r w1 hf
          split at ho
          · rename_i hok
            cases ho
            refine ⟨hok.2.2.1, fun hc hs hG as H locs la hZ hE hL => ?_⟩
            have hlen : av.length = n := by
              have := congrArg List.length hav
              simp at this
              omega
            have b1 := hE.2.1
            have b2 := hE.2.2
            have b3 := hok.2.2.1
            refine jc_aft hC hZ hE hL (a := ((Value.ref k :: av).map (jw_rn as)).toArray) (va_runI (As := av.map (jw_rn as)) (b := as k) ⟨hC.1, hC.2.1, hC.2.2.1, hC.2.2.2.1, hC.2.2.2.2.1⟩ (hK _ _ _ _ hf D cs as H.size) (cwI n hC.2.2.2.2.1 (jw_goodIn hsub ?_) rfl rfl rfl (hC.2.2.2.2.1 _ (hsub _ h4)) (hC.2.2.2.2.1 _ (hsub _ h1)) (hC.2.2.2.2.1 _ (hsub _ h2)) h3 hy ⟨?_, ?_⟩) ⟨jw_blind, jw_pre hC hZ⟩ rfl (by rw [List.length_map]; exact hlen) hL.1 ?_ (lv_room (Nat.le_trans (jw_sum _) (by omega))) hd ⟨by omega, by omega⟩) hok hG
            · intro w9 hw9
              unfold jc_ws at hw9
              simp only [List.mem_cons] at hw9
              rcases hw9 with rfl | h <;> assumption
            · show fr' + 1 ≤ R.frames
              omega
            · show 8 + (mL + 11) + lo' ≤ R.locals
              omega
            · show st.map (jw_rn as) = _
              rw [jw_rev hav, List.map_cons, List.reverse_cons, List.append_assoc]
              rfl
          · cases ho
        · cases ho
      · cases ho
    · cases ho
  · unfold jo_ci at ho
    split at ho
    · split at ho
      · unfold jo_aft at ho
        split at ho
        · split at ho <;> cases ho
        · cases ho
      · cases ho
    · cases ho
theorem js_ciN {host : String} {i n na mL fr' lo' : Nat} {y : MethodName} {bytes : ByteArray} {f : List Value → jw_W → Option jo_R} (hK : jc_K l y bytes mL none fr' lo' f) (hsub : ∀ w ∈ jw_tb, w ∈ Ts) (hd : decode cc pc = .ok (.invokespecial i, 3)) (h1 : Cond.methodLinkNest own i y host ∈ lw_tbl) (h2 : Cond.instanceMethod y ∈ jw_tb) (h3 : y.name = "<init>") (h4 : Cond.initialized y.cls ∈ jw_tb) (h5 : Cond.code y bytes mL none ∈ jw_tb)
    (hy : y.cls ≠ "java/lang/invoke/MethodHandle" ∧ y.cls ≠ "java/lang/invoke/VarHandle" ∧ (parseMethodDescriptor y.desc).map (fun d => d.parameters.length) = some n) (hna : na = n + 1) (hR : fr' + 1 ≤ fr ∧ 8 + (mL + 11) + lo' ≤ lo) : jc_B own cc nL ret ini Ts fr lo l pc (jo_ci na f (pc + 3)) := by
  refine ⟨fun D cs A as0 w0 p e R s m args below meth c Q hC hfr hlo ls st w pc' ls' st' w' ho => ?_, fun D cs A as0 w0 p e R s m args below meth c hC ls st w r w' ho => ?_⟩
  · unfold jo_ci at ho
    split at ho
    · rename_i k av hav
      split at ho
      · rename_i hk
        unfold jo_aft at ho
        split at ho
        · rename_i r w1 hf
          split at ho
          · rename_i hok
            cases ho
            refine ⟨hok.2.2.1, fun hc hs hG as H locs la hZ hE hL => ?_⟩
            have hlen : av.length = n := by
              have := congrArg List.length hav
              simp at this
              omega
            have b1 := hE.2.1
            have b2 := hE.2.2
            have b3 := hok.2.2.1
            refine jc_aft hC hZ hE hL (a := ((Value.ref k :: av).map (jw_rn as)).toArray) (va_runIN (As := av.map (jw_rn as)) (b := as k) ⟨hC.1, hC.2.1, hC.2.2.1, hC.2.2.2.1, hC.2.2.2.2.1⟩ (hK _ _ _ _ hf D cs as H.size) ⟨va_cnB n hC.2.2.2.2.1 (jw_goodIn hsub ?_) rfl rfl rfl (hC.2.2.2.2.2.2.2.2.2.1.1 _ h1 rfl) (hC.2.2.2.2.1 _ (hsub _ h4)) hy ⟨?_, ?_⟩, h3, hC.2.2.2.2.1 _ (hsub _ h2)⟩ ⟨jw_blind, jw_pre hC hZ⟩ rfl (by rw [List.length_map]; exact hlen) hL.1 ?_ (lv_room (Nat.le_trans (jw_sum _) (by omega))) hd ⟨by omega, by omega⟩) hok hG
            · intro w9 hw9
              unfold jc_ws at hw9
              simp only [List.mem_cons] at hw9
              rcases hw9 with rfl | h <;> assumption
            · show fr' + 1 ≤ R.frames
              omega
            · show 8 + (mL + 11) + lo' ≤ R.locals
              omega
            · show st.map (jw_rn as) = _
              rw [jw_rev hav, List.map_cons, List.reverse_cons, List.append_assoc]
              rfl
          · cases ho
        · cases ho
      · cases ho
    · cases ho
  · unfold jo_ci at ho
    split at ho
    · split at ho
      · unfold jo_aft at ho
        split at ho
        · split at ho <;> cases ho
        · cases ho
      · cases ho
    · cases ho
theorem js_cs {i n na mL fr' lo' : Nat} {y : MethodName} {bytes : ByteArray} {rt : Option FieldType} {f : List Value → jw_W → Option jo_R} (hK : jc_K l y bytes mL rt fr' lo' f) (hsub : ∀ w ∈ jw_tb, w ∈ Ts) (hd : decode cc pc = .ok (.invokestatic i, 3)) (h1 : Cond.methodLink own i y ∈ jw_tb) (h2 : Cond.static y ∈ jw_tb) (h4 : Cond.initialized y.cls ∈ jw_tb) (h5 : Cond.code y bytes mL rt ∈ jw_tb)
    (hy : y.cls ≠ "java/lang/invoke/MethodHandle" ∧ y.cls ≠ "java/lang/invoke/VarHandle" ∧ (parseMethodDescriptor y.desc).map (fun d => d.parameters.length) = some n) (hna : na = n) (hR : fr' + 1 ≤ fr ∧ 8 + (mL + 11) + lo' ≤ lo) : jc_B own cc nL ret ini Ts fr lo l pc (jo_cs na f (pc + 3)) := by
  refine ⟨fun D cs A as0 w0 p e R s m args below meth c Q hC hfr hlo ls st w pc' ls' st' w' ho => ?_, fun D cs A as0 w0 p e R s m args below meth c hC ls st w r w' ho => ?_⟩
  · unfold jo_cs at ho
    split at ho
    · rename_i hk
      · unfold jo_aft at ho
        split at ho
        · rename_i r w1 hf
          split at ho
          · rename_i hok
            cases ho
            refine ⟨hok.2.2.1, fun hc hs hG as H locs la hZ hE hL => ?_⟩
            have hlen : ((st.take na).reverse).length = n := by
              simp
              omega
            have b1 := hE.2.1
            have b2 := hE.2.2
            have b3 := hok.2.2.1
            refine jc_aft hC hZ hE hL (a := (((st.take na).reverse).map (jw_rn as)).toArray) (va_runS (As := ((st.take na).reverse).map (jw_rn as)) ⟨hC.1, hC.2.1, hC.2.2.1, hC.2.2.2.1, hC.2.2.2.2.1⟩ (hK _ _ _ _ hf D cs as H.size) ⟨callB_of n hC.2.2.2.2.1 (jw_goodIn hsub ?_) rfl rfl rfl (hC.2.2.2.2.1 _ (hsub _ h4)) (hC.2.2.2.2.1 _ (hsub _ h1)) hy ⟨?_, ?_⟩, hC.2.2.2.2.1 _ (hsub _ h2)⟩ ⟨jw_blind, jw_pre hC hZ⟩ rfl (by rw [List.length_map]; exact hlen) hL.1 ?_ (lv_room (Nat.le_trans (jw_sum _) (by omega))) hd ⟨by omega, by omega⟩) hok hG
            · intro w9 hw9
              unfold jc_ws at hw9
              simp only [List.mem_cons] at hw9
              rcases hw9 with rfl | h <;> assumption
            · show fr' + 1 ≤ R.frames
              omega
            · show 8 + (mL + 11) + lo' ≤ R.locals
              omega
            · show st.map (jw_rn as) = _
              exact jw_rev rfl
          · cases ho
        · cases ho
    · cases ho
  · unfold jo_cs at ho
    split at ho
    · unfold jo_aft at ho
      split at ho
      · split at ho <;> cases ho
      · cases ho
    · cases ho
theorem js_csN {host : String} {i n na mL fr' lo' : Nat} {y : MethodName} {bytes : ByteArray} {rt : Option FieldType} {f : List Value → jw_W → Option jo_R} (hK : jc_K l y bytes mL rt fr' lo' f) (hsub : ∀ w ∈ jw_tb, w ∈ Ts) (hd : decode cc pc = .ok (.invokestatic i, 3)) (h1 : Cond.methodLinkNest own i y host ∈ lw_tbl) (h2 : Cond.static y ∈ jw_tb) (h4 : Cond.initialized y.cls ∈ jw_tb) (h5 : Cond.code y bytes mL rt ∈ jw_tb)
    (hy : y.cls ≠ "java/lang/invoke/MethodHandle" ∧ y.cls ≠ "java/lang/invoke/VarHandle" ∧ (parseMethodDescriptor y.desc).map (fun d => d.parameters.length) = some n) (hna : na = n) (hR : fr' + 1 ≤ fr ∧ 8 + (mL + 11) + lo' ≤ lo) : jc_B own cc nL ret ini Ts fr lo l pc (jo_cs na f (pc + 3)) := by
  refine ⟨fun D cs A as0 w0 p e R s m args below meth c Q hC hfr hlo ls st w pc' ls' st' w' ho => ?_, fun D cs A as0 w0 p e R s m args below meth c hC ls st w r w' ho => ?_⟩
  · unfold jo_cs at ho
    split at ho
    · rename_i hk
      · unfold jo_aft at ho
        split at ho
        · rename_i r w1 hf
          split at ho
          · rename_i hok
            cases ho
            refine ⟨hok.2.2.1, fun hc hs hG as H locs la hZ hE hL => ?_⟩
            have hlen : ((st.take na).reverse).length = n := by
              simp
              omega
            have b1 := hE.2.1
            have b2 := hE.2.2
            have b3 := hok.2.2.1
            refine jc_aft hC hZ hE hL (a := (((st.take na).reverse).map (jw_rn as)).toArray) (va_runSN (As := ((st.take na).reverse).map (jw_rn as)) ⟨hC.1, hC.2.1, hC.2.2.1, hC.2.2.2.1, hC.2.2.2.2.1⟩ (hK _ _ _ _ hf D cs as H.size) ⟨va_cnB n hC.2.2.2.2.1 (jw_goodIn hsub ?_) rfl rfl rfl (hC.2.2.2.2.2.2.2.2.2.1.1 _ h1 rfl) (hC.2.2.2.2.1 _ (hsub _ h4)) hy ⟨?_, ?_⟩, hC.2.2.2.2.1 _ (hsub _ h2), trivial⟩ ⟨jw_blind, jw_pre hC hZ⟩ rfl (by rw [List.length_map]; exact hlen) hL.1 ?_ (lv_room (Nat.le_trans (jw_sum _) (by omega))) hd ⟨by omega, by omega⟩) hok hG
            · intro w9 hw9
              unfold jc_ws at hw9
              simp only [List.mem_cons] at hw9
              rcases hw9 with rfl | h <;> assumption
            · show fr' + 1 ≤ R.frames
              omega
            · show 8 + (mL + 11) + lo' ≤ R.locals
              omega
            · show st.map (jw_rn as) = _
              exact jw_rev rfl
          · cases ho
        · cases ho
    · cases ho
  · unfold jo_cs at ho
    split at ho
    · unfold jo_aft at ho
      split at ho
      · split at ho <;> cases ho
      · cases ho
    · cases ho
end CALL2

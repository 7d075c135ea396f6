/-! ===== the law, row by row ===== -/
theorem je_sl {xs : Nat → Int32} {L pc n i : Nat} {ls st : List Value} {mem : jl_M} {lm : jl_L} (hp : pL xs L pc = jo_sl xs L n) (hi : i < L) (hL : L < 2 ^ 31) : jr_ev (pL xs L) pc ls (.int (nI i) :: .ref 1000 :: st) (jl_w mem lm) = jr_ev (pL xs L) n ls (.int (xs i) :: st) (jl_w mem lm) := jr_step (by
  rw [hp]
  have h1 : (jl_w mem lm).1.1 ≤ 1000 := by show jl_o.1.1 ≤ 1000; rw [jl_cnt]; omega
  have h2 : ¬ nI i < 0 := nI_pos (by omega)
  have h3 : (nI i).toNatClampNeg = i := nI_clamp (by omega)
  unfold jo_sl
  simp only [h3]
  rw [if_pos ⟨⟨trivial, h1⟩, h2, hi⟩])
theorem je_sn {xs : Nat → Int32} {L pc n : Nat} {ls st : List Value} {mem : jl_M} {lm : jl_L} (hp : pL xs L pc = jo_sn L n) : jr_ev (pL xs L) pc ls (.ref 1000 :: st) (jl_w mem lm) = jr_ev (pL xs L) n ls (.int (nI L) :: st) (jl_w mem lm) := jr_step (by
  rw [hp]
  have h1 : (jl_w mem lm).1.1 ≤ 1000 := by show jl_o.1.1 ≤ 1000; rw [jl_cnt]; omega
  unfold jo_sn
  simp only []
  rw [if_pos ⟨trivial, h1⟩])
set_option maxRecDepth 100000
section LR
variable {xs : Nat → Int32} {L : Nat} {st : List Value} {w : jw_W} {mem mem' : jl_M} {lm lm' : jl_L} {x y z : Int32}
theorem eL_18 : jr_ev (pL xs L) 18 [.ref 1000, .ref 0, .ref 62, .int x] st w = jr_ev (pL xs L) 19 [.ref 1000, .ref 0, .ref 62, .int x] (.int x :: st) w := je_ild rfl rfl
theorem eL_19 : jr_ev (pL xs L) 19 [.ref 1000, .ref 0, .ref 62, .int x] st w = jr_ev (pL xs L) 20 [.ref 1000, .ref 0, .ref 62, .int x] (.ref 1000 :: st) w := je_rld rfl rfl
theorem eL_20 {ls : List Value} : jr_ev (pL xs L) 20 ls (.ref 1000 :: st) (jl_w mem lm) = jr_ev (pL xs L) 21 ls (.int (nI L) :: st) (jl_w mem lm) := je_sn rfl
theorem eL_21 {ls : List Value} : jr_ev (pL xs L) 21 ls st w = jr_ev (pL xs L) 22 ls ((.int (nI 5)) :: st) w := je_k rfl
theorem eL_22 {ls : List Value} : jr_ev (pL xs L) 22 ls (.int y :: .int z :: st) w = jr_ev (pL xs L) 23 ls (.int (z - y) :: st) w := je_bin (f := fun x y => x - y) rfl
theorem eL_23 {ls : List Value} : jr_ev (pL xs L) 23 ls (.int y :: .int z :: st) w = if y < z then jr_ev (pL xs L) 773 ls st w else jr_ev (pL xs L) 26 ls st w := je_ic (c := fun x y => y < x) rfl
theorem eL_26 : jr_ev (pL xs L) 26 [.ref 1000, .ref 0, .ref 62, .int x] st w = jr_ev (pL xs L) 27 [.ref 1000, .ref 0, .ref 62, .int x] (.ref 1000 :: st) w := je_rld rfl rfl
theorem eL_27 : jr_ev (pL xs L) 27 [.ref 1000, .ref 0, .ref 62, .int x] st w = jr_ev (pL xs L) 28 [.ref 1000, .ref 0, .ref 62, .int x] (.int x :: st) w := je_ild rfl rfl
theorem eL_28 {ls : List Value} {i : Nat} (hi : i < L) (hL : L < 2 ^ 31) : jr_ev (pL xs L) 28 ls (.int (nI i) :: .ref 1000 :: st) (jl_w mem lm) = jr_ev (pL xs L) 29 ls (.int (xs i) :: st) (jl_w mem lm) := je_sl rfl hi hL
theorem eL_29 {ls : List Value} : jr_ev (pL xs L) 29 ls st w = jr_ev (pL xs L) 31 ls ((.int (nI 31)) :: st) w := je_k rfl
theorem eL_31 {ls : List Value} : jr_ev (pL xs L) 31 ls (.int y :: .int z :: st) w = jr_ev (pL xs L) 32 ls (.int (z &&& y) :: st) w := je_bin (f := fun x y => x &&& y) rfl
theorem eL_32 {ls : List Value} : jr_ev (pL xs L) 32 ls (.int z :: st) w = jr_ev (pL xs L) (if z.toInt < 0 then 767 else (([144, 167, 180, 193, 226, 249, 272, 305, 318, 351, 374, 387, 420, 453, 496, 549, 592, 605, 628, 651, 684, 707, 730, 753] : List Nat)[(z.toInt - 0).toNat]?).getD 767) ls st w := je_ts rfl
theorem eL_144 : jr_ev (pL xs L) 144 [.ref 1000, .ref 0, .ref 62, .int x] st w = jr_ev (pL xs L) 145 [.ref 1000, .ref 0, .ref 62, .int x] (.ref 0 :: st) w := je_rld rfl rfl
theorem eL_145 : jr_ev (pL xs L) 145 [.ref 1000, .ref 0, .ref 62, .int x] st w = jr_ev (pL xs L) 146 [.ref 1000, .ref 0, .ref 62, .int x] (.ref 1000 :: st) w := je_rld rfl rfl
theorem eL_146 : jr_ev (pL xs L) 146 [.ref 1000, .ref 0, .ref 62, .int x] st w = jr_ev (pL xs L) 147 [.ref 1000, .ref 0, .ref 62, .int x] (.int x :: st) w := je_ild rfl rfl
theorem eL_147 {ls : List Value} : jr_ev (pL xs L) 147 ls st w = jr_ev (pL xs L) 148 ls ((.int (nI 1)) :: st) w := je_k rfl
theorem eL_148 {ls : List Value} : jr_ev (pL xs L) 148 ls (.int y :: .int z :: st) w = jr_ev (pL xs L) 149 ls (.int (z + y) :: st) w := je_bin (f := fun x y => x + y) rfl
theorem eL_149 {ls : List Value} {i : Nat} (hi : i < L) (hL : L < 2 ^ 31) : jr_ev (pL xs L) 149 ls (.int (nI i) :: .ref 1000 :: st) (jl_w mem lm) = jr_ev (pL xs L) 150 ls (.int (xs i) :: st) (jl_w mem lm) := je_sl rfl hi hL
theorem eL_150 {ls : List Value} {a1 : Int32} {v : Int32} (h : xX4_type [.ref 0, .int a1] (jl_w mem lm) = some (some (.int v), jl_w mem' lm')) : jr_ev (pL xs L) 150 ls [.int a1, .ref 0] (jl_w mem lm) = jr_ev (pL xs L) 153 ls [.int v] (jl_w mem' lm') := je_cv (P := pL xs L) (pc := 150) (n := 153) (ci := 4) (na := 2) (st := [.int a1, .ref 0]) (st' := []) (av := [.int a1]) rfl (by decide) ⟨Nat.le_of_ble_eq_true rfl, rfl, rfl⟩ (Nat.le_of_ble_eq_true rfl) rfl h
theorem eL_153 : jr_ev (pL xs L) 153 [.ref 1000, .ref 0, .ref 62, .int x] st w = jr_ev (pL xs L) 154 [.ref 1000, .ref 0, .ref 62, .int x] (.ref 62 :: st) w := je_rld rfl rfl
theorem eL_154 : jr_ev (pL xs L) 154 [.ref 1000, .ref 0, .ref 62, .int x] st w = jr_ev (pL xs L) 155 [.ref 1000, .ref 0, .ref 62, .int x] (.ref 1000 :: st) w := je_rld rfl rfl
theorem eL_155 : jr_ev (pL xs L) 155 [.ref 1000, .ref 0, .ref 62, .int x] st w = jr_ev (pL xs L) 156 [.ref 1000, .ref 0, .ref 62, .int x] (.int x :: st) w := je_ild rfl rfl
theorem eL_156 {ls : List Value} : jr_ev (pL xs L) 156 ls st w = jr_ev (pL xs L) 157 ls ((.int (nI 1)) :: st) w := je_k rfl
theorem eL_157 {ls : List Value} : jr_ev (pL xs L) 157 ls (.int y :: .int z :: st) w = jr_ev (pL xs L) 158 ls (.int (z + y) :: st) w := je_bin (f := fun x y => x + y) rfl
theorem eL_158 {ls : List Value} {i : Nat} (hi : i < L) (hL : L < 2 ^ 31) : jr_ev (pL xs L) 158 ls (.int (nI i) :: .ref 1000 :: st) (jl_w mem lm) = jr_ev (pL xs L) 159 ls (.int (xs i) :: st) (jl_w mem lm) := je_sl rfl hi hL
theorem eL_159 {ls : List Value} {a1 : Int32} {v : Int32} (h : xX5_type [.ref 62, .int a1] (jl_w mem lm) = some (some (.int v), jl_w mem' lm')) : jr_ev (pL xs L) 159 ls [.int a1, .ref 62, .int y] (jl_w mem lm) = jr_ev (pL xs L) 162 ls [.int v, .int y] (jl_w mem' lm') := je_cv (P := pL xs L) (pc := 159) (n := 162) (ci := 5) (na := 2) (st := [.int a1, .ref 62, .int y]) (st' := [.int y]) (av := [.int a1]) rfl (by decide) ⟨Nat.le_of_ble_eq_true rfl, rfl, rfl⟩ (Nat.le_of_ble_eq_true rfl) rfl h
theorem eL_162 {ls : List Value} : jr_ev (pL xs L) 162 ls (.int y :: .int z :: st) w = if z = y then jr_ev (pL xs L) 767 ls st w else jr_ev (pL xs L) 165 ls st w := je_ic (c := fun x y => x = y) rfl
theorem eL_165 {ls : List Value} : jr_ev (pL xs L) 165 ls st w = jr_ev (pL xs L) 166 ls ((.int (nI 0)) :: st) w := je_k rfl
theorem eL_167 : jr_ev (pL xs L) 167 [.ref 1000, .ref 0, .ref 62, .int x] st w = jr_ev (pL xs L) 168 [.ref 1000, .ref 0, .ref 62, .int x] (.ref 0 :: st) w := je_rld rfl rfl
theorem eL_168 {ls : List Value} {v : Int32} (h : xX4_clear [.ref 0] (jl_w mem lm) = some (some (.int v), jl_w mem' lm')) : jr_ev (pL xs L) 168 ls [.ref 0] (jl_w mem lm) = jr_ev (pL xs L) 171 ls [.int v] (jl_w mem' lm') := je_cv (P := pL xs L) (pc := 168) (n := 171) (ci := 4) (na := 1) (st := [.ref 0]) (st' := []) (av := []) rfl (by decide) ⟨Nat.le_of_ble_eq_true rfl, rfl, rfl⟩ (Nat.le_of_ble_eq_true rfl) rfl h
theorem eL_171 : jr_ev (pL xs L) 171 [.ref 1000, .ref 0, .ref 62, .int x] st w = jr_ev (pL xs L) 172 [.ref 1000, .ref 0, .ref 62, .int x] (.ref 62 :: st) w := je_rld rfl rfl
theorem eL_172 {ls : List Value} {v : Int32} (h : xX5_clear [.ref 62] (jl_w mem lm) = some (some (.int v), jl_w mem' lm')) : jr_ev (pL xs L) 172 ls [.ref 62, .int y] (jl_w mem lm) = jr_ev (pL xs L) 175 ls [.int v, .int y] (jl_w mem' lm') := je_cv (P := pL xs L) (pc := 172) (n := 175) (ci := 5) (na := 1) (st := [.ref 62, .int y]) (st' := [.int y]) (av := []) rfl (by decide) ⟨Nat.le_of_ble_eq_true rfl, rfl, rfl⟩ (Nat.le_of_ble_eq_true rfl) rfl h
theorem eL_175 {ls : List Value} : jr_ev (pL xs L) 175 ls (.int y :: .int z :: st) w = if z = y then jr_ev (pL xs L) 767 ls st w else jr_ev (pL xs L) 178 ls st w := je_ic (c := fun x y => x = y) rfl
theorem eL_178 {ls : List Value} : jr_ev (pL xs L) 178 ls st w = jr_ev (pL xs L) 179 ls ((.int (nI 0)) :: st) w := je_k rfl
theorem eL_180 : jr_ev (pL xs L) 180 [.ref 1000, .ref 0, .ref 62, .int x] st w = jr_ev (pL xs L) 181 [.ref 1000, .ref 0, .ref 62, .int x] (.ref 0 :: st) w := je_rld rfl rfl
theorem eL_181 {ls : List Value} {v : Int32} (h : xX4_chime [.ref 0] (jl_w mem lm) = some (some (.int v), jl_w mem' lm')) : jr_ev (pL xs L) 181 ls [.ref 0] (jl_w mem lm) = jr_ev (pL xs L) 184 ls [.int v] (jl_w mem' lm') := je_cv (P := pL xs L) (pc := 181) (n := 184) (ci := 4) (na := 1) (st := [.ref 0]) (st' := []) (av := []) rfl (by decide) ⟨Nat.le_of_ble_eq_true rfl, rfl, rfl⟩ (Nat.le_of_ble_eq_true rfl) rfl h
theorem eL_184 : jr_ev (pL xs L) 184 [.ref 1000, .ref 0, .ref 62, .int x] st w = jr_ev (pL xs L) 185 [.ref 1000, .ref 0, .ref 62, .int x] (.ref 62 :: st) w := je_rld rfl rfl
theorem eL_185 {ls : List Value} {v : Int32} (h : xX5_chime [.ref 62] (jl_w mem lm) = some (some (.int v), jl_w mem' lm')) : jr_ev (pL xs L) 185 ls [.ref 62, .int y] (jl_w mem lm) = jr_ev (pL xs L) 188 ls [.int v, .int y] (jl_w mem' lm') := je_cv (P := pL xs L) (pc := 185) (n := 188) (ci := 5) (na := 1) (st := [.ref 62, .int y]) (st' := [.int y]) (av := []) rfl (by decide) ⟨Nat.le_of_ble_eq_true rfl, rfl, rfl⟩ (Nat.le_of_ble_eq_true rfl) rfl h
theorem eL_188 {ls : List Value} : jr_ev (pL xs L) 188 ls (.int y :: .int z :: st) w = if z = y then jr_ev (pL xs L) 767 ls st w else jr_ev (pL xs L) 191 ls st w := je_ic (c := fun x y => x = y) rfl
theorem eL_191 {ls : List Value} : jr_ev (pL xs L) 191 ls st w = jr_ev (pL xs L) 192 ls ((.int (nI 0)) :: st) w := je_k rfl
theorem eL_193 : jr_ev (pL xs L) 193 [.ref 1000, .ref 0, .ref 62, .int x] st w = jr_ev (pL xs L) 194 [.ref 1000, .ref 0, .ref 62, .int x] (.ref 0 :: st) w := je_rld rfl rfl
theorem eL_194 : jr_ev (pL xs L) 194 [.ref 1000, .ref 0, .ref 62, .int x] st w = jr_ev (pL xs L) 195 [.ref 1000, .ref 0, .ref 62, .int x] (.ref 1000 :: st) w := je_rld rfl rfl
theorem eL_195 : jr_ev (pL xs L) 195 [.ref 1000, .ref 0, .ref 62, .int x] st w = jr_ev (pL xs L) 196 [.ref 1000, .ref 0, .ref 62, .int x] (.int x :: st) w := je_ild rfl rfl
theorem eL_196 {ls : List Value} : jr_ev (pL xs L) 196 ls st w = jr_ev (pL xs L) 197 ls ((.int (nI 1)) :: st) w := je_k rfl
theorem eL_197 {ls : List Value} : jr_ev (pL xs L) 197 ls (.int y :: .int z :: st) w = jr_ev (pL xs L) 198 ls (.int (z + y) :: st) w := je_bin (f := fun x y => x + y) rfl
theorem eL_198 {ls : List Value} {i : Nat} (hi : i < L) (hL : L < 2 ^ 31) : jr_ev (pL xs L) 198 ls (.int (nI i) :: .ref 1000 :: st) (jl_w mem lm) = jr_ev (pL xs L) 199 ls (.int (xs i) :: st) (jl_w mem lm) := je_sl rfl hi hL
theorem eL_199 : jr_ev (pL xs L) 199 [.ref 1000, .ref 0, .ref 62, .int x] st w = jr_ev (pL xs L) 200 [.ref 1000, .ref 0, .ref 62, .int x] (.ref 1000 :: st) w := je_rld rfl rfl
theorem eL_200 : jr_ev (pL xs L) 200 [.ref 1000, .ref 0, .ref 62, .int x] st w = jr_ev (pL xs L) 201 [.ref 1000, .ref 0, .ref 62, .int x] (.int x :: st) w := je_ild rfl rfl
theorem eL_201 {ls : List Value} : jr_ev (pL xs L) 201 ls st w = jr_ev (pL xs L) 202 ls ((.int (nI 2)) :: st) w := je_k rfl
theorem eL_202 {ls : List Value} : jr_ev (pL xs L) 202 ls (.int y :: .int z :: st) w = jr_ev (pL xs L) 203 ls (.int (z + y) :: st) w := je_bin (f := fun x y => x + y) rfl
theorem eL_203 {ls : List Value} {i : Nat} (hi : i < L) (hL : L < 2 ^ 31) : jr_ev (pL xs L) 203 ls (.int (nI i) :: .ref 1000 :: st) (jl_w mem lm) = jr_ev (pL xs L) 204 ls (.int (xs i) :: st) (jl_w mem lm) := je_sl rfl hi hL
theorem eL_204 {ls : List Value} {a1 a2 : Int32} {v : Int32} (h : xX4_rod [.ref 0, .int a1, .int a2] (jl_w mem lm) = some (some (.int v), jl_w mem' lm')) : jr_ev (pL xs L) 204 ls [.int a2, .int a1, .ref 0] (jl_w mem lm) = jr_ev (pL xs L) 207 ls [.int v] (jl_w mem' lm') := je_cv (P := pL xs L) (pc := 204) (n := 207) (ci := 4) (na := 3) (st := [.int a2, .int a1, .ref 0]) (st' := []) (av := [.int a1, .int a2]) rfl (by decide) ⟨Nat.le_of_ble_eq_true rfl, rfl, rfl⟩ (Nat.le_of_ble_eq_true rfl) rfl h
theorem eL_207 : jr_ev (pL xs L) 207 [.ref 1000, .ref 0, .ref 62, .int x] st w = jr_ev (pL xs L) 208 [.ref 1000, .ref 0, .ref 62, .int x] (.ref 62 :: st) w := je_rld rfl rfl
theorem eL_208 : jr_ev (pL xs L) 208 [.ref 1000, .ref 0, .ref 62, .int x] st w = jr_ev (pL xs L) 209 [.ref 1000, .ref 0, .ref 62, .int x] (.ref 1000 :: st) w := je_rld rfl rfl
theorem eL_209 : jr_ev (pL xs L) 209 [.ref 1000, .ref 0, .ref 62, .int x] st w = jr_ev (pL xs L) 210 [.ref 1000, .ref 0, .ref 62, .int x] (.int x :: st) w := je_ild rfl rfl
theorem eL_210 {ls : List Value} : jr_ev (pL xs L) 210 ls st w = jr_ev (pL xs L) 211 ls ((.int (nI 1)) :: st) w := je_k rfl
theorem eL_211 {ls : List Value} : jr_ev (pL xs L) 211 ls (.int y :: .int z :: st) w = jr_ev (pL xs L) 212 ls (.int (z + y) :: st) w := je_bin (f := fun x y => x + y) rfl
theorem eL_212 {ls : List Value} {i : Nat} (hi : i < L) (hL : L < 2 ^ 31) : jr_ev (pL xs L) 212 ls (.int (nI i) :: .ref 1000 :: st) (jl_w mem lm) = jr_ev (pL xs L) 213 ls (.int (xs i) :: st) (jl_w mem lm) := je_sl rfl hi hL
theorem eL_213 : jr_ev (pL xs L) 213 [.ref 1000, .ref 0, .ref 62, .int x] st w = jr_ev (pL xs L) 214 [.ref 1000, .ref 0, .ref 62, .int x] (.ref 1000 :: st) w := je_rld rfl rfl
theorem eL_214 : jr_ev (pL xs L) 214 [.ref 1000, .ref 0, .ref 62, .int x] st w = jr_ev (pL xs L) 215 [.ref 1000, .ref 0, .ref 62, .int x] (.int x :: st) w := je_ild rfl rfl
theorem eL_215 {ls : List Value} : jr_ev (pL xs L) 215 ls st w = jr_ev (pL xs L) 216 ls ((.int (nI 2)) :: st) w := je_k rfl
theorem eL_216 {ls : List Value} : jr_ev (pL xs L) 216 ls (.int y :: .int z :: st) w = jr_ev (pL xs L) 217 ls (.int (z + y) :: st) w := je_bin (f := fun x y => x + y) rfl
theorem eL_217 {ls : List Value} {i : Nat} (hi : i < L) (hL : L < 2 ^ 31) : jr_ev (pL xs L) 217 ls (.int (nI i) :: .ref 1000 :: st) (jl_w mem lm) = jr_ev (pL xs L) 218 ls (.int (xs i) :: st) (jl_w mem lm) := je_sl rfl hi hL
theorem eL_218 {ls : List Value} {a1 a2 : Int32} {v : Int32} (h : xX5_rod [.ref 62, .int a1, .int a2] (jl_w mem lm) = some (some (.int v), jl_w mem' lm')) : jr_ev (pL xs L) 218 ls [.int a2, .int a1, .ref 62, .int y] (jl_w mem lm) = jr_ev (pL xs L) 221 ls [.int v, .int y] (jl_w mem' lm') := je_cv (P := pL xs L) (pc := 218) (n := 221) (ci := 5) (na := 3) (st := [.int a2, .int a1, .ref 62, .int y]) (st' := [.int y]) (av := [.int a1, .int a2]) rfl (by decide) ⟨Nat.le_of_ble_eq_true rfl, rfl, rfl⟩ (Nat.le_of_ble_eq_true rfl) rfl h
theorem eL_221 {ls : List Value} : jr_ev (pL xs L) 221 ls (.int y :: .int z :: st) w = if z = y then jr_ev (pL xs L) 767 ls st w else jr_ev (pL xs L) 224 ls st w := je_ic (c := fun x y => x = y) rfl
theorem eL_224 {ls : List Value} : jr_ev (pL xs L) 224 ls st w = jr_ev (pL xs L) 225 ls ((.int (nI 0)) :: st) w := je_k rfl
theorem eL_226 : jr_ev (pL xs L) 226 [.ref 1000, .ref 0, .ref 62, .int x] st w = jr_ev (pL xs L) 227 [.ref 1000, .ref 0, .ref 62, .int x] (.ref 0 :: st) w := je_rld rfl rfl
theorem eL_227 : jr_ev (pL xs L) 227 [.ref 1000, .ref 0, .ref 62, .int x] st w = jr_ev (pL xs L) 228 [.ref 1000, .ref 0, .ref 62, .int x] (.ref 1000 :: st) w := je_rld rfl rfl
theorem eL_228 : jr_ev (pL xs L) 228 [.ref 1000, .ref 0, .ref 62, .int x] st w = jr_ev (pL xs L) 229 [.ref 1000, .ref 0, .ref 62, .int x] (.int x :: st) w := je_ild rfl rfl
theorem eL_229 {ls : List Value} : jr_ev (pL xs L) 229 ls st w = jr_ev (pL xs L) 230 ls ((.int (nI 1)) :: st) w := je_k rfl
theorem eL_230 {ls : List Value} : jr_ev (pL xs L) 230 ls (.int y :: .int z :: st) w = jr_ev (pL xs L) 231 ls (.int (z + y) :: st) w := je_bin (f := fun x y => x + y) rfl
theorem eL_231 {ls : List Value} {i : Nat} (hi : i < L) (hL : L < 2 ^ 31) : jr_ev (pL xs L) 231 ls (.int (nI i) :: .ref 1000 :: st) (jl_w mem lm) = jr_ev (pL xs L) 232 ls (.int (xs i) :: st) (jl_w mem lm) := je_sl rfl hi hL
theorem eL_232 {ls : List Value} {a1 : Int32} {v : Int32} (h : xX4_side [.ref 0, .int a1] (jl_w mem lm) = some (some (.int v), jl_w mem' lm')) : jr_ev (pL xs L) 232 ls [.int a1, .ref 0] (jl_w mem lm) = jr_ev (pL xs L) 235 ls [.int v] (jl_w mem' lm') := je_cv (P := pL xs L) (pc := 232) (n := 235) (ci := 4) (na := 2) (st := [.int a1, .ref 0]) (st' := []) (av := [.int a1]) rfl (by decide) ⟨Nat.le_of_ble_eq_true rfl, rfl, rfl⟩ (Nat.le_of_ble_eq_true rfl) rfl h
theorem eL_235 : jr_ev (pL xs L) 235 [.ref 1000, .ref 0, .ref 62, .int x] st w = jr_ev (pL xs L) 236 [.ref 1000, .ref 0, .ref 62, .int x] (.ref 62 :: st) w := je_rld rfl rfl
theorem eL_236 : jr_ev (pL xs L) 236 [.ref 1000, .ref 0, .ref 62, .int x] st w = jr_ev (pL xs L) 237 [.ref 1000, .ref 0, .ref 62, .int x] (.ref 1000 :: st) w := je_rld rfl rfl
theorem eL_237 : jr_ev (pL xs L) 237 [.ref 1000, .ref 0, .ref 62, .int x] st w = jr_ev (pL xs L) 238 [.ref 1000, .ref 0, .ref 62, .int x] (.int x :: st) w := je_ild rfl rfl
theorem eL_238 {ls : List Value} : jr_ev (pL xs L) 238 ls st w = jr_ev (pL xs L) 239 ls ((.int (nI 1)) :: st) w := je_k rfl
theorem eL_239 {ls : List Value} : jr_ev (pL xs L) 239 ls (.int y :: .int z :: st) w = jr_ev (pL xs L) 240 ls (.int (z + y) :: st) w := je_bin (f := fun x y => x + y) rfl
theorem eL_240 {ls : List Value} {i : Nat} (hi : i < L) (hL : L < 2 ^ 31) : jr_ev (pL xs L) 240 ls (.int (nI i) :: .ref 1000 :: st) (jl_w mem lm) = jr_ev (pL xs L) 241 ls (.int (xs i) :: st) (jl_w mem lm) := je_sl rfl hi hL
theorem eL_241 {ls : List Value} {a1 : Int32} {v : Int32} (h : xX5_side [.ref 62, .int a1] (jl_w mem lm) = some (some (.int v), jl_w mem' lm')) : jr_ev (pL xs L) 241 ls [.int a1, .ref 62, .int y] (jl_w mem lm) = jr_ev (pL xs L) 244 ls [.int v, .int y] (jl_w mem' lm') := je_cv (P := pL xs L) (pc := 241) (n := 244) (ci := 5) (na := 2) (st := [.int a1, .ref 62, .int y]) (st' := [.int y]) (av := [.int a1]) rfl (by decide) ⟨Nat.le_of_ble_eq_true rfl, rfl, rfl⟩ (Nat.le_of_ble_eq_true rfl) rfl h
theorem eL_244 {ls : List Value} : jr_ev (pL xs L) 244 ls (.int y :: .int z :: st) w = if z = y then jr_ev (pL xs L) 767 ls st w else jr_ev (pL xs L) 247 ls st w := je_ic (c := fun x y => x = y) rfl
theorem eL_247 {ls : List Value} : jr_ev (pL xs L) 247 ls st w = jr_ev (pL xs L) 248 ls ((.int (nI 0)) :: st) w := je_k rfl
theorem eL_249 : jr_ev (pL xs L) 249 [.ref 1000, .ref 0, .ref 62, .int x] st w = jr_ev (pL xs L) 250 [.ref 1000, .ref 0, .ref 62, .int x] (.ref 0 :: st) w := je_rld rfl rfl
theorem eL_250 : jr_ev (pL xs L) 250 [.ref 1000, .ref 0, .ref 62, .int x] st w = jr_ev (pL xs L) 251 [.ref 1000, .ref 0, .ref 62, .int x] (.ref 1000 :: st) w := je_rld rfl rfl
theorem eL_251 : jr_ev (pL xs L) 251 [.ref 1000, .ref 0, .ref 62, .int x] st w = jr_ev (pL xs L) 252 [.ref 1000, .ref 0, .ref 62, .int x] (.int x :: st) w := je_ild rfl rfl
theorem eL_252 {ls : List Value} : jr_ev (pL xs L) 252 ls st w = jr_ev (pL xs L) 253 ls ((.int (nI 1)) :: st) w := je_k rfl
theorem eL_253 {ls : List Value} : jr_ev (pL xs L) 253 ls (.int y :: .int z :: st) w = jr_ev (pL xs L) 254 ls (.int (z + y) :: st) w := je_bin (f := fun x y => x + y) rfl
theorem eL_254 {ls : List Value} {i : Nat} (hi : i < L) (hL : L < 2 ^ 31) : jr_ev (pL xs L) 254 ls (.int (nI i) :: .ref 1000 :: st) (jl_w mem lm) = jr_ev (pL xs L) 255 ls (.int (xs i) :: st) (jl_w mem lm) := je_sl rfl hi hL
theorem eL_255 {ls : List Value} {a1 : Int32} {v : Int32} (h : xX4_now [.ref 0, .int a1] (jl_w mem lm) = some (some (.int v), jl_w mem' lm')) : jr_ev (pL xs L) 255 ls [.int a1, .ref 0] (jl_w mem lm) = jr_ev (pL xs L) 258 ls [.int v] (jl_w mem' lm') := je_cv (P := pL xs L) (pc := 255) (n := 258) (ci := 4) (na := 2) (st := [.int a1, .ref 0]) (st' := []) (av := [.int a1]) rfl (by decide) ⟨Nat.le_of_ble_eq_true rfl, rfl, rfl⟩ (Nat.le_of_ble_eq_true rfl) rfl h
theorem eL_258 : jr_ev (pL xs L) 258 [.ref 1000, .ref 0, .ref 62, .int x] st w = jr_ev (pL xs L) 259 [.ref 1000, .ref 0, .ref 62, .int x] (.ref 62 :: st) w := je_rld rfl rfl
theorem eL_259 : jr_ev (pL xs L) 259 [.ref 1000, .ref 0, .ref 62, .int x] st w = jr_ev (pL xs L) 260 [.ref 1000, .ref 0, .ref 62, .int x] (.ref 1000 :: st) w := je_rld rfl rfl
theorem eL_260 : jr_ev (pL xs L) 260 [.ref 1000, .ref 0, .ref 62, .int x] st w = jr_ev (pL xs L) 261 [.ref 1000, .ref 0, .ref 62, .int x] (.int x :: st) w := je_ild rfl rfl
theorem eL_261 {ls : List Value} : jr_ev (pL xs L) 261 ls st w = jr_ev (pL xs L) 262 ls ((.int (nI 1)) :: st) w := je_k rfl
theorem eL_262 {ls : List Value} : jr_ev (pL xs L) 262 ls (.int y :: .int z :: st) w = jr_ev (pL xs L) 263 ls (.int (z + y) :: st) w := je_bin (f := fun x y => x + y) rfl
theorem eL_263 {ls : List Value} {i : Nat} (hi : i < L) (hL : L < 2 ^ 31) : jr_ev (pL xs L) 263 ls (.int (nI i) :: .ref 1000 :: st) (jl_w mem lm) = jr_ev (pL xs L) 264 ls (.int (xs i) :: st) (jl_w mem lm) := je_sl rfl hi hL
theorem eL_264 {ls : List Value} {a1 : Int32} {v : Int32} (h : xX5_now [.ref 62, .int a1] (jl_w mem lm) = some (some (.int v), jl_w mem' lm')) : jr_ev (pL xs L) 264 ls [.int a1, .ref 62, .int y] (jl_w mem lm) = jr_ev (pL xs L) 267 ls [.int v, .int y] (jl_w mem' lm') := je_cv (P := pL xs L) (pc := 264) (n := 267) (ci := 5) (na := 2) (st := [.int a1, .ref 62, .int y]) (st' := [.int y]) (av := [.int a1]) rfl (by decide) ⟨Nat.le_of_ble_eq_true rfl, rfl, rfl⟩ (Nat.le_of_ble_eq_true rfl) rfl h
theorem eL_267 {ls : List Value} : jr_ev (pL xs L) 267 ls (.int y :: .int z :: st) w = if z = y then jr_ev (pL xs L) 767 ls st w else jr_ev (pL xs L) 270 ls st w := je_ic (c := fun x y => x = y) rfl
theorem eL_270 {ls : List Value} : jr_ev (pL xs L) 270 ls st w = jr_ev (pL xs L) 271 ls ((.int (nI 0)) :: st) w := je_k rfl
theorem eL_272 : jr_ev (pL xs L) 272 [.ref 1000, .ref 0, .ref 62, .int x] st w = jr_ev (pL xs L) 273 [.ref 1000, .ref 0, .ref 62, .int x] (.ref 0 :: st) w := je_rld rfl rfl
theorem eL_273 : jr_ev (pL xs L) 273 [.ref 1000, .ref 0, .ref 62, .int x] st w = jr_ev (pL xs L) 274 [.ref 1000, .ref 0, .ref 62, .int x] (.ref 1000 :: st) w := je_rld rfl rfl
theorem eL_274 : jr_ev (pL xs L) 274 [.ref 1000, .ref 0, .ref 62, .int x] st w = jr_ev (pL xs L) 275 [.ref 1000, .ref 0, .ref 62, .int x] (.int x :: st) w := je_ild rfl rfl
theorem eL_275 {ls : List Value} : jr_ev (pL xs L) 275 ls st w = jr_ev (pL xs L) 276 ls ((.int (nI 1)) :: st) w := je_k rfl
theorem eL_276 {ls : List Value} : jr_ev (pL xs L) 276 ls (.int y :: .int z :: st) w = jr_ev (pL xs L) 277 ls (.int (z + y) :: st) w := je_bin (f := fun x y => x + y) rfl
theorem eL_277 {ls : List Value} {i : Nat} (hi : i < L) (hL : L < 2 ^ 31) : jr_ev (pL xs L) 277 ls (.int (nI i) :: .ref 1000 :: st) (jl_w mem lm) = jr_ev (pL xs L) 278 ls (.int (xs i) :: st) (jl_w mem lm) := je_sl rfl hi hL
theorem eL_278 : jr_ev (pL xs L) 278 [.ref 1000, .ref 0, .ref 62, .int x] st w = jr_ev (pL xs L) 279 [.ref 1000, .ref 0, .ref 62, .int x] (.ref 1000 :: st) w := je_rld rfl rfl
theorem eL_279 : jr_ev (pL xs L) 279 [.ref 1000, .ref 0, .ref 62, .int x] st w = jr_ev (pL xs L) 280 [.ref 1000, .ref 0, .ref 62, .int x] (.int x :: st) w := je_ild rfl rfl
theorem eL_280 {ls : List Value} : jr_ev (pL xs L) 280 ls st w = jr_ev (pL xs L) 281 ls ((.int (nI 2)) :: st) w := je_k rfl
theorem eL_281 {ls : List Value} : jr_ev (pL xs L) 281 ls (.int y :: .int z :: st) w = jr_ev (pL xs L) 282 ls (.int (z + y) :: st) w := je_bin (f := fun x y => x + y) rfl
theorem eL_282 {ls : List Value} {i : Nat} (hi : i < L) (hL : L < 2 ^ 31) : jr_ev (pL xs L) 282 ls (.int (nI i) :: .ref 1000 :: st) (jl_w mem lm) = jr_ev (pL xs L) 283 ls (.int (xs i) :: st) (jl_w mem lm) := je_sl rfl hi hL
theorem eL_283 {ls : List Value} {a1 a2 : Int32} {v : Int32} (h : xX4_blows [.ref 0, .int a1, .int a2] (jl_w mem lm) = some (some (.int v), jl_w mem' lm')) : jr_ev (pL xs L) 283 ls [.int a2, .int a1, .ref 0] (jl_w mem lm) = jr_ev (pL xs L) 286 ls [.int v] (jl_w mem' lm') := je_cv (P := pL xs L) (pc := 283) (n := 286) (ci := 4) (na := 3) (st := [.int a2, .int a1, .ref 0]) (st' := []) (av := [.int a1, .int a2]) rfl (by decide) ⟨Nat.le_of_ble_eq_true rfl, rfl, rfl⟩ (Nat.le_of_ble_eq_true rfl) rfl h
theorem eL_286 : jr_ev (pL xs L) 286 [.ref 1000, .ref 0, .ref 62, .int x] st w = jr_ev (pL xs L) 287 [.ref 1000, .ref 0, .ref 62, .int x] (.ref 62 :: st) w := je_rld rfl rfl
theorem eL_287 : jr_ev (pL xs L) 287 [.ref 1000, .ref 0, .ref 62, .int x] st w = jr_ev (pL xs L) 288 [.ref 1000, .ref 0, .ref 62, .int x] (.ref 1000 :: st) w := je_rld rfl rfl
theorem eL_288 : jr_ev (pL xs L) 288 [.ref 1000, .ref 0, .ref 62, .int x] st w = jr_ev (pL xs L) 289 [.ref 1000, .ref 0, .ref 62, .int x] (.int x :: st) w := je_ild rfl rfl
theorem eL_289 {ls : List Value} : jr_ev (pL xs L) 289 ls st w = jr_ev (pL xs L) 290 ls ((.int (nI 1)) :: st) w := je_k rfl
theorem eL_290 {ls : List Value} : jr_ev (pL xs L) 290 ls (.int y :: .int z :: st) w = jr_ev (pL xs L) 291 ls (.int (z + y) :: st) w := je_bin (f := fun x y => x + y) rfl
theorem eL_291 {ls : List Value} {i : Nat} (hi : i < L) (hL : L < 2 ^ 31) : jr_ev (pL xs L) 291 ls (.int (nI i) :: .ref 1000 :: st) (jl_w mem lm) = jr_ev (pL xs L) 292 ls (.int (xs i) :: st) (jl_w mem lm) := je_sl rfl hi hL
theorem eL_292 : jr_ev (pL xs L) 292 [.ref 1000, .ref 0, .ref 62, .int x] st w = jr_ev (pL xs L) 293 [.ref 1000, .ref 0, .ref 62, .int x] (.ref 1000 :: st) w := je_rld rfl rfl
theorem eL_293 : jr_ev (pL xs L) 293 [.ref 1000, .ref 0, .ref 62, .int x] st w = jr_ev (pL xs L) 294 [.ref 1000, .ref 0, .ref 62, .int x] (.int x :: st) w := je_ild rfl rfl
theorem eL_294 {ls : List Value} : jr_ev (pL xs L) 294 ls st w = jr_ev (pL xs L) 295 ls ((.int (nI 2)) :: st) w := je_k rfl
theorem eL_295 {ls : List Value} : jr_ev (pL xs L) 295 ls (.int y :: .int z :: st) w = jr_ev (pL xs L) 296 ls (.int (z + y) :: st) w := je_bin (f := fun x y => x + y) rfl
theorem eL_296 {ls : List Value} {i : Nat} (hi : i < L) (hL : L < 2 ^ 31) : jr_ev (pL xs L) 296 ls (.int (nI i) :: .ref 1000 :: st) (jl_w mem lm) = jr_ev (pL xs L) 297 ls (.int (xs i) :: st) (jl_w mem lm) := je_sl rfl hi hL
theorem eL_297 {ls : List Value} {a1 a2 : Int32} {v : Int32} (h : xX5_blows [.ref 62, .int a1, .int a2] (jl_w mem lm) = some (some (.int v), jl_w mem' lm')) : jr_ev (pL xs L) 297 ls [.int a2, .int a1, .ref 62, .int y] (jl_w mem lm) = jr_ev (pL xs L) 300 ls [.int v, .int y] (jl_w mem' lm') := je_cv (P := pL xs L) (pc := 297) (n := 300) (ci := 5) (na := 3) (st := [.int a2, .int a1, .ref 62, .int y]) (st' := [.int y]) (av := [.int a1, .int a2]) rfl (by decide) ⟨Nat.le_of_ble_eq_true rfl, rfl, rfl⟩ (Nat.le_of_ble_eq_true rfl) rfl h
theorem eL_300 {ls : List Value} : jr_ev (pL xs L) 300 ls (.int y :: .int z :: st) w = if z = y then jr_ev (pL xs L) 767 ls st w else jr_ev (pL xs L) 303 ls st w := je_ic (c := fun x y => x = y) rfl
theorem eL_303 {ls : List Value} : jr_ev (pL xs L) 303 ls st w = jr_ev (pL xs L) 304 ls ((.int (nI 0)) :: st) w := je_k rfl
theorem eL_305 : jr_ev (pL xs L) 305 [.ref 1000, .ref 0, .ref 62, .int x] st w = jr_ev (pL xs L) 306 [.ref 1000, .ref 0, .ref 62, .int x] (.ref 0 :: st) w := je_rld rfl rfl
theorem eL_306 {ls : List Value} {v : Int32} (h : xX4_calms [.ref 0] (jl_w mem lm) = some (some (.int v), jl_w mem' lm')) : jr_ev (pL xs L) 306 ls [.ref 0] (jl_w mem lm) = jr_ev (pL xs L) 309 ls [.int v] (jl_w mem' lm') := je_cv (P := pL xs L) (pc := 306) (n := 309) (ci := 4) (na := 1) (st := [.ref 0]) (st' := []) (av := []) rfl (by decide) ⟨Nat.le_of_ble_eq_true rfl, rfl, rfl⟩ (Nat.le_of_ble_eq_true rfl) rfl h
theorem eL_309 : jr_ev (pL xs L) 309 [.ref 1000, .ref 0, .ref 62, .int x] st w = jr_ev (pL xs L) 310 [.ref 1000, .ref 0, .ref 62, .int x] (.ref 62 :: st) w := je_rld rfl rfl
theorem eL_310 {ls : List Value} {v : Int32} (h : xX5_calms [.ref 62] (jl_w mem lm) = some (some (.int v), jl_w mem' lm')) : jr_ev (pL xs L) 310 ls [.ref 62, .int y] (jl_w mem lm) = jr_ev (pL xs L) 313 ls [.int v, .int y] (jl_w mem' lm') := je_cv (P := pL xs L) (pc := 310) (n := 313) (ci := 5) (na := 1) (st := [.ref 62, .int y]) (st' := [.int y]) (av := []) rfl (by decide) ⟨Nat.le_of_ble_eq_true rfl, rfl, rfl⟩ (Nat.le_of_ble_eq_true rfl) rfl h
theorem eL_313 {ls : List Value} : jr_ev (pL xs L) 313 ls (.int y :: .int z :: st) w = if z = y then jr_ev (pL xs L) 767 ls st w else jr_ev (pL xs L) 316 ls st w := je_ic (c := fun x y => x = y) rfl
theorem eL_316 {ls : List Value} : jr_ev (pL xs L) 316 ls st w = jr_ev (pL xs L) 317 ls ((.int (nI 0)) :: st) w := je_k rfl
theorem eL_318 : jr_ev (pL xs L) 318 [.ref 1000, .ref 0, .ref 62, .int x] st w = jr_ev (pL xs L) 319 [.ref 1000, .ref 0, .ref 62, .int x] (.ref 0 :: st) w := je_rld rfl rfl
theorem eL_319 : jr_ev (pL xs L) 319 [.ref 1000, .ref 0, .ref 62, .int x] st w = jr_ev (pL xs L) 320 [.ref 1000, .ref 0, .ref 62, .int x] (.ref 1000 :: st) w := je_rld rfl rfl
theorem eL_320 : jr_ev (pL xs L) 320 [.ref 1000, .ref 0, .ref 62, .int x] st w = jr_ev (pL xs L) 321 [.ref 1000, .ref 0, .ref 62, .int x] (.int x :: st) w := je_ild rfl rfl
theorem eL_321 {ls : List Value} : jr_ev (pL xs L) 321 ls st w = jr_ev (pL xs L) 322 ls ((.int (nI 1)) :: st) w := je_k rfl
theorem eL_322 {ls : List Value} : jr_ev (pL xs L) 322 ls (.int y :: .int z :: st) w = jr_ev (pL xs L) 323 ls (.int (z + y) :: st) w := je_bin (f := fun x y => x + y) rfl
theorem eL_323 {ls : List Value} {i : Nat} (hi : i < L) (hL : L < 2 ^ 31) : jr_ev (pL xs L) 323 ls (.int (nI i) :: .ref 1000 :: st) (jl_w mem lm) = jr_ev (pL xs L) 324 ls (.int (xs i) :: st) (jl_w mem lm) := je_sl rfl hi hL
theorem eL_324 : jr_ev (pL xs L) 324 [.ref 1000, .ref 0, .ref 62, .int x] st w = jr_ev (pL xs L) 325 [.ref 1000, .ref 0, .ref 62, .int x] (.ref 1000 :: st) w := je_rld rfl rfl
theorem eL_325 : jr_ev (pL xs L) 325 [.ref 1000, .ref 0, .ref 62, .int x] st w = jr_ev (pL xs L) 326 [.ref 1000, .ref 0, .ref 62, .int x] (.int x :: st) w := je_ild rfl rfl
theorem eL_326 {ls : List Value} : jr_ev (pL xs L) 326 ls st w = jr_ev (pL xs L) 327 ls ((.int (nI 2)) :: st) w := je_k rfl
theorem eL_327 {ls : List Value} : jr_ev (pL xs L) 327 ls (.int y :: .int z :: st) w = jr_ev (pL xs L) 328 ls (.int (z + y) :: st) w := je_bin (f := fun x y => x + y) rfl
theorem eL_328 {ls : List Value} {i : Nat} (hi : i < L) (hL : L < 2 ^ 31) : jr_ev (pL xs L) 328 ls (.int (nI i) :: .ref 1000 :: st) (jl_w mem lm) = jr_ev (pL xs L) 329 ls (.int (xs i) :: st) (jl_w mem lm) := je_sl rfl hi hL
theorem eL_329 {ls : List Value} {a1 a2 : Int32} {v : Int32} (h : xX4_changes [.ref 0, .int a1, .int a2] (jl_w mem lm) = some (some (.int v), jl_w mem' lm')) : jr_ev (pL xs L) 329 ls [.int a2, .int a1, .ref 0] (jl_w mem lm) = jr_ev (pL xs L) 332 ls [.int v] (jl_w mem' lm') := je_cv (P := pL xs L) (pc := 329) (n := 332) (ci := 4) (na := 3) (st := [.int a2, .int a1, .ref 0]) (st' := []) (av := [.int a1, .int a2]) rfl (by decide) ⟨Nat.le_of_ble_eq_true rfl, rfl, rfl⟩ (Nat.le_of_ble_eq_true rfl) rfl h
theorem eL_332 : jr_ev (pL xs L) 332 [.ref 1000, .ref 0, .ref 62, .int x] st w = jr_ev (pL xs L) 333 [.ref 1000, .ref 0, .ref 62, .int x] (.ref 62 :: st) w := je_rld rfl rfl
theorem eL_333 : jr_ev (pL xs L) 333 [.ref 1000, .ref 0, .ref 62, .int x] st w = jr_ev (pL xs L) 334 [.ref 1000, .ref 0, .ref 62, .int x] (.ref 1000 :: st) w := je_rld rfl rfl
theorem eL_334 : jr_ev (pL xs L) 334 [.ref 1000, .ref 0, .ref 62, .int x] st w = jr_ev (pL xs L) 335 [.ref 1000, .ref 0, .ref 62, .int x] (.int x :: st) w := je_ild rfl rfl
theorem eL_335 {ls : List Value} : jr_ev (pL xs L) 335 ls st w = jr_ev (pL xs L) 336 ls ((.int (nI 1)) :: st) w := je_k rfl
theorem eL_336 {ls : List Value} : jr_ev (pL xs L) 336 ls (.int y :: .int z :: st) w = jr_ev (pL xs L) 337 ls (.int (z + y) :: st) w := je_bin (f := fun x y => x + y) rfl
theorem eL_337 {ls : List Value} {i : Nat} (hi : i < L) (hL : L < 2 ^ 31) : jr_ev (pL xs L) 337 ls (.int (nI i) :: .ref 1000 :: st) (jl_w mem lm) = jr_ev (pL xs L) 338 ls (.int (xs i) :: st) (jl_w mem lm) := je_sl rfl hi hL
theorem eL_338 : jr_ev (pL xs L) 338 [.ref 1000, .ref 0, .ref 62, .int x] st w = jr_ev (pL xs L) 339 [.ref 1000, .ref 0, .ref 62, .int x] (.ref 1000 :: st) w := je_rld rfl rfl
theorem eL_339 : jr_ev (pL xs L) 339 [.ref 1000, .ref 0, .ref 62, .int x] st w = jr_ev (pL xs L) 340 [.ref 1000, .ref 0, .ref 62, .int x] (.int x :: st) w := je_ild rfl rfl
theorem eL_340 {ls : List Value} : jr_ev (pL xs L) 340 ls st w = jr_ev (pL xs L) 341 ls ((.int (nI 2)) :: st) w := je_k rfl
theorem eL_341 {ls : List Value} : jr_ev (pL xs L) 341 ls (.int y :: .int z :: st) w = jr_ev (pL xs L) 342 ls (.int (z + y) :: st) w := je_bin (f := fun x y => x + y) rfl
theorem eL_342 {ls : List Value} {i : Nat} (hi : i < L) (hL : L < 2 ^ 31) : jr_ev (pL xs L) 342 ls (.int (nI i) :: .ref 1000 :: st) (jl_w mem lm) = jr_ev (pL xs L) 343 ls (.int (xs i) :: st) (jl_w mem lm) := je_sl rfl hi hL
theorem eL_343 {ls : List Value} {a1 a2 : Int32} {v : Int32} (h : xX5_changes [.ref 62, .int a1, .int a2] (jl_w mem lm) = some (some (.int v), jl_w mem' lm')) : jr_ev (pL xs L) 343 ls [.int a2, .int a1, .ref 62, .int y] (jl_w mem lm) = jr_ev (pL xs L) 346 ls [.int v, .int y] (jl_w mem' lm') := je_cv (P := pL xs L) (pc := 343) (n := 346) (ci := 5) (na := 3) (st := [.int a2, .int a1, .ref 62, .int y]) (st' := [.int y]) (av := [.int a1, .int a2]) rfl (by decide) ⟨Nat.le_of_ble_eq_true rfl, rfl, rfl⟩ (Nat.le_of_ble_eq_true rfl) rfl h
theorem eL_346 {ls : List Value} : jr_ev (pL xs L) 346 ls (.int y :: .int z :: st) w = if z = y then jr_ev (pL xs L) 767 ls st w else jr_ev (pL xs L) 349 ls st w := je_ic (c := fun x y => x = y) rfl
theorem eL_349 {ls : List Value} : jr_ev (pL xs L) 349 ls st w = jr_ev (pL xs L) 350 ls ((.int (nI 0)) :: st) w := je_k rfl
theorem eL_351 : jr_ev (pL xs L) 351 [.ref 1000, .ref 0, .ref 62, .int x] st w = jr_ev (pL xs L) 352 [.ref 1000, .ref 0, .ref 62, .int x] (.ref 0 :: st) w := je_rld rfl rfl
theorem eL_352 : jr_ev (pL xs L) 352 [.ref 1000, .ref 0, .ref 62, .int x] st w = jr_ev (pL xs L) 353 [.ref 1000, .ref 0, .ref 62, .int x] (.ref 1000 :: st) w := je_rld rfl rfl
theorem eL_353 : jr_ev (pL xs L) 353 [.ref 1000, .ref 0, .ref 62, .int x] st w = jr_ev (pL xs L) 354 [.ref 1000, .ref 0, .ref 62, .int x] (.int x :: st) w := je_ild rfl rfl
theorem eL_354 {ls : List Value} : jr_ev (pL xs L) 354 ls st w = jr_ev (pL xs L) 355 ls ((.int (nI 1)) :: st) w := je_k rfl
theorem eL_355 {ls : List Value} : jr_ev (pL xs L) 355 ls (.int y :: .int z :: st) w = jr_ev (pL xs L) 356 ls (.int (z + y) :: st) w := je_bin (f := fun x y => x + y) rfl
theorem eL_356 {ls : List Value} {i : Nat} (hi : i < L) (hL : L < 2 ^ 31) : jr_ev (pL xs L) 356 ls (.int (nI i) :: .ref 1000 :: st) (jl_w mem lm) = jr_ev (pL xs L) 357 ls (.int (xs i) :: st) (jl_w mem lm) := je_sl rfl hi hL
theorem eL_357 {ls : List Value} {a1 : Int32} {v : Int32} (h : xX4_holds [.ref 0, .int a1] (jl_w mem lm) = some (some (.int v), jl_w mem' lm')) : jr_ev (pL xs L) 357 ls [.int a1, .ref 0] (jl_w mem lm) = jr_ev (pL xs L) 360 ls [.int v] (jl_w mem' lm') := je_cv (P := pL xs L) (pc := 357) (n := 360) (ci := 4) (na := 2) (st := [.int a1, .ref 0]) (st' := []) (av := [.int a1]) rfl (by decide) ⟨Nat.le_of_ble_eq_true rfl, rfl, rfl⟩ (Nat.le_of_ble_eq_true rfl) rfl h
theorem eL_360 : jr_ev (pL xs L) 360 [.ref 1000, .ref 0, .ref 62, .int x] st w = jr_ev (pL xs L) 361 [.ref 1000, .ref 0, .ref 62, .int x] (.ref 62 :: st) w := je_rld rfl rfl
theorem eL_361 : jr_ev (pL xs L) 361 [.ref 1000, .ref 0, .ref 62, .int x] st w = jr_ev (pL xs L) 362 [.ref 1000, .ref 0, .ref 62, .int x] (.ref 1000 :: st) w := je_rld rfl rfl
theorem eL_362 : jr_ev (pL xs L) 362 [.ref 1000, .ref 0, .ref 62, .int x] st w = jr_ev (pL xs L) 363 [.ref 1000, .ref 0, .ref 62, .int x] (.int x :: st) w := je_ild rfl rfl
theorem eL_363 {ls : List Value} : jr_ev (pL xs L) 363 ls st w = jr_ev (pL xs L) 364 ls ((.int (nI 1)) :: st) w := je_k rfl
theorem eL_364 {ls : List Value} : jr_ev (pL xs L) 364 ls (.int y :: .int z :: st) w = jr_ev (pL xs L) 365 ls (.int (z + y) :: st) w := je_bin (f := fun x y => x + y) rfl
theorem eL_365 {ls : List Value} {i : Nat} (hi : i < L) (hL : L < 2 ^ 31) : jr_ev (pL xs L) 365 ls (.int (nI i) :: .ref 1000 :: st) (jl_w mem lm) = jr_ev (pL xs L) 366 ls (.int (xs i) :: st) (jl_w mem lm) := je_sl rfl hi hL
theorem eL_366 {ls : List Value} {a1 : Int32} {v : Int32} (h : xX5_holds [.ref 62, .int a1] (jl_w mem lm) = some (some (.int v), jl_w mem' lm')) : jr_ev (pL xs L) 366 ls [.int a1, .ref 62, .int y] (jl_w mem lm) = jr_ev (pL xs L) 369 ls [.int v, .int y] (jl_w mem' lm') := je_cv (P := pL xs L) (pc := 366) (n := 369) (ci := 5) (na := 2) (st := [.int a1, .ref 62, .int y]) (st' := [.int y]) (av := [.int a1]) rfl (by decide) ⟨Nat.le_of_ble_eq_true rfl, rfl, rfl⟩ (Nat.le_of_ble_eq_true rfl) rfl h
theorem eL_369 {ls : List Value} : jr_ev (pL xs L) 369 ls (.int y :: .int z :: st) w = if z = y then jr_ev (pL xs L) 767 ls st w else jr_ev (pL xs L) 372 ls st w := je_ic (c := fun x y => x = y) rfl
theorem eL_372 {ls : List Value} : jr_ev (pL xs L) 372 ls st w = jr_ev (pL xs L) 373 ls ((.int (nI 0)) :: st) w := je_k rfl
theorem eL_374 : jr_ev (pL xs L) 374 [.ref 1000, .ref 0, .ref 62, .int x] st w = jr_ev (pL xs L) 375 [.ref 1000, .ref 0, .ref 62, .int x] (.ref 0 :: st) w := je_rld rfl rfl
theorem eL_375 {ls : List Value} {v : Int32} (h : xX4_undo [.ref 0] (jl_w mem lm) = some (some (.int v), jl_w mem' lm')) : jr_ev (pL xs L) 375 ls [.ref 0] (jl_w mem lm) = jr_ev (pL xs L) 378 ls [.int v] (jl_w mem' lm') := je_cv (P := pL xs L) (pc := 375) (n := 378) (ci := 4) (na := 1) (st := [.ref 0]) (st' := []) (av := []) rfl (by decide) ⟨Nat.le_of_ble_eq_true rfl, rfl, rfl⟩ (Nat.le_of_ble_eq_true rfl) rfl h
theorem eL_378 : jr_ev (pL xs L) 378 [.ref 1000, .ref 0, .ref 62, .int x] st w = jr_ev (pL xs L) 379 [.ref 1000, .ref 0, .ref 62, .int x] (.ref 62 :: st) w := je_rld rfl rfl
theorem eL_379 {ls : List Value} {v : Int32} (h : xX5_undo [.ref 62] (jl_w mem lm) = some (some (.int v), jl_w mem' lm')) : jr_ev (pL xs L) 379 ls [.ref 62, .int y] (jl_w mem lm) = jr_ev (pL xs L) 382 ls [.int v, .int y] (jl_w mem' lm') := je_cv (P := pL xs L) (pc := 379) (n := 382) (ci := 5) (na := 1) (st := [.ref 62, .int y]) (st' := [.int y]) (av := []) rfl (by decide) ⟨Nat.le_of_ble_eq_true rfl, rfl, rfl⟩ (Nat.le_of_ble_eq_true rfl) rfl h
theorem eL_382 {ls : List Value} : jr_ev (pL xs L) 382 ls (.int y :: .int z :: st) w = if z = y then jr_ev (pL xs L) 767 ls st w else jr_ev (pL xs L) 385 ls st w := je_ic (c := fun x y => x = y) rfl
theorem eL_385 {ls : List Value} : jr_ev (pL xs L) 385 ls st w = jr_ev (pL xs L) 386 ls ((.int (nI 0)) :: st) w := je_k rfl
theorem eL_387 : jr_ev (pL xs L) 387 [.ref 1000, .ref 0, .ref 62, .int x] st w = jr_ev (pL xs L) 388 [.ref 1000, .ref 0, .ref 62, .int x] (.ref 0 :: st) w := je_rld rfl rfl
theorem eL_388 : jr_ev (pL xs L) 388 [.ref 1000, .ref 0, .ref 62, .int x] st w = jr_ev (pL xs L) 389 [.ref 1000, .ref 0, .ref 62, .int x] (.ref 1000 :: st) w := je_rld rfl rfl
theorem eL_389 : jr_ev (pL xs L) 389 [.ref 1000, .ref 0, .ref 62, .int x] st w = jr_ev (pL xs L) 390 [.ref 1000, .ref 0, .ref 62, .int x] (.int x :: st) w := je_ild rfl rfl
theorem eL_390 {ls : List Value} : jr_ev (pL xs L) 390 ls st w = jr_ev (pL xs L) 391 ls ((.int (nI 1)) :: st) w := je_k rfl
theorem eL_391 {ls : List Value} : jr_ev (pL xs L) 391 ls (.int y :: .int z :: st) w = jr_ev (pL xs L) 392 ls (.int (z + y) :: st) w := je_bin (f := fun x y => x + y) rfl
theorem eL_392 {ls : List Value} {i : Nat} (hi : i < L) (hL : L < 2 ^ 31) : jr_ev (pL xs L) 392 ls (.int (nI i) :: .ref 1000 :: st) (jl_w mem lm) = jr_ev (pL xs L) 393 ls (.int (xs i) :: st) (jl_w mem lm) := je_sl rfl hi hL
theorem eL_393 : jr_ev (pL xs L) 393 [.ref 1000, .ref 0, .ref 62, .int x] st w = jr_ev (pL xs L) 394 [.ref 1000, .ref 0, .ref 62, .int x] (.ref 1000 :: st) w := je_rld rfl rfl
theorem eL_394 : jr_ev (pL xs L) 394 [.ref 1000, .ref 0, .ref 62, .int x] st w = jr_ev (pL xs L) 395 [.ref 1000, .ref 0, .ref 62, .int x] (.int x :: st) w := je_ild rfl rfl
theorem eL_395 {ls : List Value} : jr_ev (pL xs L) 395 ls st w = jr_ev (pL xs L) 396 ls ((.int (nI 2)) :: st) w := je_k rfl
theorem eL_396 {ls : List Value} : jr_ev (pL xs L) 396 ls (.int y :: .int z :: st) w = jr_ev (pL xs L) 397 ls (.int (z + y) :: st) w := je_bin (f := fun x y => x + y) rfl
theorem eL_397 {ls : List Value} {i : Nat} (hi : i < L) (hL : L < 2 ^ 31) : jr_ev (pL xs L) 397 ls (.int (nI i) :: .ref 1000 :: st) (jl_w mem lm) = jr_ev (pL xs L) 398 ls (.int (xs i) :: st) (jl_w mem lm) := je_sl rfl hi hL
theorem eL_398 {ls : List Value} {a1 a2 : Int32} {v : Int32} (h : xX4_comes [.ref 0, .int a1, .int a2] (jl_w mem lm) = some (some (.int v), jl_w mem' lm')) : jr_ev (pL xs L) 398 ls [.int a2, .int a1, .ref 0] (jl_w mem lm) = jr_ev (pL xs L) 401 ls [.int v] (jl_w mem' lm') := je_cv (P := pL xs L) (pc := 398) (n := 401) (ci := 4) (na := 3) (st := [.int a2, .int a1, .ref 0]) (st' := []) (av := [.int a1, .int a2]) rfl (by decide) ⟨Nat.le_of_ble_eq_true rfl, rfl, rfl⟩ (Nat.le_of_ble_eq_true rfl) rfl h
theorem eL_401 : jr_ev (pL xs L) 401 [.ref 1000, .ref 0, .ref 62, .int x] st w = jr_ev (pL xs L) 402 [.ref 1000, .ref 0, .ref 62, .int x] (.ref 62 :: st) w := je_rld rfl rfl
theorem eL_402 : jr_ev (pL xs L) 402 [.ref 1000, .ref 0, .ref 62, .int x] st w = jr_ev (pL xs L) 403 [.ref 1000, .ref 0, .ref 62, .int x] (.ref 1000 :: st) w := je_rld rfl rfl
theorem eL_403 : jr_ev (pL xs L) 403 [.ref 1000, .ref 0, .ref 62, .int x] st w = jr_ev (pL xs L) 404 [.ref 1000, .ref 0, .ref 62, .int x] (.int x :: st) w := je_ild rfl rfl
theorem eL_404 {ls : List Value} : jr_ev (pL xs L) 404 ls st w = jr_ev (pL xs L) 405 ls ((.int (nI 1)) :: st) w := je_k rfl
theorem eL_405 {ls : List Value} : jr_ev (pL xs L) 405 ls (.int y :: .int z :: st) w = jr_ev (pL xs L) 406 ls (.int (z + y) :: st) w := je_bin (f := fun x y => x + y) rfl
theorem eL_406 {ls : List Value} {i : Nat} (hi : i < L) (hL : L < 2 ^ 31) : jr_ev (pL xs L) 406 ls (.int (nI i) :: .ref 1000 :: st) (jl_w mem lm) = jr_ev (pL xs L) 407 ls (.int (xs i) :: st) (jl_w mem lm) := je_sl rfl hi hL
theorem eL_407 : jr_ev (pL xs L) 407 [.ref 1000, .ref 0, .ref 62, .int x] st w = jr_ev (pL xs L) 408 [.ref 1000, .ref 0, .ref 62, .int x] (.ref 1000 :: st) w := je_rld rfl rfl
theorem eL_408 : jr_ev (pL xs L) 408 [.ref 1000, .ref 0, .ref 62, .int x] st w = jr_ev (pL xs L) 409 [.ref 1000, .ref 0, .ref 62, .int x] (.int x :: st) w := je_ild rfl rfl
theorem eL_409 {ls : List Value} : jr_ev (pL xs L) 409 ls st w = jr_ev (pL xs L) 410 ls ((.int (nI 2)) :: st) w := je_k rfl
theorem eL_410 {ls : List Value} : jr_ev (pL xs L) 410 ls (.int y :: .int z :: st) w = jr_ev (pL xs L) 411 ls (.int (z + y) :: st) w := je_bin (f := fun x y => x + y) rfl
theorem eL_411 {ls : List Value} {i : Nat} (hi : i < L) (hL : L < 2 ^ 31) : jr_ev (pL xs L) 411 ls (.int (nI i) :: .ref 1000 :: st) (jl_w mem lm) = jr_ev (pL xs L) 412 ls (.int (xs i) :: st) (jl_w mem lm) := je_sl rfl hi hL
theorem eL_412 {ls : List Value} {a1 a2 : Int32} {v : Int32} (h : xX5_comes [.ref 62, .int a1, .int a2] (jl_w mem lm) = some (some (.int v), jl_w mem' lm')) : jr_ev (pL xs L) 412 ls [.int a2, .int a1, .ref 62, .int y] (jl_w mem lm) = jr_ev (pL xs L) 415 ls [.int v, .int y] (jl_w mem' lm') := je_cv (P := pL xs L) (pc := 412) (n := 415) (ci := 5) (na := 3) (st := [.int a2, .int a1, .ref 62, .int y]) (st' := [.int y]) (av := [.int a1, .int a2]) rfl (by decide) ⟨Nat.le_of_ble_eq_true rfl, rfl, rfl⟩ (Nat.le_of_ble_eq_true rfl) rfl h
theorem eL_415 {ls : List Value} : jr_ev (pL xs L) 415 ls (.int y :: .int z :: st) w = if z = y then jr_ev (pL xs L) 767 ls st w else jr_ev (pL xs L) 418 ls st w := je_ic (c := fun x y => x = y) rfl
theorem eL_418 {ls : List Value} : jr_ev (pL xs L) 418 ls st w = jr_ev (pL xs L) 419 ls ((.int (nI 0)) :: st) w := je_k rfl
theorem eL_420 : jr_ev (pL xs L) 420 [.ref 1000, .ref 0, .ref 62, .int x] st w = jr_ev (pL xs L) 421 [.ref 1000, .ref 0, .ref 62, .int x] (.ref 0 :: st) w := je_rld rfl rfl
theorem eL_421 : jr_ev (pL xs L) 421 [.ref 1000, .ref 0, .ref 62, .int x] st w = jr_ev (pL xs L) 422 [.ref 1000, .ref 0, .ref 62, .int x] (.ref 1000 :: st) w := je_rld rfl rfl
theorem eL_422 : jr_ev (pL xs L) 422 [.ref 1000, .ref 0, .ref 62, .int x] st w = jr_ev (pL xs L) 423 [.ref 1000, .ref 0, .ref 62, .int x] (.int x :: st) w := je_ild rfl rfl
theorem eL_423 {ls : List Value} : jr_ev (pL xs L) 423 ls st w = jr_ev (pL xs L) 424 ls ((.int (nI 1)) :: st) w := je_k rfl
theorem eL_424 {ls : List Value} : jr_ev (pL xs L) 424 ls (.int y :: .int z :: st) w = jr_ev (pL xs L) 425 ls (.int (z + y) :: st) w := je_bin (f := fun x y => x + y) rfl
theorem eL_425 {ls : List Value} {i : Nat} (hi : i < L) (hL : L < 2 ^ 31) : jr_ev (pL xs L) 425 ls (.int (nI i) :: .ref 1000 :: st) (jl_w mem lm) = jr_ev (pL xs L) 426 ls (.int (xs i) :: st) (jl_w mem lm) := je_sl rfl hi hL
theorem eL_426 : jr_ev (pL xs L) 426 [.ref 1000, .ref 0, .ref 62, .int x] st w = jr_ev (pL xs L) 427 [.ref 1000, .ref 0, .ref 62, .int x] (.ref 1000 :: st) w := je_rld rfl rfl
theorem eL_427 : jr_ev (pL xs L) 427 [.ref 1000, .ref 0, .ref 62, .int x] st w = jr_ev (pL xs L) 428 [.ref 1000, .ref 0, .ref 62, .int x] (.int x :: st) w := je_ild rfl rfl
theorem eL_428 {ls : List Value} : jr_ev (pL xs L) 428 ls st w = jr_ev (pL xs L) 429 ls ((.int (nI 2)) :: st) w := je_k rfl
theorem eL_429 {ls : List Value} : jr_ev (pL xs L) 429 ls (.int y :: .int z :: st) w = jr_ev (pL xs L) 430 ls (.int (z + y) :: st) w := je_bin (f := fun x y => x + y) rfl
theorem eL_430 {ls : List Value} {i : Nat} (hi : i < L) (hL : L < 2 ^ 31) : jr_ev (pL xs L) 430 ls (.int (nI i) :: .ref 1000 :: st) (jl_w mem lm) = jr_ev (pL xs L) 431 ls (.int (xs i) :: st) (jl_w mem lm) := je_sl rfl hi hL
theorem eL_431 {ls : List Value} {a1 a2 : Int32} {v : Int32} (h : xX4_best [.ref 0, .int a1, .int a2] (jl_w mem lm) = some (some (.int v), jl_w mem' lm')) : jr_ev (pL xs L) 431 ls [.int a2, .int a1, .ref 0] (jl_w mem lm) = jr_ev (pL xs L) 434 ls [.int v] (jl_w mem' lm') := je_cv (P := pL xs L) (pc := 431) (n := 434) (ci := 4) (na := 3) (st := [.int a2, .int a1, .ref 0]) (st' := []) (av := [.int a1, .int a2]) rfl (by decide) ⟨Nat.le_of_ble_eq_true rfl, rfl, rfl⟩ (Nat.le_of_ble_eq_true rfl) rfl h
theorem eL_434 : jr_ev (pL xs L) 434 [.ref 1000, .ref 0, .ref 62, .int x] st w = jr_ev (pL xs L) 435 [.ref 1000, .ref 0, .ref 62, .int x] (.ref 62 :: st) w := je_rld rfl rfl
theorem eL_435 : jr_ev (pL xs L) 435 [.ref 1000, .ref 0, .ref 62, .int x] st w = jr_ev (pL xs L) 436 [.ref 1000, .ref 0, .ref 62, .int x] (.ref 1000 :: st) w := je_rld rfl rfl
theorem eL_436 : jr_ev (pL xs L) 436 [.ref 1000, .ref 0, .ref 62, .int x] st w = jr_ev (pL xs L) 437 [.ref 1000, .ref 0, .ref 62, .int x] (.int x :: st) w := je_ild rfl rfl
theorem eL_437 {ls : List Value} : jr_ev (pL xs L) 437 ls st w = jr_ev (pL xs L) 438 ls ((.int (nI 1)) :: st) w := je_k rfl
theorem eL_438 {ls : List Value} : jr_ev (pL xs L) 438 ls (.int y :: .int z :: st) w = jr_ev (pL xs L) 439 ls (.int (z + y) :: st) w := je_bin (f := fun x y => x + y) rfl
theorem eL_439 {ls : List Value} {i : Nat} (hi : i < L) (hL : L < 2 ^ 31) : jr_ev (pL xs L) 439 ls (.int (nI i) :: .ref 1000 :: st) (jl_w mem lm) = jr_ev (pL xs L) 440 ls (.int (xs i) :: st) (jl_w mem lm) := je_sl rfl hi hL
theorem eL_440 : jr_ev (pL xs L) 440 [.ref 1000, .ref 0, .ref 62, .int x] st w = jr_ev (pL xs L) 441 [.ref 1000, .ref 0, .ref 62, .int x] (.ref 1000 :: st) w := je_rld rfl rfl
theorem eL_441 : jr_ev (pL xs L) 441 [.ref 1000, .ref 0, .ref 62, .int x] st w = jr_ev (pL xs L) 442 [.ref 1000, .ref 0, .ref 62, .int x] (.int x :: st) w := je_ild rfl rfl
theorem eL_442 {ls : List Value} : jr_ev (pL xs L) 442 ls st w = jr_ev (pL xs L) 443 ls ((.int (nI 2)) :: st) w := je_k rfl
theorem eL_443 {ls : List Value} : jr_ev (pL xs L) 443 ls (.int y :: .int z :: st) w = jr_ev (pL xs L) 444 ls (.int (z + y) :: st) w := je_bin (f := fun x y => x + y) rfl
theorem eL_444 {ls : List Value} {i : Nat} (hi : i < L) (hL : L < 2 ^ 31) : jr_ev (pL xs L) 444 ls (.int (nI i) :: .ref 1000 :: st) (jl_w mem lm) = jr_ev (pL xs L) 445 ls (.int (xs i) :: st) (jl_w mem lm) := je_sl rfl hi hL
theorem eL_445 {ls : List Value} {a1 a2 : Int32} {v : Int32} (h : xX5_best [.ref 62, .int a1, .int a2] (jl_w mem lm) = some (some (.int v), jl_w mem' lm')) : jr_ev (pL xs L) 445 ls [.int a2, .int a1, .ref 62, .int y] (jl_w mem lm) = jr_ev (pL xs L) 448 ls [.int v, .int y] (jl_w mem' lm') := je_cv (P := pL xs L) (pc := 445) (n := 448) (ci := 5) (na := 3) (st := [.int a2, .int a1, .ref 62, .int y]) (st' := [.int y]) (av := [.int a1, .int a2]) rfl (by decide) ⟨Nat.le_of_ble_eq_true rfl, rfl, rfl⟩ (Nat.le_of_ble_eq_true rfl) rfl h
theorem eL_448 {ls : List Value} : jr_ev (pL xs L) 448 ls (.int y :: .int z :: st) w = if z = y then jr_ev (pL xs L) 767 ls st w else jr_ev (pL xs L) 451 ls st w := je_ic (c := fun x y => x = y) rfl
theorem eL_451 {ls : List Value} : jr_ev (pL xs L) 451 ls st w = jr_ev (pL xs L) 452 ls ((.int (nI 0)) :: st) w := je_k rfl
theorem eL_453 : jr_ev (pL xs L) 453 [.ref 1000, .ref 0, .ref 62, .int x] st w = jr_ev (pL xs L) 454 [.ref 1000, .ref 0, .ref 62, .int x] (.ref 0 :: st) w := je_rld rfl rfl
theorem eL_454 : jr_ev (pL xs L) 454 [.ref 1000, .ref 0, .ref 62, .int x] st w = jr_ev (pL xs L) 455 [.ref 1000, .ref 0, .ref 62, .int x] (.ref 1000 :: st) w := je_rld rfl rfl
theorem eL_455 : jr_ev (pL xs L) 455 [.ref 1000, .ref 0, .ref 62, .int x] st w = jr_ev (pL xs L) 456 [.ref 1000, .ref 0, .ref 62, .int x] (.int x :: st) w := je_ild rfl rfl
theorem eL_456 {ls : List Value} : jr_ev (pL xs L) 456 ls st w = jr_ev (pL xs L) 457 ls ((.int (nI 1)) :: st) w := je_k rfl
theorem eL_457 {ls : List Value} : jr_ev (pL xs L) 457 ls (.int y :: .int z :: st) w = jr_ev (pL xs L) 458 ls (.int (z + y) :: st) w := je_bin (f := fun x y => x + y) rfl
theorem eL_458 {ls : List Value} {i : Nat} (hi : i < L) (hL : L < 2 ^ 31) : jr_ev (pL xs L) 458 ls (.int (nI i) :: .ref 1000 :: st) (jl_w mem lm) = jr_ev (pL xs L) 459 ls (.int (xs i) :: st) (jl_w mem lm) := je_sl rfl hi hL
theorem eL_459 : jr_ev (pL xs L) 459 [.ref 1000, .ref 0, .ref 62, .int x] st w = jr_ev (pL xs L) 460 [.ref 1000, .ref 0, .ref 62, .int x] (.ref 1000 :: st) w := je_rld rfl rfl
theorem eL_460 : jr_ev (pL xs L) 460 [.ref 1000, .ref 0, .ref 62, .int x] st w = jr_ev (pL xs L) 461 [.ref 1000, .ref 0, .ref 62, .int x] (.int x :: st) w := je_ild rfl rfl
theorem eL_461 {ls : List Value} : jr_ev (pL xs L) 461 ls st w = jr_ev (pL xs L) 462 ls ((.int (nI 2)) :: st) w := je_k rfl
theorem eL_462 {ls : List Value} : jr_ev (pL xs L) 462 ls (.int y :: .int z :: st) w = jr_ev (pL xs L) 463 ls (.int (z + y) :: st) w := je_bin (f := fun x y => x + y) rfl
theorem eL_463 {ls : List Value} {i : Nat} (hi : i < L) (hL : L < 2 ^ 31) : jr_ev (pL xs L) 463 ls (.int (nI i) :: .ref 1000 :: st) (jl_w mem lm) = jr_ev (pL xs L) 464 ls (.int (xs i) :: st) (jl_w mem lm) := je_sl rfl hi hL
theorem eL_464 : jr_ev (pL xs L) 464 [.ref 1000, .ref 0, .ref 62, .int x] st w = jr_ev (pL xs L) 465 [.ref 1000, .ref 0, .ref 62, .int x] (.ref 1000 :: st) w := je_rld rfl rfl
theorem eL_465 : jr_ev (pL xs L) 465 [.ref 1000, .ref 0, .ref 62, .int x] st w = jr_ev (pL xs L) 466 [.ref 1000, .ref 0, .ref 62, .int x] (.int x :: st) w := je_ild rfl rfl
theorem eL_466 {ls : List Value} : jr_ev (pL xs L) 466 ls st w = jr_ev (pL xs L) 467 ls ((.int (nI 3)) :: st) w := je_k rfl
theorem eL_467 {ls : List Value} : jr_ev (pL xs L) 467 ls (.int y :: .int z :: st) w = jr_ev (pL xs L) 468 ls (.int (z + y) :: st) w := je_bin (f := fun x y => x + y) rfl
theorem eL_468 {ls : List Value} {i : Nat} (hi : i < L) (hL : L < 2 ^ 31) : jr_ev (pL xs L) 468 ls (.int (nI i) :: .ref 1000 :: st) (jl_w mem lm) = jr_ev (pL xs L) 469 ls (.int (xs i) :: st) (jl_w mem lm) := je_sl rfl hi hL
theorem eL_469 {ls : List Value} {a1 a2 a3 : Int32} {v : Int32} (h : xX4_swap [.ref 0, .int a1, .int a2, .int a3] (jl_w mem lm) = some (some (.int v), jl_w mem' lm')) : jr_ev (pL xs L) 469 ls [.int a3, .int a2, .int a1, .ref 0] (jl_w mem lm) = jr_ev (pL xs L) 472 ls [.int v] (jl_w mem' lm') := je_cv (P := pL xs L) (pc := 469) (n := 472) (ci := 4) (na := 4) (st := [.int a3, .int a2, .int a1, .ref 0]) (st' := []) (av := [.int a1, .int a2, .int a3]) rfl (by decide) ⟨Nat.le_of_ble_eq_true rfl, rfl, rfl⟩ (Nat.le_of_ble_eq_true rfl) rfl h
theorem eL_472 : jr_ev (pL xs L) 472 [.ref 1000, .ref 0, .ref 62, .int x] st w = jr_ev (pL xs L) 473 [.ref 1000, .ref 0, .ref 62, .int x] (.ref 62 :: st) w := je_rld rfl rfl
theorem eL_473 : jr_ev (pL xs L) 473 [.ref 1000, .ref 0, .ref 62, .int x] st w = jr_ev (pL xs L) 474 [.ref 1000, .ref 0, .ref 62, .int x] (.ref 1000 :: st) w := je_rld rfl rfl
theorem eL_474 : jr_ev (pL xs L) 474 [.ref 1000, .ref 0, .ref 62, .int x] st w = jr_ev (pL xs L) 475 [.ref 1000, .ref 0, .ref 62, .int x] (.int x :: st) w := je_ild rfl rfl
theorem eL_475 {ls : List Value} : jr_ev (pL xs L) 475 ls st w = jr_ev (pL xs L) 476 ls ((.int (nI 1)) :: st) w := je_k rfl
theorem eL_476 {ls : List Value} : jr_ev (pL xs L) 476 ls (.int y :: .int z :: st) w = jr_ev (pL xs L) 477 ls (.int (z + y) :: st) w := je_bin (f := fun x y => x + y) rfl
theorem eL_477 {ls : List Value} {i : Nat} (hi : i < L) (hL : L < 2 ^ 31) : jr_ev (pL xs L) 477 ls (.int (nI i) :: .ref 1000 :: st) (jl_w mem lm) = jr_ev (pL xs L) 478 ls (.int (xs i) :: st) (jl_w mem lm) := je_sl rfl hi hL
theorem eL_478 : jr_ev (pL xs L) 478 [.ref 1000, .ref 0, .ref 62, .int x] st w = jr_ev (pL xs L) 479 [.ref 1000, .ref 0, .ref 62, .int x] (.ref 1000 :: st) w := je_rld rfl rfl
theorem eL_479 : jr_ev (pL xs L) 479 [.ref 1000, .ref 0, .ref 62, .int x] st w = jr_ev (pL xs L) 480 [.ref 1000, .ref 0, .ref 62, .int x] (.int x :: st) w := je_ild rfl rfl
theorem eL_480 {ls : List Value} : jr_ev (pL xs L) 480 ls st w = jr_ev (pL xs L) 481 ls ((.int (nI 2)) :: st) w := je_k rfl
theorem eL_481 {ls : List Value} : jr_ev (pL xs L) 481 ls (.int y :: .int z :: st) w = jr_ev (pL xs L) 482 ls (.int (z + y) :: st) w := je_bin (f := fun x y => x + y) rfl
theorem eL_482 {ls : List Value} {i : Nat} (hi : i < L) (hL : L < 2 ^ 31) : jr_ev (pL xs L) 482 ls (.int (nI i) :: .ref 1000 :: st) (jl_w mem lm) = jr_ev (pL xs L) 483 ls (.int (xs i) :: st) (jl_w mem lm) := je_sl rfl hi hL
theorem eL_483 : jr_ev (pL xs L) 483 [.ref 1000, .ref 0, .ref 62, .int x] st w = jr_ev (pL xs L) 484 [.ref 1000, .ref 0, .ref 62, .int x] (.ref 1000 :: st) w := je_rld rfl rfl
theorem eL_484 : jr_ev (pL xs L) 484 [.ref 1000, .ref 0, .ref 62, .int x] st w = jr_ev (pL xs L) 485 [.ref 1000, .ref 0, .ref 62, .int x] (.int x :: st) w := je_ild rfl rfl
theorem eL_485 {ls : List Value} : jr_ev (pL xs L) 485 ls st w = jr_ev (pL xs L) 486 ls ((.int (nI 3)) :: st) w := je_k rfl
theorem eL_486 {ls : List Value} : jr_ev (pL xs L) 486 ls (.int y :: .int z :: st) w = jr_ev (pL xs L) 487 ls (.int (z + y) :: st) w := je_bin (f := fun x y => x + y) rfl
theorem eL_487 {ls : List Value} {i : Nat} (hi : i < L) (hL : L < 2 ^ 31) : jr_ev (pL xs L) 487 ls (.int (nI i) :: .ref 1000 :: st) (jl_w mem lm) = jr_ev (pL xs L) 488 ls (.int (xs i) :: st) (jl_w mem lm) := je_sl rfl hi hL
theorem eL_488 {ls : List Value} {a1 a2 a3 : Int32} {v : Int32} (h : xX5_swap [.ref 62, .int a1, .int a2, .int a3] (jl_w mem lm) = some (some (.int v), jl_w mem' lm')) : jr_ev (pL xs L) 488 ls [.int a3, .int a2, .int a1, .ref 62, .int y] (jl_w mem lm) = jr_ev (pL xs L) 491 ls [.int v, .int y] (jl_w mem' lm') := je_cv (P := pL xs L) (pc := 488) (n := 491) (ci := 5) (na := 4) (st := [.int a3, .int a2, .int a1, .ref 62, .int y]) (st' := [.int y]) (av := [.int a1, .int a2, .int a3]) rfl (by decide) ⟨Nat.le_of_ble_eq_true rfl, rfl, rfl⟩ (Nat.le_of_ble_eq_true rfl) rfl h
theorem eL_491 {ls : List Value} : jr_ev (pL xs L) 491 ls (.int y :: .int z :: st) w = if z = y then jr_ev (pL xs L) 767 ls st w else jr_ev (pL xs L) 494 ls st w := je_ic (c := fun x y => x = y) rfl
theorem eL_494 {ls : List Value} : jr_ev (pL xs L) 494 ls st w = jr_ev (pL xs L) 495 ls ((.int (nI 0)) :: st) w := je_k rfl
theorem eL_496 : jr_ev (pL xs L) 496 [.ref 1000, .ref 0, .ref 62, .int x] st w = jr_ev (pL xs L) 497 [.ref 1000, .ref 0, .ref 62, .int x] (.ref 0 :: st) w := je_rld rfl rfl
theorem eL_497 : jr_ev (pL xs L) 497 [.ref 1000, .ref 0, .ref 62, .int x] st w = jr_ev (pL xs L) 498 [.ref 1000, .ref 0, .ref 62, .int x] (.ref 1000 :: st) w := je_rld rfl rfl
theorem eL_498 : jr_ev (pL xs L) 498 [.ref 1000, .ref 0, .ref 62, .int x] st w = jr_ev (pL xs L) 499 [.ref 1000, .ref 0, .ref 62, .int x] (.int x :: st) w := je_ild rfl rfl
theorem eL_499 {ls : List Value} : jr_ev (pL xs L) 499 ls st w = jr_ev (pL xs L) 500 ls ((.int (nI 1)) :: st) w := je_k rfl
theorem eL_500 {ls : List Value} : jr_ev (pL xs L) 500 ls (.int y :: .int z :: st) w = jr_ev (pL xs L) 501 ls (.int (z + y) :: st) w := je_bin (f := fun x y => x + y) rfl
theorem eL_501 {ls : List Value} {i : Nat} (hi : i < L) (hL : L < 2 ^ 31) : jr_ev (pL xs L) 501 ls (.int (nI i) :: .ref 1000 :: st) (jl_w mem lm) = jr_ev (pL xs L) 502 ls (.int (xs i) :: st) (jl_w mem lm) := je_sl rfl hi hL
theorem eL_502 : jr_ev (pL xs L) 502 [.ref 1000, .ref 0, .ref 62, .int x] st w = jr_ev (pL xs L) 503 [.ref 1000, .ref 0, .ref 62, .int x] (.ref 1000 :: st) w := je_rld rfl rfl
theorem eL_503 : jr_ev (pL xs L) 503 [.ref 1000, .ref 0, .ref 62, .int x] st w = jr_ev (pL xs L) 504 [.ref 1000, .ref 0, .ref 62, .int x] (.int x :: st) w := je_ild rfl rfl
theorem eL_504 {ls : List Value} : jr_ev (pL xs L) 504 ls st w = jr_ev (pL xs L) 505 ls ((.int (nI 2)) :: st) w := je_k rfl
theorem eL_505 {ls : List Value} : jr_ev (pL xs L) 505 ls (.int y :: .int z :: st) w = jr_ev (pL xs L) 506 ls (.int (z + y) :: st) w := je_bin (f := fun x y => x + y) rfl
theorem eL_506 {ls : List Value} {i : Nat} (hi : i < L) (hL : L < 2 ^ 31) : jr_ev (pL xs L) 506 ls (.int (nI i) :: .ref 1000 :: st) (jl_w mem lm) = jr_ev (pL xs L) 507 ls (.int (xs i) :: st) (jl_w mem lm) := je_sl rfl hi hL
theorem eL_507 : jr_ev (pL xs L) 507 [.ref 1000, .ref 0, .ref 62, .int x] st w = jr_ev (pL xs L) 508 [.ref 1000, .ref 0, .ref 62, .int x] (.ref 1000 :: st) w := je_rld rfl rfl
theorem eL_508 : jr_ev (pL xs L) 508 [.ref 1000, .ref 0, .ref 62, .int x] st w = jr_ev (pL xs L) 509 [.ref 1000, .ref 0, .ref 62, .int x] (.int x :: st) w := je_ild rfl rfl
theorem eL_509 {ls : List Value} : jr_ev (pL xs L) 509 ls st w = jr_ev (pL xs L) 510 ls ((.int (nI 3)) :: st) w := je_k rfl
theorem eL_510 {ls : List Value} : jr_ev (pL xs L) 510 ls (.int y :: .int z :: st) w = jr_ev (pL xs L) 511 ls (.int (z + y) :: st) w := je_bin (f := fun x y => x + y) rfl
theorem eL_511 {ls : List Value} {i : Nat} (hi : i < L) (hL : L < 2 ^ 31) : jr_ev (pL xs L) 511 ls (.int (nI i) :: .ref 1000 :: st) (jl_w mem lm) = jr_ev (pL xs L) 512 ls (.int (xs i) :: st) (jl_w mem lm) := je_sl rfl hi hL
theorem eL_512 : jr_ev (pL xs L) 512 [.ref 1000, .ref 0, .ref 62, .int x] st w = jr_ev (pL xs L) 513 [.ref 1000, .ref 0, .ref 62, .int x] (.ref 1000 :: st) w := je_rld rfl rfl
theorem eL_513 : jr_ev (pL xs L) 513 [.ref 1000, .ref 0, .ref 62, .int x] st w = jr_ev (pL xs L) 514 [.ref 1000, .ref 0, .ref 62, .int x] (.int x :: st) w := je_ild rfl rfl
theorem eL_514 {ls : List Value} : jr_ev (pL xs L) 514 ls st w = jr_ev (pL xs L) 515 ls ((.int (nI 4)) :: st) w := je_k rfl
theorem eL_515 {ls : List Value} : jr_ev (pL xs L) 515 ls (.int y :: .int z :: st) w = jr_ev (pL xs L) 516 ls (.int (z + y) :: st) w := je_bin (f := fun x y => x + y) rfl
theorem eL_516 {ls : List Value} {i : Nat} (hi : i < L) (hL : L < 2 ^ 31) : jr_ev (pL xs L) 516 ls (.int (nI i) :: .ref 1000 :: st) (jl_w mem lm) = jr_ev (pL xs L) 517 ls (.int (xs i) :: st) (jl_w mem lm) := je_sl rfl hi hL
theorem eL_517 {ls : List Value} {a1 a2 a3 a4 : Int32} {v : Int32} (h : xX4_odds [.ref 0, .int a1, .int a2, .int a3, .int a4] (jl_w mem lm) = some (some (.int v), jl_w mem' lm')) : jr_ev (pL xs L) 517 ls [.int a4, .int a3, .int a2, .int a1, .ref 0] (jl_w mem lm) = jr_ev (pL xs L) 520 ls [.int v] (jl_w mem' lm') := je_cv (P := pL xs L) (pc := 517) (n := 520) (ci := 4) (na := 5) (st := [.int a4, .int a3, .int a2, .int a1, .ref 0]) (st' := []) (av := [.int a1, .int a2, .int a3, .int a4]) rfl (by decide) ⟨Nat.le_of_ble_eq_true rfl, rfl, rfl⟩ (Nat.le_of_ble_eq_true rfl) rfl h
theorem eL_520 : jr_ev (pL xs L) 520 [.ref 1000, .ref 0, .ref 62, .int x] st w = jr_ev (pL xs L) 521 [.ref 1000, .ref 0, .ref 62, .int x] (.ref 62 :: st) w := je_rld rfl rfl
theorem eL_521 : jr_ev (pL xs L) 521 [.ref 1000, .ref 0, .ref 62, .int x] st w = jr_ev (pL xs L) 522 [.ref 1000, .ref 0, .ref 62, .int x] (.ref 1000 :: st) w := je_rld rfl rfl
theorem eL_522 : jr_ev (pL xs L) 522 [.ref 1000, .ref 0, .ref 62, .int x] st w = jr_ev (pL xs L) 523 [.ref 1000, .ref 0, .ref 62, .int x] (.int x :: st) w := je_ild rfl rfl
theorem eL_523 {ls : List Value} : jr_ev (pL xs L) 523 ls st w = jr_ev (pL xs L) 524 ls ((.int (nI 1)) :: st) w := je_k rfl
theorem eL_524 {ls : List Value} : jr_ev (pL xs L) 524 ls (.int y :: .int z :: st) w = jr_ev (pL xs L) 525 ls (.int (z + y) :: st) w := je_bin (f := fun x y => x + y) rfl
theorem eL_525 {ls : List Value} {i : Nat} (hi : i < L) (hL : L < 2 ^ 31) : jr_ev (pL xs L) 525 ls (.int (nI i) :: .ref 1000 :: st) (jl_w mem lm) = jr_ev (pL xs L) 526 ls (.int (xs i) :: st) (jl_w mem lm) := je_sl rfl hi hL
theorem eL_526 : jr_ev (pL xs L) 526 [.ref 1000, .ref 0, .ref 62, .int x] st w = jr_ev (pL xs L) 527 [.ref 1000, .ref 0, .ref 62, .int x] (.ref 1000 :: st) w := je_rld rfl rfl
theorem eL_527 : jr_ev (pL xs L) 527 [.ref 1000, .ref 0, .ref 62, .int x] st w = jr_ev (pL xs L) 528 [.ref 1000, .ref 0, .ref 62, .int x] (.int x :: st) w := je_ild rfl rfl
theorem eL_528 {ls : List Value} : jr_ev (pL xs L) 528 ls st w = jr_ev (pL xs L) 529 ls ((.int (nI 2)) :: st) w := je_k rfl
theorem eL_529 {ls : List Value} : jr_ev (pL xs L) 529 ls (.int y :: .int z :: st) w = jr_ev (pL xs L) 530 ls (.int (z + y) :: st) w := je_bin (f := fun x y => x + y) rfl
theorem eL_530 {ls : List Value} {i : Nat} (hi : i < L) (hL : L < 2 ^ 31) : jr_ev (pL xs L) 530 ls (.int (nI i) :: .ref 1000 :: st) (jl_w mem lm) = jr_ev (pL xs L) 531 ls (.int (xs i) :: st) (jl_w mem lm) := je_sl rfl hi hL
theorem eL_531 : jr_ev (pL xs L) 531 [.ref 1000, .ref 0, .ref 62, .int x] st w = jr_ev (pL xs L) 532 [.ref 1000, .ref 0, .ref 62, .int x] (.ref 1000 :: st) w := je_rld rfl rfl
theorem eL_532 : jr_ev (pL xs L) 532 [.ref 1000, .ref 0, .ref 62, .int x] st w = jr_ev (pL xs L) 533 [.ref 1000, .ref 0, .ref 62, .int x] (.int x :: st) w := je_ild rfl rfl
theorem eL_533 {ls : List Value} : jr_ev (pL xs L) 533 ls st w = jr_ev (pL xs L) 534 ls ((.int (nI 3)) :: st) w := je_k rfl
theorem eL_534 {ls : List Value} : jr_ev (pL xs L) 534 ls (.int y :: .int z :: st) w = jr_ev (pL xs L) 535 ls (.int (z + y) :: st) w := je_bin (f := fun x y => x + y) rfl
theorem eL_535 {ls : List Value} {i : Nat} (hi : i < L) (hL : L < 2 ^ 31) : jr_ev (pL xs L) 535 ls (.int (nI i) :: .ref 1000 :: st) (jl_w mem lm) = jr_ev (pL xs L) 536 ls (.int (xs i) :: st) (jl_w mem lm) := je_sl rfl hi hL
theorem eL_536 : jr_ev (pL xs L) 536 [.ref 1000, .ref 0, .ref 62, .int x] st w = jr_ev (pL xs L) 537 [.ref 1000, .ref 0, .ref 62, .int x] (.ref 1000 :: st) w := je_rld rfl rfl
theorem eL_537 : jr_ev (pL xs L) 537 [.ref 1000, .ref 0, .ref 62, .int x] st w = jr_ev (pL xs L) 538 [.ref 1000, .ref 0, .ref 62, .int x] (.int x :: st) w := je_ild rfl rfl
theorem eL_538 {ls : List Value} : jr_ev (pL xs L) 538 ls st w = jr_ev (pL xs L) 539 ls ((.int (nI 4)) :: st) w := je_k rfl
theorem eL_539 {ls : List Value} : jr_ev (pL xs L) 539 ls (.int y :: .int z :: st) w = jr_ev (pL xs L) 540 ls (.int (z + y) :: st) w := je_bin (f := fun x y => x + y) rfl
theorem eL_540 {ls : List Value} {i : Nat} (hi : i < L) (hL : L < 2 ^ 31) : jr_ev (pL xs L) 540 ls (.int (nI i) :: .ref 1000 :: st) (jl_w mem lm) = jr_ev (pL xs L) 541 ls (.int (xs i) :: st) (jl_w mem lm) := je_sl rfl hi hL
theorem eL_541 {ls : List Value} {a1 a2 a3 a4 : Int32} {v : Int32} (h : xX5_odds [.ref 62, .int a1, .int a2, .int a3, .int a4] (jl_w mem lm) = some (some (.int v), jl_w mem' lm')) : jr_ev (pL xs L) 541 ls [.int a4, .int a3, .int a2, .int a1, .ref 62, .int y] (jl_w mem lm) = jr_ev (pL xs L) 544 ls [.int v, .int y] (jl_w mem' lm') := je_cv (P := pL xs L) (pc := 541) (n := 544) (ci := 5) (na := 5) (st := [.int a4, .int a3, .int a2, .int a1, .ref 62, .int y]) (st' := [.int y]) (av := [.int a1, .int a2, .int a3, .int a4]) rfl (by decide) ⟨Nat.le_of_ble_eq_true rfl, rfl, rfl⟩ (Nat.le_of_ble_eq_true rfl) rfl h
theorem eL_544 {ls : List Value} : jr_ev (pL xs L) 544 ls (.int y :: .int z :: st) w = if z = y then jr_ev (pL xs L) 767 ls st w else jr_ev (pL xs L) 547 ls st w := je_ic (c := fun x y => x = y) rfl
theorem eL_547 {ls : List Value} : jr_ev (pL xs L) 547 ls st w = jr_ev (pL xs L) 548 ls ((.int (nI 0)) :: st) w := je_k rfl
theorem eL_549 : jr_ev (pL xs L) 549 [.ref 1000, .ref 0, .ref 62, .int x] st w = jr_ev (pL xs L) 550 [.ref 1000, .ref 0, .ref 62, .int x] (.ref 0 :: st) w := je_rld rfl rfl
theorem eL_550 : jr_ev (pL xs L) 550 [.ref 1000, .ref 0, .ref 62, .int x] st w = jr_ev (pL xs L) 551 [.ref 1000, .ref 0, .ref 62, .int x] (.ref 1000 :: st) w := je_rld rfl rfl
theorem eL_551 : jr_ev (pL xs L) 551 [.ref 1000, .ref 0, .ref 62, .int x] st w = jr_ev (pL xs L) 552 [.ref 1000, .ref 0, .ref 62, .int x] (.int x :: st) w := je_ild rfl rfl
theorem eL_552 {ls : List Value} : jr_ev (pL xs L) 552 ls st w = jr_ev (pL xs L) 553 ls ((.int (nI 1)) :: st) w := je_k rfl
theorem eL_553 {ls : List Value} : jr_ev (pL xs L) 553 ls (.int y :: .int z :: st) w = jr_ev (pL xs L) 554 ls (.int (z + y) :: st) w := je_bin (f := fun x y => x + y) rfl
theorem eL_554 {ls : List Value} {i : Nat} (hi : i < L) (hL : L < 2 ^ 31) : jr_ev (pL xs L) 554 ls (.int (nI i) :: .ref 1000 :: st) (jl_w mem lm) = jr_ev (pL xs L) 555 ls (.int (xs i) :: st) (jl_w mem lm) := je_sl rfl hi hL
theorem eL_555 : jr_ev (pL xs L) 555 [.ref 1000, .ref 0, .ref 62, .int x] st w = jr_ev (pL xs L) 556 [.ref 1000, .ref 0, .ref 62, .int x] (.ref 1000 :: st) w := je_rld rfl rfl
theorem eL_556 : jr_ev (pL xs L) 556 [.ref 1000, .ref 0, .ref 62, .int x] st w = jr_ev (pL xs L) 557 [.ref 1000, .ref 0, .ref 62, .int x] (.int x :: st) w := je_ild rfl rfl
theorem eL_557 {ls : List Value} : jr_ev (pL xs L) 557 ls st w = jr_ev (pL xs L) 558 ls ((.int (nI 2)) :: st) w := je_k rfl
theorem eL_558 {ls : List Value} : jr_ev (pL xs L) 558 ls (.int y :: .int z :: st) w = jr_ev (pL xs L) 559 ls (.int (z + y) :: st) w := je_bin (f := fun x y => x + y) rfl
theorem eL_559 {ls : List Value} {i : Nat} (hi : i < L) (hL : L < 2 ^ 31) : jr_ev (pL xs L) 559 ls (.int (nI i) :: .ref 1000 :: st) (jl_w mem lm) = jr_ev (pL xs L) 560 ls (.int (xs i) :: st) (jl_w mem lm) := je_sl rfl hi hL
theorem eL_560 : jr_ev (pL xs L) 560 [.ref 1000, .ref 0, .ref 62, .int x] st w = jr_ev (pL xs L) 561 [.ref 1000, .ref 0, .ref 62, .int x] (.ref 1000 :: st) w := je_rld rfl rfl
theorem eL_561 : jr_ev (pL xs L) 561 [.ref 1000, .ref 0, .ref 62, .int x] st w = jr_ev (pL xs L) 562 [.ref 1000, .ref 0, .ref 62, .int x] (.int x :: st) w := je_ild rfl rfl
theorem eL_562 {ls : List Value} : jr_ev (pL xs L) 562 ls st w = jr_ev (pL xs L) 563 ls ((.int (nI 3)) :: st) w := je_k rfl
theorem eL_563 {ls : List Value} : jr_ev (pL xs L) 563 ls (.int y :: .int z :: st) w = jr_ev (pL xs L) 564 ls (.int (z + y) :: st) w := je_bin (f := fun x y => x + y) rfl
theorem eL_564 {ls : List Value} {i : Nat} (hi : i < L) (hL : L < 2 ^ 31) : jr_ev (pL xs L) 564 ls (.int (nI i) :: .ref 1000 :: st) (jl_w mem lm) = jr_ev (pL xs L) 565 ls (.int (xs i) :: st) (jl_w mem lm) := je_sl rfl hi hL
theorem eL_565 {ls : List Value} {a1 a2 a3 : Int32} {v : Int32} (h : xX4_hears [.ref 0, .int a1, .int a2, .int a3] (jl_w mem lm) = some (some (.int v), jl_w mem' lm')) : jr_ev (pL xs L) 565 ls [.int a3, .int a2, .int a1, .ref 0] (jl_w mem lm) = jr_ev (pL xs L) 568 ls [.int v] (jl_w mem' lm') := je_cv (P := pL xs L) (pc := 565) (n := 568) (ci := 4) (na := 4) (st := [.int a3, .int a2, .int a1, .ref 0]) (st' := []) (av := [.int a1, .int a2, .int a3]) rfl (by decide) ⟨Nat.le_of_ble_eq_true rfl, rfl, rfl⟩ (Nat.le_of_ble_eq_true rfl) rfl h
theorem eL_568 : jr_ev (pL xs L) 568 [.ref 1000, .ref 0, .ref 62, .int x] st w = jr_ev (pL xs L) 569 [.ref 1000, .ref 0, .ref 62, .int x] (.ref 62 :: st) w := je_rld rfl rfl
theorem eL_569 : jr_ev (pL xs L) 569 [.ref 1000, .ref 0, .ref 62, .int x] st w = jr_ev (pL xs L) 570 [.ref 1000, .ref 0, .ref 62, .int x] (.ref 1000 :: st) w := je_rld rfl rfl
theorem eL_570 : jr_ev (pL xs L) 570 [.ref 1000, .ref 0, .ref 62, .int x] st w = jr_ev (pL xs L) 571 [.ref 1000, .ref 0, .ref 62, .int x] (.int x :: st) w := je_ild rfl rfl
theorem eL_571 {ls : List Value} : jr_ev (pL xs L) 571 ls st w = jr_ev (pL xs L) 572 ls ((.int (nI 1)) :: st) w := je_k rfl
theorem eL_572 {ls : List Value} : jr_ev (pL xs L) 572 ls (.int y :: .int z :: st) w = jr_ev (pL xs L) 573 ls (.int (z + y) :: st) w := je_bin (f := fun x y => x + y) rfl
theorem eL_573 {ls : List Value} {i : Nat} (hi : i < L) (hL : L < 2 ^ 31) : jr_ev (pL xs L) 573 ls (.int (nI i) :: .ref 1000 :: st) (jl_w mem lm) = jr_ev (pL xs L) 574 ls (.int (xs i) :: st) (jl_w mem lm) := je_sl rfl hi hL
theorem eL_574 : jr_ev (pL xs L) 574 [.ref 1000, .ref 0, .ref 62, .int x] st w = jr_ev (pL xs L) 575 [.ref 1000, .ref 0, .ref 62, .int x] (.ref 1000 :: st) w := je_rld rfl rfl
theorem eL_575 : jr_ev (pL xs L) 575 [.ref 1000, .ref 0, .ref 62, .int x] st w = jr_ev (pL xs L) 576 [.ref 1000, .ref 0, .ref 62, .int x] (.int x :: st) w := je_ild rfl rfl
theorem eL_576 {ls : List Value} : jr_ev (pL xs L) 576 ls st w = jr_ev (pL xs L) 577 ls ((.int (nI 2)) :: st) w := je_k rfl
theorem eL_577 {ls : List Value} : jr_ev (pL xs L) 577 ls (.int y :: .int z :: st) w = jr_ev (pL xs L) 578 ls (.int (z + y) :: st) w := je_bin (f := fun x y => x + y) rfl
theorem eL_578 {ls : List Value} {i : Nat} (hi : i < L) (hL : L < 2 ^ 31) : jr_ev (pL xs L) 578 ls (.int (nI i) :: .ref 1000 :: st) (jl_w mem lm) = jr_ev (pL xs L) 579 ls (.int (xs i) :: st) (jl_w mem lm) := je_sl rfl hi hL
theorem eL_579 : jr_ev (pL xs L) 579 [.ref 1000, .ref 0, .ref 62, .int x] st w = jr_ev (pL xs L) 580 [.ref 1000, .ref 0, .ref 62, .int x] (.ref 1000 :: st) w := je_rld rfl rfl
theorem eL_580 : jr_ev (pL xs L) 580 [.ref 1000, .ref 0, .ref 62, .int x] st w = jr_ev (pL xs L) 581 [.ref 1000, .ref 0, .ref 62, .int x] (.int x :: st) w := je_ild rfl rfl
theorem eL_581 {ls : List Value} : jr_ev (pL xs L) 581 ls st w = jr_ev (pL xs L) 582 ls ((.int (nI 3)) :: st) w := je_k rfl
theorem eL_582 {ls : List Value} : jr_ev (pL xs L) 582 ls (.int y :: .int z :: st) w = jr_ev (pL xs L) 583 ls (.int (z + y) :: st) w := je_bin (f := fun x y => x + y) rfl
theorem eL_583 {ls : List Value} {i : Nat} (hi : i < L) (hL : L < 2 ^ 31) : jr_ev (pL xs L) 583 ls (.int (nI i) :: .ref 1000 :: st) (jl_w mem lm) = jr_ev (pL xs L) 584 ls (.int (xs i) :: st) (jl_w mem lm) := je_sl rfl hi hL
theorem eL_584 {ls : List Value} {a1 a2 a3 : Int32} {v : Int32} (h : xX5_hears [.ref 62, .int a1, .int a2, .int a3] (jl_w mem lm) = some (some (.int v), jl_w mem' lm')) : jr_ev (pL xs L) 584 ls [.int a3, .int a2, .int a1, .ref 62, .int y] (jl_w mem lm) = jr_ev (pL xs L) 587 ls [.int v, .int y] (jl_w mem' lm') := je_cv (P := pL xs L) (pc := 584) (n := 587) (ci := 5) (na := 4) (st := [.int a3, .int a2, .int a1, .ref 62, .int y]) (st' := [.int y]) (av := [.int a1, .int a2, .int a3]) rfl (by decide) ⟨Nat.le_of_ble_eq_true rfl, rfl, rfl⟩ (Nat.le_of_ble_eq_true rfl) rfl h
theorem eL_587 {ls : List Value} : jr_ev (pL xs L) 587 ls (.int y :: .int z :: st) w = if z = y then jr_ev (pL xs L) 767 ls st w else jr_ev (pL xs L) 590 ls st w := je_ic (c := fun x y => x = y) rfl
theorem eL_590 {ls : List Value} : jr_ev (pL xs L) 590 ls st w = jr_ev (pL xs L) 591 ls ((.int (nI 0)) :: st) w := je_k rfl
theorem eL_592 : jr_ev (pL xs L) 592 [.ref 1000, .ref 0, .ref 62, .int x] st w = jr_ev (pL xs L) 593 [.ref 1000, .ref 0, .ref 62, .int x] (.ref 0 :: st) w := je_rld rfl rfl
theorem eL_593 {ls : List Value} {v : Int32} (h : xX4_forget [.ref 0] (jl_w mem lm) = some (some (.int v), jl_w mem' lm')) : jr_ev (pL xs L) 593 ls [.ref 0] (jl_w mem lm) = jr_ev (pL xs L) 596 ls [.int v] (jl_w mem' lm') := je_cv (P := pL xs L) (pc := 593) (n := 596) (ci := 4) (na := 1) (st := [.ref 0]) (st' := []) (av := []) rfl (by decide) ⟨Nat.le_of_ble_eq_true rfl, rfl, rfl⟩ (Nat.le_of_ble_eq_true rfl) rfl h
theorem eL_596 : jr_ev (pL xs L) 596 [.ref 1000, .ref 0, .ref 62, .int x] st w = jr_ev (pL xs L) 597 [.ref 1000, .ref 0, .ref 62, .int x] (.ref 62 :: st) w := je_rld rfl rfl
theorem eL_597 {ls : List Value} {v : Int32} (h : xX5_forget [.ref 62] (jl_w mem lm) = some (some (.int v), jl_w mem' lm')) : jr_ev (pL xs L) 597 ls [.ref 62, .int y] (jl_w mem lm) = jr_ev (pL xs L) 600 ls [.int v, .int y] (jl_w mem' lm') := je_cv (P := pL xs L) (pc := 597) (n := 600) (ci := 5) (na := 1) (st := [.ref 62, .int y]) (st' := [.int y]) (av := []) rfl (by decide) ⟨Nat.le_of_ble_eq_true rfl, rfl, rfl⟩ (Nat.le_of_ble_eq_true rfl) rfl h
theorem eL_600 {ls : List Value} : jr_ev (pL xs L) 600 ls (.int y :: .int z :: st) w = if z = y then jr_ev (pL xs L) 767 ls st w else jr_ev (pL xs L) 603 ls st w := je_ic (c := fun x y => x = y) rfl
theorem eL_603 {ls : List Value} : jr_ev (pL xs L) 603 ls st w = jr_ev (pL xs L) 604 ls ((.int (nI 0)) :: st) w := je_k rfl
theorem eL_605 : jr_ev (pL xs L) 605 [.ref 1000, .ref 0, .ref 62, .int x] st w = jr_ev (pL xs L) 606 [.ref 1000, .ref 0, .ref 62, .int x] (.ref 0 :: st) w := je_rld rfl rfl
theorem eL_606 : jr_ev (pL xs L) 606 [.ref 1000, .ref 0, .ref 62, .int x] st w = jr_ev (pL xs L) 607 [.ref 1000, .ref 0, .ref 62, .int x] (.ref 1000 :: st) w := je_rld rfl rfl
theorem eL_607 : jr_ev (pL xs L) 607 [.ref 1000, .ref 0, .ref 62, .int x] st w = jr_ev (pL xs L) 608 [.ref 1000, .ref 0, .ref 62, .int x] (.int x :: st) w := je_ild rfl rfl
theorem eL_608 {ls : List Value} : jr_ev (pL xs L) 608 ls st w = jr_ev (pL xs L) 609 ls ((.int (nI 1)) :: st) w := je_k rfl
theorem eL_609 {ls : List Value} : jr_ev (pL xs L) 609 ls (.int y :: .int z :: st) w = jr_ev (pL xs L) 610 ls (.int (z + y) :: st) w := je_bin (f := fun x y => x + y) rfl
theorem eL_610 {ls : List Value} {i : Nat} (hi : i < L) (hL : L < 2 ^ 31) : jr_ev (pL xs L) 610 ls (.int (nI i) :: .ref 1000 :: st) (jl_w mem lm) = jr_ev (pL xs L) 611 ls (.int (xs i) :: st) (jl_w mem lm) := je_sl rfl hi hL
theorem eL_611 {ls : List Value} {a1 : Int32} {v : Int32} (h : xX4_gusts [.ref 0, .int a1] (jl_w mem lm) = some (some (.int v), jl_w mem' lm')) : jr_ev (pL xs L) 611 ls [.int a1, .ref 0] (jl_w mem lm) = jr_ev (pL xs L) 614 ls [.int v] (jl_w mem' lm') := je_cv (P := pL xs L) (pc := 611) (n := 614) (ci := 4) (na := 2) (st := [.int a1, .ref 0]) (st' := []) (av := [.int a1]) rfl (by decide) ⟨Nat.le_of_ble_eq_true rfl, rfl, rfl⟩ (Nat.le_of_ble_eq_true rfl) rfl h
theorem eL_614 : jr_ev (pL xs L) 614 [.ref 1000, .ref 0, .ref 62, .int x] st w = jr_ev (pL xs L) 615 [.ref 1000, .ref 0, .ref 62, .int x] (.ref 62 :: st) w := je_rld rfl rfl
theorem eL_615 : jr_ev (pL xs L) 615 [.ref 1000, .ref 0, .ref 62, .int x] st w = jr_ev (pL xs L) 616 [.ref 1000, .ref 0, .ref 62, .int x] (.ref 1000 :: st) w := je_rld rfl rfl
theorem eL_616 : jr_ev (pL xs L) 616 [.ref 1000, .ref 0, .ref 62, .int x] st w = jr_ev (pL xs L) 617 [.ref 1000, .ref 0, .ref 62, .int x] (.int x :: st) w := je_ild rfl rfl
theorem eL_617 {ls : List Value} : jr_ev (pL xs L) 617 ls st w = jr_ev (pL xs L) 618 ls ((.int (nI 1)) :: st) w := je_k rfl
theorem eL_618 {ls : List Value} : jr_ev (pL xs L) 618 ls (.int y :: .int z :: st) w = jr_ev (pL xs L) 619 ls (.int (z + y) :: st) w := je_bin (f := fun x y => x + y) rfl
theorem eL_619 {ls : List Value} {i : Nat} (hi : i < L) (hL : L < 2 ^ 31) : jr_ev (pL xs L) 619 ls (.int (nI i) :: .ref 1000 :: st) (jl_w mem lm) = jr_ev (pL xs L) 620 ls (.int (xs i) :: st) (jl_w mem lm) := je_sl rfl hi hL
theorem eL_620 {ls : List Value} {a1 : Int32} {v : Int32} (h : xX5_gusts [.ref 62, .int a1] (jl_w mem lm) = some (some (.int v), jl_w mem' lm')) : jr_ev (pL xs L) 620 ls [.int a1, .ref 62, .int y] (jl_w mem lm) = jr_ev (pL xs L) 623 ls [.int v, .int y] (jl_w mem' lm') := je_cv (P := pL xs L) (pc := 620) (n := 623) (ci := 5) (na := 2) (st := [.int a1, .ref 62, .int y]) (st' := [.int y]) (av := [.int a1]) rfl (by decide) ⟨Nat.le_of_ble_eq_true rfl, rfl, rfl⟩ (Nat.le_of_ble_eq_true rfl) rfl h
theorem eL_623 {ls : List Value} : jr_ev (pL xs L) 623 ls (.int y :: .int z :: st) w = if z = y then jr_ev (pL xs L) 767 ls st w else jr_ev (pL xs L) 626 ls st w := je_ic (c := fun x y => x = y) rfl
theorem eL_626 {ls : List Value} : jr_ev (pL xs L) 626 ls st w = jr_ev (pL xs L) 627 ls ((.int (nI 0)) :: st) w := je_k rfl
theorem eL_628 : jr_ev (pL xs L) 628 [.ref 1000, .ref 0, .ref 62, .int x] st w = jr_ev (pL xs L) 629 [.ref 1000, .ref 0, .ref 62, .int x] (.ref 0 :: st) w := je_rld rfl rfl
theorem eL_629 : jr_ev (pL xs L) 629 [.ref 1000, .ref 0, .ref 62, .int x] st w = jr_ev (pL xs L) 630 [.ref 1000, .ref 0, .ref 62, .int x] (.ref 1000 :: st) w := je_rld rfl rfl
theorem eL_630 : jr_ev (pL xs L) 630 [.ref 1000, .ref 0, .ref 62, .int x] st w = jr_ev (pL xs L) 631 [.ref 1000, .ref 0, .ref 62, .int x] (.int x :: st) w := je_ild rfl rfl
theorem eL_631 {ls : List Value} : jr_ev (pL xs L) 631 ls st w = jr_ev (pL xs L) 632 ls ((.int (nI 1)) :: st) w := je_k rfl
theorem eL_632 {ls : List Value} : jr_ev (pL xs L) 632 ls (.int y :: .int z :: st) w = jr_ev (pL xs L) 633 ls (.int (z + y) :: st) w := je_bin (f := fun x y => x + y) rfl
theorem eL_633 {ls : List Value} {i : Nat} (hi : i < L) (hL : L < 2 ^ 31) : jr_ev (pL xs L) 633 ls (.int (nI i) :: .ref 1000 :: st) (jl_w mem lm) = jr_ev (pL xs L) 634 ls (.int (xs i) :: st) (jl_w mem lm) := je_sl rfl hi hL
theorem eL_634 {ls : List Value} {a1 : Int32} {v : Int32} (h : xX4_listen [.ref 0, .int a1] (jl_w mem lm) = some (some (.int v), jl_w mem' lm')) : jr_ev (pL xs L) 634 ls [.int a1, .ref 0] (jl_w mem lm) = jr_ev (pL xs L) 637 ls [.int v] (jl_w mem' lm') := je_cv (P := pL xs L) (pc := 634) (n := 637) (ci := 4) (na := 2) (st := [.int a1, .ref 0]) (st' := []) (av := [.int a1]) rfl (by decide) ⟨Nat.le_of_ble_eq_true rfl, rfl, rfl⟩ (Nat.le_of_ble_eq_true rfl) rfl h
theorem eL_637 : jr_ev (pL xs L) 637 [.ref 1000, .ref 0, .ref 62, .int x] st w = jr_ev (pL xs L) 638 [.ref 1000, .ref 0, .ref 62, .int x] (.ref 62 :: st) w := je_rld rfl rfl
theorem eL_638 : jr_ev (pL xs L) 638 [.ref 1000, .ref 0, .ref 62, .int x] st w = jr_ev (pL xs L) 639 [.ref 1000, .ref 0, .ref 62, .int x] (.ref 1000 :: st) w := je_rld rfl rfl
theorem eL_639 : jr_ev (pL xs L) 639 [.ref 1000, .ref 0, .ref 62, .int x] st w = jr_ev (pL xs L) 640 [.ref 1000, .ref 0, .ref 62, .int x] (.int x :: st) w := je_ild rfl rfl
theorem eL_640 {ls : List Value} : jr_ev (pL xs L) 640 ls st w = jr_ev (pL xs L) 641 ls ((.int (nI 1)) :: st) w := je_k rfl
theorem eL_641 {ls : List Value} : jr_ev (pL xs L) 641 ls (.int y :: .int z :: st) w = jr_ev (pL xs L) 642 ls (.int (z + y) :: st) w := je_bin (f := fun x y => x + y) rfl
theorem eL_642 {ls : List Value} {i : Nat} (hi : i < L) (hL : L < 2 ^ 31) : jr_ev (pL xs L) 642 ls (.int (nI i) :: .ref 1000 :: st) (jl_w mem lm) = jr_ev (pL xs L) 643 ls (.int (xs i) :: st) (jl_w mem lm) := je_sl rfl hi hL
theorem eL_643 {ls : List Value} {a1 : Int32} {v : Int32} (h : xX5_listen [.ref 62, .int a1] (jl_w mem lm) = some (some (.int v), jl_w mem' lm')) : jr_ev (pL xs L) 643 ls [.int a1, .ref 62, .int y] (jl_w mem lm) = jr_ev (pL xs L) 646 ls [.int v, .int y] (jl_w mem' lm') := je_cv (P := pL xs L) (pc := 643) (n := 646) (ci := 5) (na := 2) (st := [.int a1, .ref 62, .int y]) (st' := [.int y]) (av := [.int a1]) rfl (by decide) ⟨Nat.le_of_ble_eq_true rfl, rfl, rfl⟩ (Nat.le_of_ble_eq_true rfl) rfl h
theorem eL_646 {ls : List Value} : jr_ev (pL xs L) 646 ls (.int y :: .int z :: st) w = if z = y then jr_ev (pL xs L) 767 ls st w else jr_ev (pL xs L) 649 ls st w := je_ic (c := fun x y => x = y) rfl
theorem eL_649 {ls : List Value} : jr_ev (pL xs L) 649 ls st w = jr_ev (pL xs L) 650 ls ((.int (nI 0)) :: st) w := je_k rfl
theorem eL_651 : jr_ev (pL xs L) 651 [.ref 1000, .ref 0, .ref 62, .int x] st w = jr_ev (pL xs L) 652 [.ref 1000, .ref 0, .ref 62, .int x] (.ref 0 :: st) w := je_rld rfl rfl
theorem eL_652 : jr_ev (pL xs L) 652 [.ref 1000, .ref 0, .ref 62, .int x] st w = jr_ev (pL xs L) 653 [.ref 1000, .ref 0, .ref 62, .int x] (.ref 1000 :: st) w := je_rld rfl rfl
theorem eL_653 : jr_ev (pL xs L) 653 [.ref 1000, .ref 0, .ref 62, .int x] st w = jr_ev (pL xs L) 654 [.ref 1000, .ref 0, .ref 62, .int x] (.int x :: st) w := je_ild rfl rfl
theorem eL_654 {ls : List Value} : jr_ev (pL xs L) 654 ls st w = jr_ev (pL xs L) 655 ls ((.int (nI 1)) :: st) w := je_k rfl
theorem eL_655 {ls : List Value} : jr_ev (pL xs L) 655 ls (.int y :: .int z :: st) w = jr_ev (pL xs L) 656 ls (.int (z + y) :: st) w := je_bin (f := fun x y => x + y) rfl
theorem eL_656 {ls : List Value} {i : Nat} (hi : i < L) (hL : L < 2 ^ 31) : jr_ev (pL xs L) 656 ls (.int (nI i) :: .ref 1000 :: st) (jl_w mem lm) = jr_ev (pL xs L) 657 ls (.int (xs i) :: st) (jl_w mem lm) := je_sl rfl hi hL
theorem eL_657 : jr_ev (pL xs L) 657 [.ref 1000, .ref 0, .ref 62, .int x] st w = jr_ev (pL xs L) 658 [.ref 1000, .ref 0, .ref 62, .int x] (.ref 1000 :: st) w := je_rld rfl rfl
theorem eL_658 : jr_ev (pL xs L) 658 [.ref 1000, .ref 0, .ref 62, .int x] st w = jr_ev (pL xs L) 659 [.ref 1000, .ref 0, .ref 62, .int x] (.int x :: st) w := je_ild rfl rfl
theorem eL_659 {ls : List Value} : jr_ev (pL xs L) 659 ls st w = jr_ev (pL xs L) 660 ls ((.int (nI 2)) :: st) w := je_k rfl
theorem eL_660 {ls : List Value} : jr_ev (pL xs L) 660 ls (.int y :: .int z :: st) w = jr_ev (pL xs L) 661 ls (.int (z + y) :: st) w := je_bin (f := fun x y => x + y) rfl
theorem eL_661 {ls : List Value} {i : Nat} (hi : i < L) (hL : L < 2 ^ 31) : jr_ev (pL xs L) 661 ls (.int (nI i) :: .ref 1000 :: st) (jl_w mem lm) = jr_ev (pL xs L) 662 ls (.int (xs i) :: st) (jl_w mem lm) := je_sl rfl hi hL
theorem eL_662 {ls : List Value} {a1 a2 : Int32} {v : Int32} (h : xX4_rate [.ref 0, .int a1, .int a2] (jl_w mem lm) = some (some (.int v), jl_w mem' lm')) : jr_ev (pL xs L) 662 ls [.int a2, .int a1, .ref 0] (jl_w mem lm) = jr_ev (pL xs L) 665 ls [.int v] (jl_w mem' lm') := je_cv (P := pL xs L) (pc := 662) (n := 665) (ci := 4) (na := 3) (st := [.int a2, .int a1, .ref 0]) (st' := []) (av := [.int a1, .int a2]) rfl (by decide) ⟨Nat.le_of_ble_eq_true rfl, rfl, rfl⟩ (Nat.le_of_ble_eq_true rfl) rfl h
theorem eL_665 : jr_ev (pL xs L) 665 [.ref 1000, .ref 0, .ref 62, .int x] st w = jr_ev (pL xs L) 666 [.ref 1000, .ref 0, .ref 62, .int x] (.ref 62 :: st) w := je_rld rfl rfl
theorem eL_666 : jr_ev (pL xs L) 666 [.ref 1000, .ref 0, .ref 62, .int x] st w = jr_ev (pL xs L) 667 [.ref 1000, .ref 0, .ref 62, .int x] (.ref 1000 :: st) w := je_rld rfl rfl
theorem eL_667 : jr_ev (pL xs L) 667 [.ref 1000, .ref 0, .ref 62, .int x] st w = jr_ev (pL xs L) 668 [.ref 1000, .ref 0, .ref 62, .int x] (.int x :: st) w := je_ild rfl rfl
theorem eL_668 {ls : List Value} : jr_ev (pL xs L) 668 ls st w = jr_ev (pL xs L) 669 ls ((.int (nI 1)) :: st) w := je_k rfl
theorem eL_669 {ls : List Value} : jr_ev (pL xs L) 669 ls (.int y :: .int z :: st) w = jr_ev (pL xs L) 670 ls (.int (z + y) :: st) w := je_bin (f := fun x y => x + y) rfl
theorem eL_670 {ls : List Value} {i : Nat} (hi : i < L) (hL : L < 2 ^ 31) : jr_ev (pL xs L) 670 ls (.int (nI i) :: .ref 1000 :: st) (jl_w mem lm) = jr_ev (pL xs L) 671 ls (.int (xs i) :: st) (jl_w mem lm) := je_sl rfl hi hL
theorem eL_671 : jr_ev (pL xs L) 671 [.ref 1000, .ref 0, .ref 62, .int x] st w = jr_ev (pL xs L) 672 [.ref 1000, .ref 0, .ref 62, .int x] (.ref 1000 :: st) w := je_rld rfl rfl
theorem eL_672 : jr_ev (pL xs L) 672 [.ref 1000, .ref 0, .ref 62, .int x] st w = jr_ev (pL xs L) 673 [.ref 1000, .ref 0, .ref 62, .int x] (.int x :: st) w := je_ild rfl rfl
theorem eL_673 {ls : List Value} : jr_ev (pL xs L) 673 ls st w = jr_ev (pL xs L) 674 ls ((.int (nI 2)) :: st) w := je_k rfl
theorem eL_674 {ls : List Value} : jr_ev (pL xs L) 674 ls (.int y :: .int z :: st) w = jr_ev (pL xs L) 675 ls (.int (z + y) :: st) w := je_bin (f := fun x y => x + y) rfl
theorem eL_675 {ls : List Value} {i : Nat} (hi : i < L) (hL : L < 2 ^ 31) : jr_ev (pL xs L) 675 ls (.int (nI i) :: .ref 1000 :: st) (jl_w mem lm) = jr_ev (pL xs L) 676 ls (.int (xs i) :: st) (jl_w mem lm) := je_sl rfl hi hL
theorem eL_676 {ls : List Value} {a1 a2 : Int32} {v : Int32} (h : xX5_rate [.ref 62, .int a1, .int a2] (jl_w mem lm) = some (some (.int v), jl_w mem' lm')) : jr_ev (pL xs L) 676 ls [.int a2, .int a1, .ref 62, .int y] (jl_w mem lm) = jr_ev (pL xs L) 679 ls [.int v, .int y] (jl_w mem' lm') := je_cv (P := pL xs L) (pc := 676) (n := 679) (ci := 5) (na := 3) (st := [.int a2, .int a1, .ref 62, .int y]) (st' := [.int y]) (av := [.int a1, .int a2]) rfl (by decide) ⟨Nat.le_of_ble_eq_true rfl, rfl, rfl⟩ (Nat.le_of_ble_eq_true rfl) rfl h
theorem eL_679 {ls : List Value} : jr_ev (pL xs L) 679 ls (.int y :: .int z :: st) w = if z = y then jr_ev (pL xs L) 767 ls st w else jr_ev (pL xs L) 682 ls st w := je_ic (c := fun x y => x = y) rfl
theorem eL_682 {ls : List Value} : jr_ev (pL xs L) 682 ls st w = jr_ev (pL xs L) 683 ls ((.int (nI 0)) :: st) w := je_k rfl
theorem eL_684 : jr_ev (pL xs L) 684 [.ref 1000, .ref 0, .ref 62, .int x] st w = jr_ev (pL xs L) 685 [.ref 1000, .ref 0, .ref 62, .int x] (.ref 0 :: st) w := je_rld rfl rfl
theorem eL_685 : jr_ev (pL xs L) 685 [.ref 1000, .ref 0, .ref 62, .int x] st w = jr_ev (pL xs L) 686 [.ref 1000, .ref 0, .ref 62, .int x] (.ref 1000 :: st) w := je_rld rfl rfl
theorem eL_686 : jr_ev (pL xs L) 686 [.ref 1000, .ref 0, .ref 62, .int x] st w = jr_ev (pL xs L) 687 [.ref 1000, .ref 0, .ref 62, .int x] (.int x :: st) w := je_ild rfl rfl
theorem eL_687 {ls : List Value} : jr_ev (pL xs L) 687 ls st w = jr_ev (pL xs L) 688 ls ((.int (nI 1)) :: st) w := je_k rfl
theorem eL_688 {ls : List Value} : jr_ev (pL xs L) 688 ls (.int y :: .int z :: st) w = jr_ev (pL xs L) 689 ls (.int (z + y) :: st) w := je_bin (f := fun x y => x + y) rfl
theorem eL_689 {ls : List Value} {i : Nat} (hi : i < L) (hL : L < 2 ^ 31) : jr_ev (pL xs L) 689 ls (.int (nI i) :: .ref 1000 :: st) (jl_w mem lm) = jr_ev (pL xs L) 690 ls (.int (xs i) :: st) (jl_w mem lm) := je_sl rfl hi hL
theorem eL_690 {ls : List Value} {a1 : Int32} {v : Int32} (h : xX4_keep [.ref 0, .int a1] (jl_w mem lm) = some (some (.int v), jl_w mem' lm')) : jr_ev (pL xs L) 690 ls [.int a1, .ref 0] (jl_w mem lm) = jr_ev (pL xs L) 693 ls [.int v] (jl_w mem' lm') := je_cv (P := pL xs L) (pc := 690) (n := 693) (ci := 4) (na := 2) (st := [.int a1, .ref 0]) (st' := []) (av := [.int a1]) rfl (by decide) ⟨Nat.le_of_ble_eq_true rfl, rfl, rfl⟩ (Nat.le_of_ble_eq_true rfl) rfl h
theorem eL_693 : jr_ev (pL xs L) 693 [.ref 1000, .ref 0, .ref 62, .int x] st w = jr_ev (pL xs L) 694 [.ref 1000, .ref 0, .ref 62, .int x] (.ref 62 :: st) w := je_rld rfl rfl
theorem eL_694 : jr_ev (pL xs L) 694 [.ref 1000, .ref 0, .ref 62, .int x] st w = jr_ev (pL xs L) 695 [.ref 1000, .ref 0, .ref 62, .int x] (.ref 1000 :: st) w := je_rld rfl rfl
theorem eL_695 : jr_ev (pL xs L) 695 [.ref 1000, .ref 0, .ref 62, .int x] st w = jr_ev (pL xs L) 696 [.ref 1000, .ref 0, .ref 62, .int x] (.int x :: st) w := je_ild rfl rfl
theorem eL_696 {ls : List Value} : jr_ev (pL xs L) 696 ls st w = jr_ev (pL xs L) 697 ls ((.int (nI 1)) :: st) w := je_k rfl
theorem eL_697 {ls : List Value} : jr_ev (pL xs L) 697 ls (.int y :: .int z :: st) w = jr_ev (pL xs L) 698 ls (.int (z + y) :: st) w := je_bin (f := fun x y => x + y) rfl
theorem eL_698 {ls : List Value} {i : Nat} (hi : i < L) (hL : L < 2 ^ 31) : jr_ev (pL xs L) 698 ls (.int (nI i) :: .ref 1000 :: st) (jl_w mem lm) = jr_ev (pL xs L) 699 ls (.int (xs i) :: st) (jl_w mem lm) := je_sl rfl hi hL
theorem eL_699 {ls : List Value} {a1 : Int32} {v : Int32} (h : xX5_keep [.ref 62, .int a1] (jl_w mem lm) = some (some (.int v), jl_w mem' lm')) : jr_ev (pL xs L) 699 ls [.int a1, .ref 62, .int y] (jl_w mem lm) = jr_ev (pL xs L) 702 ls [.int v, .int y] (jl_w mem' lm') := je_cv (P := pL xs L) (pc := 699) (n := 702) (ci := 5) (na := 2) (st := [.int a1, .ref 62, .int y]) (st' := [.int y]) (av := [.int a1]) rfl (by decide) ⟨Nat.le_of_ble_eq_true rfl, rfl, rfl⟩ (Nat.le_of_ble_eq_true rfl) rfl h
theorem eL_702 {ls : List Value} : jr_ev (pL xs L) 702 ls (.int y :: .int z :: st) w = if z = y then jr_ev (pL xs L) 767 ls st w else jr_ev (pL xs L) 705 ls st w := je_ic (c := fun x y => x = y) rfl
theorem eL_705 {ls : List Value} : jr_ev (pL xs L) 705 ls st w = jr_ev (pL xs L) 706 ls ((.int (nI 0)) :: st) w := je_k rfl
theorem eL_707 : jr_ev (pL xs L) 707 [.ref 1000, .ref 0, .ref 62, .int x] st w = jr_ev (pL xs L) 708 [.ref 1000, .ref 0, .ref 62, .int x] (.ref 0 :: st) w := je_rld rfl rfl
theorem eL_708 : jr_ev (pL xs L) 708 [.ref 1000, .ref 0, .ref 62, .int x] st w = jr_ev (pL xs L) 709 [.ref 1000, .ref 0, .ref 62, .int x] (.ref 1000 :: st) w := je_rld rfl rfl
theorem eL_709 : jr_ev (pL xs L) 709 [.ref 1000, .ref 0, .ref 62, .int x] st w = jr_ev (pL xs L) 710 [.ref 1000, .ref 0, .ref 62, .int x] (.int x :: st) w := je_ild rfl rfl
theorem eL_710 {ls : List Value} : jr_ev (pL xs L) 710 ls st w = jr_ev (pL xs L) 711 ls ((.int (nI 1)) :: st) w := je_k rfl
theorem eL_711 {ls : List Value} : jr_ev (pL xs L) 711 ls (.int y :: .int z :: st) w = jr_ev (pL xs L) 712 ls (.int (z + y) :: st) w := je_bin (f := fun x y => x + y) rfl
theorem eL_712 {ls : List Value} {i : Nat} (hi : i < L) (hL : L < 2 ^ 31) : jr_ev (pL xs L) 712 ls (.int (nI i) :: .ref 1000 :: st) (jl_w mem lm) = jr_ev (pL xs L) 713 ls (.int (xs i) :: st) (jl_w mem lm) := je_sl rfl hi hL
theorem eL_713 {ls : List Value} {a1 : Int32} {v : Int32} (h : xX4_back [.ref 0, .int a1] (jl_w mem lm) = some (some (.int v), jl_w mem' lm')) : jr_ev (pL xs L) 713 ls [.int a1, .ref 0] (jl_w mem lm) = jr_ev (pL xs L) 716 ls [.int v] (jl_w mem' lm') := je_cv (P := pL xs L) (pc := 713) (n := 716) (ci := 4) (na := 2) (st := [.int a1, .ref 0]) (st' := []) (av := [.int a1]) rfl (by decide) ⟨Nat.le_of_ble_eq_true rfl, rfl, rfl⟩ (Nat.le_of_ble_eq_true rfl) rfl h
theorem eL_716 : jr_ev (pL xs L) 716 [.ref 1000, .ref 0, .ref 62, .int x] st w = jr_ev (pL xs L) 717 [.ref 1000, .ref 0, .ref 62, .int x] (.ref 62 :: st) w := je_rld rfl rfl
theorem eL_717 : jr_ev (pL xs L) 717 [.ref 1000, .ref 0, .ref 62, .int x] st w = jr_ev (pL xs L) 718 [.ref 1000, .ref 0, .ref 62, .int x] (.ref 1000 :: st) w := je_rld rfl rfl
theorem eL_718 : jr_ev (pL xs L) 718 [.ref 1000, .ref 0, .ref 62, .int x] st w = jr_ev (pL xs L) 719 [.ref 1000, .ref 0, .ref 62, .int x] (.int x :: st) w := je_ild rfl rfl
theorem eL_719 {ls : List Value} : jr_ev (pL xs L) 719 ls st w = jr_ev (pL xs L) 720 ls ((.int (nI 1)) :: st) w := je_k rfl
theorem eL_720 {ls : List Value} : jr_ev (pL xs L) 720 ls (.int y :: .int z :: st) w = jr_ev (pL xs L) 721 ls (.int (z + y) :: st) w := je_bin (f := fun x y => x + y) rfl
theorem eL_721 {ls : List Value} {i : Nat} (hi : i < L) (hL : L < 2 ^ 31) : jr_ev (pL xs L) 721 ls (.int (nI i) :: .ref 1000 :: st) (jl_w mem lm) = jr_ev (pL xs L) 722 ls (.int (xs i) :: st) (jl_w mem lm) := je_sl rfl hi hL
theorem eL_722 {ls : List Value} {a1 : Int32} {v : Int32} (h : xX5_back [.ref 62, .int a1] (jl_w mem lm) = some (some (.int v), jl_w mem' lm')) : jr_ev (pL xs L) 722 ls [.int a1, .ref 62, .int y] (jl_w mem lm) = jr_ev (pL xs L) 725 ls [.int v, .int y] (jl_w mem' lm') := je_cv (P := pL xs L) (pc := 722) (n := 725) (ci := 5) (na := 2) (st := [.int a1, .ref 62, .int y]) (st' := [.int y]) (av := [.int a1]) rfl (by decide) ⟨Nat.le_of_ble_eq_true rfl, rfl, rfl⟩ (Nat.le_of_ble_eq_true rfl) rfl h
theorem eL_725 {ls : List Value} : jr_ev (pL xs L) 725 ls (.int y :: .int z :: st) w = if z = y then jr_ev (pL xs L) 767 ls st w else jr_ev (pL xs L) 728 ls st w := je_ic (c := fun x y => x = y) rfl
theorem eL_728 {ls : List Value} : jr_ev (pL xs L) 728 ls st w = jr_ev (pL xs L) 729 ls ((.int (nI 0)) :: st) w := je_k rfl
theorem eL_730 : jr_ev (pL xs L) 730 [.ref 1000, .ref 0, .ref 62, .int x] st w = jr_ev (pL xs L) 731 [.ref 1000, .ref 0, .ref 62, .int x] (.ref 0 :: st) w := je_rld rfl rfl
theorem eL_731 : jr_ev (pL xs L) 731 [.ref 1000, .ref 0, .ref 62, .int x] st w = jr_ev (pL xs L) 732 [.ref 1000, .ref 0, .ref 62, .int x] (.ref 1000 :: st) w := je_rld rfl rfl
theorem eL_732 : jr_ev (pL xs L) 732 [.ref 1000, .ref 0, .ref 62, .int x] st w = jr_ev (pL xs L) 733 [.ref 1000, .ref 0, .ref 62, .int x] (.int x :: st) w := je_ild rfl rfl
theorem eL_733 {ls : List Value} : jr_ev (pL xs L) 733 ls st w = jr_ev (pL xs L) 734 ls ((.int (nI 1)) :: st) w := je_k rfl
theorem eL_734 {ls : List Value} : jr_ev (pL xs L) 734 ls (.int y :: .int z :: st) w = jr_ev (pL xs L) 735 ls (.int (z + y) :: st) w := je_bin (f := fun x y => x + y) rfl
theorem eL_735 {ls : List Value} {i : Nat} (hi : i < L) (hL : L < 2 ^ 31) : jr_ev (pL xs L) 735 ls (.int (nI i) :: .ref 1000 :: st) (jl_w mem lm) = jr_ev (pL xs L) 736 ls (.int (xs i) :: st) (jl_w mem lm) := je_sl rfl hi hL
theorem eL_736 {ls : List Value} {a1 : Int32} {v : Int32} (h : xX4_count [.ref 0, .int a1] (jl_w mem lm) = some (some (.int v), jl_w mem' lm')) : jr_ev (pL xs L) 736 ls [.int a1, .ref 0] (jl_w mem lm) = jr_ev (pL xs L) 739 ls [.int v] (jl_w mem' lm') := je_cv (P := pL xs L) (pc := 736) (n := 739) (ci := 4) (na := 2) (st := [.int a1, .ref 0]) (st' := []) (av := [.int a1]) rfl (by decide) ⟨Nat.le_of_ble_eq_true rfl, rfl, rfl⟩ (Nat.le_of_ble_eq_true rfl) rfl h
theorem eL_739 : jr_ev (pL xs L) 739 [.ref 1000, .ref 0, .ref 62, .int x] st w = jr_ev (pL xs L) 740 [.ref 1000, .ref 0, .ref 62, .int x] (.ref 62 :: st) w := je_rld rfl rfl
theorem eL_740 : jr_ev (pL xs L) 740 [.ref 1000, .ref 0, .ref 62, .int x] st w = jr_ev (pL xs L) 741 [.ref 1000, .ref 0, .ref 62, .int x] (.ref 1000 :: st) w := je_rld rfl rfl
theorem eL_741 : jr_ev (pL xs L) 741 [.ref 1000, .ref 0, .ref 62, .int x] st w = jr_ev (pL xs L) 742 [.ref 1000, .ref 0, .ref 62, .int x] (.int x :: st) w := je_ild rfl rfl
theorem eL_742 {ls : List Value} : jr_ev (pL xs L) 742 ls st w = jr_ev (pL xs L) 743 ls ((.int (nI 1)) :: st) w := je_k rfl
theorem eL_743 {ls : List Value} : jr_ev (pL xs L) 743 ls (.int y :: .int z :: st) w = jr_ev (pL xs L) 744 ls (.int (z + y) :: st) w := je_bin (f := fun x y => x + y) rfl
theorem eL_744 {ls : List Value} {i : Nat} (hi : i < L) (hL : L < 2 ^ 31) : jr_ev (pL xs L) 744 ls (.int (nI i) :: .ref 1000 :: st) (jl_w mem lm) = jr_ev (pL xs L) 745 ls (.int (xs i) :: st) (jl_w mem lm) := je_sl rfl hi hL
theorem eL_745 {ls : List Value} {a1 : Int32} {v : Int32} (h : xX5_count [.ref 62, .int a1] (jl_w mem lm) = some (some (.int v), jl_w mem' lm')) : jr_ev (pL xs L) 745 ls [.int a1, .ref 62, .int y] (jl_w mem lm) = jr_ev (pL xs L) 748 ls [.int v, .int y] (jl_w mem' lm') := je_cv (P := pL xs L) (pc := 745) (n := 748) (ci := 5) (na := 2) (st := [.int a1, .ref 62, .int y]) (st' := [.int y]) (av := [.int a1]) rfl (by decide) ⟨Nat.le_of_ble_eq_true rfl, rfl, rfl⟩ (Nat.le_of_ble_eq_true rfl) rfl h
theorem eL_748 {ls : List Value} : jr_ev (pL xs L) 748 ls (.int y :: .int z :: st) w = if z = y then jr_ev (pL xs L) 767 ls st w else jr_ev (pL xs L) 751 ls st w := je_ic (c := fun x y => x = y) rfl
theorem eL_751 {ls : List Value} : jr_ev (pL xs L) 751 ls st w = jr_ev (pL xs L) 752 ls ((.int (nI 0)) :: st) w := je_k rfl
theorem eL_753 : jr_ev (pL xs L) 753 [.ref 1000, .ref 0, .ref 62, .int x] st w = jr_ev (pL xs L) 754 [.ref 1000, .ref 0, .ref 62, .int x] (.ref 0 :: st) w := je_rld rfl rfl
theorem eL_754 {ls : List Value} {v : Int64} (h : xX4_trace [.ref 0] (jl_w mem lm) = some (some (.long v), jl_w mem' lm')) : jr_ev (pL xs L) 754 ls [.ref 0] (jl_w mem lm) = jr_ev (pL xs L) 757 ls [.long v] (jl_w mem' lm') := je_cv (P := pL xs L) (pc := 754) (n := 757) (ci := 4) (na := 1) (st := [.ref 0]) (st' := []) (av := []) rfl (by decide) ⟨Nat.le_of_ble_eq_true rfl, rfl, rfl⟩ (Nat.le_of_ble_eq_true rfl) rfl h
theorem eL_757 : jr_ev (pL xs L) 757 [.ref 1000, .ref 0, .ref 62, .int x] st w = jr_ev (pL xs L) 758 [.ref 1000, .ref 0, .ref 62, .int x] (.ref 62 :: st) w := je_rld rfl rfl
theorem eL_758 {ls : List Value} {v : Int64} {l0 : Int64} (h : xX5_trace [.ref 62] (jl_w mem lm) = some (some (.long v), jl_w mem' lm')) : jr_ev (pL xs L) 758 ls [.ref 62, .long l0] (jl_w mem lm) = jr_ev (pL xs L) 761 ls [.long v, .long l0] (jl_w mem' lm') := je_cv (P := pL xs L) (pc := 758) (n := 761) (ci := 5) (na := 1) (st := [.ref 62, .long l0]) (st' := [.long l0]) (av := []) rfl (by decide) ⟨Nat.le_of_ble_eq_true rfl, rfl, rfl⟩ (Nat.le_of_ble_eq_true rfl) rfl h
theorem eL_761 {ls : List Value} {a b : Int64} : jr_ev (pL xs L) 761 ls (.long b :: .long a :: st) w = jr_ev (pL xs L) 762 ls (.int (lg_cmp a b) :: st) w := je_lcmp rfl
theorem eL_762 {ls : List Value} : jr_ev (pL xs L) 762 ls (.int z :: st) w = if z = 0 then jr_ev (pL xs L) 767 ls st w else jr_ev (pL xs L) 765 ls st w := je_if (c := fun x => x = 0) rfl
theorem eL_765 {ls : List Value} : jr_ev (pL xs L) 765 ls st w = jr_ev (pL xs L) 766 ls ((.int (nI 0)) :: st) w := je_k rfl
theorem eL_767 : jr_ev (pL xs L) 767 [.ref 1000, .ref 0, .ref 62, .int x] st w = jr_ev (pL xs L) 770 [.ref 1000, .ref 0, .ref 62, .int (x + nI 5)] st w := je_inc rfl rfl rfl
theorem eL_770 {ls : List Value} : jr_ev (pL xs L) 770 ls st w = jr_ev (pL xs L) 18 ls st w := je_go rfl
theorem eL_773 {ls : List Value} : jr_ev (pL xs L) 773 ls st w = jr_ev (pL xs L) 774 ls ((.int (nI 1)) :: st) w := je_k rfl
theorem eL_774 {ls : List Value} : jr_ev (pL xs L) 774 ls [.int (nI 1)] w = some (some (.int (nI 1)), w) := je_zret rfl rfl
theorem L_type {i : Nat} (hi : i + 4 < L) (hL : L < 2 ^ 31) (hJ : jJ mem lm) : ∃ mem2 lm2, jr_ev (pL xs L) 144 [.ref 1000, .ref 0, .ref 62, .int (nI i)] [] (jl_w mem lm) = jr_ev (pL xs L) 767 [.ref 1000, .ref 0, .ref 62, .int (nI i)] [] (jl_w mem2 lm2) ∧ jJ mem2 lm2 := by
  obtain ⟨v, mem1, lm1, mem2, lm2, e1, e2, hJ2⟩ := J_type (xs (i + 1)) mem lm hJ
  refine ⟨mem2, lm2, ?_, hJ2⟩
  have h1 : i + 1 < L := by omega
  simp (disch := assumption) only [eL_144, eL_145, eL_146, eL_147, eL_148, eL_149, nI_add]
  rw [eL_150 e1]
  simp (disch := assumption) only [eL_153, eL_154, eL_155, eL_156, eL_157, eL_158, nI_add]
  rw [eL_159 e2]
  simp only [eL_162, if_true]
theorem L_clear {i : Nat} (hi : i + 4 < L) (hL : L < 2 ^ 31) (hJ : jJ mem lm) : ∃ mem2 lm2, jr_ev (pL xs L) 167 [.ref 1000, .ref 0, .ref 62, .int (nI i)] [] (jl_w mem lm) = jr_ev (pL xs L) 767 [.ref 1000, .ref 0, .ref 62, .int (nI i)] [] (jl_w mem2 lm2) ∧ jJ mem2 lm2 := by
  obtain ⟨v, mem1, lm1, mem2, lm2, e1, e2, hJ2⟩ := J_clear  mem lm hJ
  refine ⟨mem2, lm2, ?_, hJ2⟩
  simp (disch := assumption) only [eL_167, nI_add]
  rw [eL_168 e1]
  simp (disch := assumption) only [eL_171, nI_add]
  rw [eL_172 e2]
  simp only [eL_175, if_true]
theorem L_chime {i : Nat} (hi : i + 4 < L) (hL : L < 2 ^ 31) (hJ : jJ mem lm) : ∃ mem2 lm2, jr_ev (pL xs L) 180 [.ref 1000, .ref 0, .ref 62, .int (nI i)] [] (jl_w mem lm) = jr_ev (pL xs L) 767 [.ref 1000, .ref 0, .ref 62, .int (nI i)] [] (jl_w mem2 lm2) ∧ jJ mem2 lm2 := by
  obtain ⟨v, mem1, lm1, mem2, lm2, e1, e2, hJ2⟩ := J_chime  mem lm hJ
  refine ⟨mem2, lm2, ?_, hJ2⟩
  simp (disch := assumption) only [eL_180, nI_add]
  rw [eL_181 e1]
  simp (disch := assumption) only [eL_184, nI_add]
  rw [eL_185 e2]
  simp only [eL_188, if_true]
theorem L_rod {i : Nat} (hi : i + 4 < L) (hL : L < 2 ^ 31) (hJ : jJ mem lm) : ∃ mem2 lm2, jr_ev (pL xs L) 193 [.ref 1000, .ref 0, .ref 62, .int (nI i)] [] (jl_w mem lm) = jr_ev (pL xs L) 767 [.ref 1000, .ref 0, .ref 62, .int (nI i)] [] (jl_w mem2 lm2) ∧ jJ mem2 lm2 := by
  obtain ⟨v, mem1, lm1, mem2, lm2, e1, e2, hJ2⟩ := J_rod (xs (i + 1)) (xs (i + 2)) mem lm hJ
  refine ⟨mem2, lm2, ?_, hJ2⟩
  have h1 : i + 1 < L := by omega
  have h2 : i + 2 < L := by omega
  simp (disch := assumption) only [eL_193, eL_194, eL_195, eL_196, eL_197, eL_198, eL_199, eL_200, eL_201, eL_202, eL_203, nI_add]
  rw [eL_204 e1]
  simp (disch := assumption) only [eL_207, eL_208, eL_209, eL_210, eL_211, eL_212, eL_213, eL_214, eL_215, eL_216, eL_217, nI_add]
  rw [eL_218 e2]
  simp only [eL_221, if_true]
theorem L_side {i : Nat} (hi : i + 4 < L) (hL : L < 2 ^ 31) (hJ : jJ mem lm) : ∃ mem2 lm2, jr_ev (pL xs L) 226 [.ref 1000, .ref 0, .ref 62, .int (nI i)] [] (jl_w mem lm) = jr_ev (pL xs L) 767 [.ref 1000, .ref 0, .ref 62, .int (nI i)] [] (jl_w mem2 lm2) ∧ jJ mem2 lm2 := by
  obtain ⟨v, mem1, lm1, mem2, lm2, e1, e2, hJ2⟩ := J_side (xs (i + 1)) mem lm hJ
  refine ⟨mem2, lm2, ?_, hJ2⟩
  have h1 : i + 1 < L := by omega
  simp (disch := assumption) only [eL_226, eL_227, eL_228, eL_229, eL_230, eL_231, nI_add]
  rw [eL_232 e1]
  simp (disch := assumption) only [eL_235, eL_236, eL_237, eL_238, eL_239, eL_240, nI_add]
  rw [eL_241 e2]
  simp only [eL_244, if_true]
theorem L_now {i : Nat} (hi : i + 4 < L) (hL : L < 2 ^ 31) (hJ : jJ mem lm) : ∃ mem2 lm2, jr_ev (pL xs L) 249 [.ref 1000, .ref 0, .ref 62, .int (nI i)] [] (jl_w mem lm) = jr_ev (pL xs L) 767 [.ref 1000, .ref 0, .ref 62, .int (nI i)] [] (jl_w mem2 lm2) ∧ jJ mem2 lm2 := by
  obtain ⟨v, mem1, lm1, mem2, lm2, e1, e2, hJ2⟩ := J_now (xs (i + 1)) mem lm hJ
  refine ⟨mem2, lm2, ?_, hJ2⟩
  have h1 : i + 1 < L := by omega
  simp (disch := assumption) only [eL_249, eL_250, eL_251, eL_252, eL_253, eL_254, nI_add]
  rw [eL_255 e1]
  simp (disch := assumption) only [eL_258, eL_259, eL_260, eL_261, eL_262, eL_263, nI_add]
  rw [eL_264 e2]
  simp only [eL_267, if_true]
theorem L_blows {i : Nat} (hi : i + 4 < L) (hL : L < 2 ^ 31) (hJ : jJ mem lm) : ∃ mem2 lm2, jr_ev (pL xs L) 272 [.ref 1000, .ref 0, .ref 62, .int (nI i)] [] (jl_w mem lm) = jr_ev (pL xs L) 767 [.ref 1000, .ref 0, .ref 62, .int (nI i)] [] (jl_w mem2 lm2) ∧ jJ mem2 lm2 := by
  obtain ⟨v, mem1, lm1, mem2, lm2, e1, e2, hJ2⟩ := J_blows (xs (i + 1)) (xs (i + 2)) mem lm hJ
  refine ⟨mem2, lm2, ?_, hJ2⟩
  have h1 : i + 1 < L := by omega
  have h2 : i + 2 < L := by omega
  simp (disch := assumption) only [eL_272, eL_273, eL_274, eL_275, eL_276, eL_277, eL_278, eL_279, eL_280, eL_281, eL_282, nI_add]
  rw [eL_283 e1]
  simp (disch := assumption) only [eL_286, eL_287, eL_288, eL_289, eL_290, eL_291, eL_292, eL_293, eL_294, eL_295, eL_296, nI_add]
  rw [eL_297 e2]
  simp only [eL_300, if_true]
theorem L_calms {i : Nat} (hi : i + 4 < L) (hL : L < 2 ^ 31) (hJ : jJ mem lm) : ∃ mem2 lm2, jr_ev (pL xs L) 305 [.ref 1000, .ref 0, .ref 62, .int (nI i)] [] (jl_w mem lm) = jr_ev (pL xs L) 767 [.ref 1000, .ref 0, .ref 62, .int (nI i)] [] (jl_w mem2 lm2) ∧ jJ mem2 lm2 := by
  obtain ⟨v, mem1, lm1, mem2, lm2, e1, e2, hJ2⟩ := J_calms  mem lm hJ
  refine ⟨mem2, lm2, ?_, hJ2⟩
  simp (disch := assumption) only [eL_305, nI_add]
  rw [eL_306 e1]
  simp (disch := assumption) only [eL_309, nI_add]
  rw [eL_310 e2]
  simp only [eL_313, if_true]
theorem L_changes {i : Nat} (hi : i + 4 < L) (hL : L < 2 ^ 31) (hJ : jJ mem lm) : ∃ mem2 lm2, jr_ev (pL xs L) 318 [.ref 1000, .ref 0, .ref 62, .int (nI i)] [] (jl_w mem lm) = jr_ev (pL xs L) 767 [.ref 1000, .ref 0, .ref 62, .int (nI i)] [] (jl_w mem2 lm2) ∧ jJ mem2 lm2 := by
  obtain ⟨v, mem1, lm1, mem2, lm2, e1, e2, hJ2⟩ := J_changes (xs (i + 1)) (xs (i + 2)) mem lm hJ
  refine ⟨mem2, lm2, ?_, hJ2⟩
  have h1 : i + 1 < L := by omega
  have h2 : i + 2 < L := by omega
  simp (disch := assumption) only [eL_318, eL_319, eL_320, eL_321, eL_322, eL_323, eL_324, eL_325, eL_326, eL_327, eL_328, nI_add]
  rw [eL_329 e1]
  simp (disch := assumption) only [eL_332, eL_333, eL_334, eL_335, eL_336, eL_337, eL_338, eL_339, eL_340, eL_341, eL_342, nI_add]
  rw [eL_343 e2]
  simp only [eL_346, if_true]
theorem L_holds {i : Nat} (hi : i + 4 < L) (hL : L < 2 ^ 31) (hJ : jJ mem lm) : ∃ mem2 lm2, jr_ev (pL xs L) 351 [.ref 1000, .ref 0, .ref 62, .int (nI i)] [] (jl_w mem lm) = jr_ev (pL xs L) 767 [.ref 1000, .ref 0, .ref 62, .int (nI i)] [] (jl_w mem2 lm2) ∧ jJ mem2 lm2 := by
  obtain ⟨v, mem1, lm1, mem2, lm2, e1, e2, hJ2⟩ := J_holds (xs (i + 1)) mem lm hJ
  refine ⟨mem2, lm2, ?_, hJ2⟩
  have h1 : i + 1 < L := by omega
  simp (disch := assumption) only [eL_351, eL_352, eL_353, eL_354, eL_355, eL_356, nI_add]
  rw [eL_357 e1]
  simp (disch := assumption) only [eL_360, eL_361, eL_362, eL_363, eL_364, eL_365, nI_add]
  rw [eL_366 e2]
  simp only [eL_369, if_true]
theorem L_undo {i : Nat} (hi : i + 4 < L) (hL : L < 2 ^ 31) (hJ : jJ mem lm) : ∃ mem2 lm2, jr_ev (pL xs L) 374 [.ref 1000, .ref 0, .ref 62, .int (nI i)] [] (jl_w mem lm) = jr_ev (pL xs L) 767 [.ref 1000, .ref 0, .ref 62, .int (nI i)] [] (jl_w mem2 lm2) ∧ jJ mem2 lm2 := by
  obtain ⟨v, mem1, lm1, mem2, lm2, e1, e2, hJ2⟩ := J_undo  mem lm hJ
  refine ⟨mem2, lm2, ?_, hJ2⟩
  simp (disch := assumption) only [eL_374, nI_add]
  rw [eL_375 e1]
  simp (disch := assumption) only [eL_378, nI_add]
  rw [eL_379 e2]
  simp only [eL_382, if_true]
theorem L_comes {i : Nat} (hi : i + 4 < L) (hL : L < 2 ^ 31) (hJ : jJ mem lm) : ∃ mem2 lm2, jr_ev (pL xs L) 387 [.ref 1000, .ref 0, .ref 62, .int (nI i)] [] (jl_w mem lm) = jr_ev (pL xs L) 767 [.ref 1000, .ref 0, .ref 62, .int (nI i)] [] (jl_w mem2 lm2) ∧ jJ mem2 lm2 := by
  obtain ⟨v, mem1, lm1, mem2, lm2, e1, e2, hJ2⟩ := J_comes (xs (i + 1)) (xs (i + 2)) mem lm hJ
  refine ⟨mem2, lm2, ?_, hJ2⟩
  have h1 : i + 1 < L := by omega
  have h2 : i + 2 < L := by omega
  simp (disch := assumption) only [eL_387, eL_388, eL_389, eL_390, eL_391, eL_392, eL_393, eL_394, eL_395, eL_396, eL_397, nI_add]
  rw [eL_398 e1]
  simp (disch := assumption) only [eL_401, eL_402, eL_403, eL_404, eL_405, eL_406, eL_407, eL_408, eL_409, eL_410, eL_411, nI_add]
  rw [eL_412 e2]
  simp only [eL_415, if_true]
theorem L_best {i : Nat} (hi : i + 4 < L) (hL : L < 2 ^ 31) (hJ : jJ mem lm) : ∃ mem2 lm2, jr_ev (pL xs L) 420 [.ref 1000, .ref 0, .ref 62, .int (nI i)] [] (jl_w mem lm) = jr_ev (pL xs L) 767 [.ref 1000, .ref 0, .ref 62, .int (nI i)] [] (jl_w mem2 lm2) ∧ jJ mem2 lm2 := by
  obtain ⟨v, mem1, lm1, mem2, lm2, e1, e2, hJ2⟩ := J_best (xs (i + 1)) (xs (i + 2)) mem lm hJ
  refine ⟨mem2, lm2, ?_, hJ2⟩
  have h1 : i + 1 < L := by omega
  have h2 : i + 2 < L := by omega
  simp (disch := assumption) only [eL_420, eL_421, eL_422, eL_423, eL_424, eL_425, eL_426, eL_427, eL_428, eL_429, eL_430, nI_add]
  rw [eL_431 e1]
  simp (disch := assumption) only [eL_434, eL_435, eL_436, eL_437, eL_438, eL_439, eL_440, eL_441, eL_442, eL_443, eL_444, nI_add]
  rw [eL_445 e2]
  simp only [eL_448, if_true]
theorem L_swap {i : Nat} (hi : i + 4 < L) (hL : L < 2 ^ 31) (hJ : jJ mem lm) : ∃ mem2 lm2, jr_ev (pL xs L) 453 [.ref 1000, .ref 0, .ref 62, .int (nI i)] [] (jl_w mem lm) = jr_ev (pL xs L) 767 [.ref 1000, .ref 0, .ref 62, .int (nI i)] [] (jl_w mem2 lm2) ∧ jJ mem2 lm2 := by
  obtain ⟨v, mem1, lm1, mem2, lm2, e1, e2, hJ2⟩ := J_swap (xs (i + 1)) (xs (i + 2)) (xs (i + 3)) mem lm hJ
  refine ⟨mem2, lm2, ?_, hJ2⟩
  have h1 : i + 1 < L := by omega
  have h2 : i + 2 < L := by omega
  have h3 : i + 3 < L := by omega
  simp (disch := assumption) only [eL_453, eL_454, eL_455, eL_456, eL_457, eL_458, eL_459, eL_460, eL_461, eL_462, eL_463, eL_464, eL_465, eL_466, eL_467, eL_468, nI_add]
  rw [eL_469 e1]
  simp (disch := assumption) only [eL_472, eL_473, eL_474, eL_475, eL_476, eL_477, eL_478, eL_479, eL_480, eL_481, eL_482, eL_483, eL_484, eL_485, eL_486, eL_487, nI_add]
  rw [eL_488 e2]
  simp only [eL_491, if_true]
theorem L_odds {i : Nat} (hi : i + 4 < L) (hL : L < 2 ^ 31) (hJ : jJ mem lm) : ∃ mem2 lm2, jr_ev (pL xs L) 496 [.ref 1000, .ref 0, .ref 62, .int (nI i)] [] (jl_w mem lm) = jr_ev (pL xs L) 767 [.ref 1000, .ref 0, .ref 62, .int (nI i)] [] (jl_w mem2 lm2) ∧ jJ mem2 lm2 := by
  obtain ⟨v, mem1, lm1, mem2, lm2, e1, e2, hJ2⟩ := J_odds (xs (i + 1)) (xs (i + 2)) (xs (i + 3)) (xs (i + 4)) mem lm hJ
  refine ⟨mem2, lm2, ?_, hJ2⟩
  have h1 : i + 1 < L := by omega
  have h2 : i + 2 < L := by omega
  have h3 : i + 3 < L := by omega
  have h4 : i + 4 < L := by omega
  simp (disch := assumption) only [eL_496, eL_497, eL_498, eL_499, eL_500, eL_501, eL_502, eL_503, eL_504, eL_505, eL_506, eL_507, eL_508, eL_509, eL_510, eL_511, eL_512, eL_513, eL_514, eL_515, eL_516, nI_add]
  rw [eL_517 e1]
  simp (disch := assumption) only [eL_520, eL_521, eL_522, eL_523, eL_524, eL_525, eL_526, eL_527, eL_528, eL_529, eL_530, eL_531, eL_532, eL_533, eL_534, eL_535, eL_536, eL_537, eL_538, eL_539, eL_540, nI_add]
  rw [eL_541 e2]
  simp only [eL_544, if_true]
theorem L_hears {i : Nat} (hi : i + 4 < L) (hL : L < 2 ^ 31) (hJ : jJ mem lm) : ∃ mem2 lm2, jr_ev (pL xs L) 549 [.ref 1000, .ref 0, .ref 62, .int (nI i)] [] (jl_w mem lm) = jr_ev (pL xs L) 767 [.ref 1000, .ref 0, .ref 62, .int (nI i)] [] (jl_w mem2 lm2) ∧ jJ mem2 lm2 := by
  obtain ⟨v, mem1, lm1, mem2, lm2, e1, e2, hJ2⟩ := J_hears (xs (i + 1)) (xs (i + 2)) (xs (i + 3)) mem lm hJ
  refine ⟨mem2, lm2, ?_, hJ2⟩
  have h1 : i + 1 < L := by omega
  have h2 : i + 2 < L := by omega
  have h3 : i + 3 < L := by omega
  simp (disch := assumption) only [eL_549, eL_550, eL_551, eL_552, eL_553, eL_554, eL_555, eL_556, eL_557, eL_558, eL_559, eL_560, eL_561, eL_562, eL_563, eL_564, nI_add]
  rw [eL_565 e1]
  simp (disch := assumption) only [eL_568, eL_569, eL_570, eL_571, eL_572, eL_573, eL_574, eL_575, eL_576, eL_577, eL_578, eL_579, eL_580, eL_581, eL_582, eL_583, nI_add]
  rw [eL_584 e2]
  simp only [eL_587, if_true]
theorem L_forget {i : Nat} (hi : i + 4 < L) (hL : L < 2 ^ 31) (hJ : jJ mem lm) : ∃ mem2 lm2, jr_ev (pL xs L) 592 [.ref 1000, .ref 0, .ref 62, .int (nI i)] [] (jl_w mem lm) = jr_ev (pL xs L) 767 [.ref 1000, .ref 0, .ref 62, .int (nI i)] [] (jl_w mem2 lm2) ∧ jJ mem2 lm2 := by
  obtain ⟨v, mem1, lm1, mem2, lm2, e1, e2, hJ2⟩ := J_forget  mem lm hJ
  refine ⟨mem2, lm2, ?_, hJ2⟩
  simp (disch := assumption) only [eL_592, nI_add]
  rw [eL_593 e1]
  simp (disch := assumption) only [eL_596, nI_add]
  rw [eL_597 e2]
  simp only [eL_600, if_true]
theorem L_gusts {i : Nat} (hi : i + 4 < L) (hL : L < 2 ^ 31) (hJ : jJ mem lm) : ∃ mem2 lm2, jr_ev (pL xs L) 605 [.ref 1000, .ref 0, .ref 62, .int (nI i)] [] (jl_w mem lm) = jr_ev (pL xs L) 767 [.ref 1000, .ref 0, .ref 62, .int (nI i)] [] (jl_w mem2 lm2) ∧ jJ mem2 lm2 := by
  obtain ⟨v, mem1, lm1, mem2, lm2, e1, e2, hJ2⟩ := J_gusts (xs (i + 1)) mem lm hJ
  refine ⟨mem2, lm2, ?_, hJ2⟩
  have h1 : i + 1 < L := by omega
  simp (disch := assumption) only [eL_605, eL_606, eL_607, eL_608, eL_609, eL_610, nI_add]
  rw [eL_611 e1]
  simp (disch := assumption) only [eL_614, eL_615, eL_616, eL_617, eL_618, eL_619, nI_add]
  rw [eL_620 e2]
  simp only [eL_623, if_true]
theorem L_listen {i : Nat} (hi : i + 4 < L) (hL : L < 2 ^ 31) (hJ : jJ mem lm) : ∃ mem2 lm2, jr_ev (pL xs L) 628 [.ref 1000, .ref 0, .ref 62, .int (nI i)] [] (jl_w mem lm) = jr_ev (pL xs L) 767 [.ref 1000, .ref 0, .ref 62, .int (nI i)] [] (jl_w mem2 lm2) ∧ jJ mem2 lm2 := by
  obtain ⟨v, mem1, lm1, mem2, lm2, e1, e2, hJ2⟩ := J_listen (xs (i + 1)) mem lm hJ
  refine ⟨mem2, lm2, ?_, hJ2⟩
  have h1 : i + 1 < L := by omega
  simp (disch := assumption) only [eL_628, eL_629, eL_630, eL_631, eL_632, eL_633, nI_add]
  rw [eL_634 e1]
  simp (disch := assumption) only [eL_637, eL_638, eL_639, eL_640, eL_641, eL_642, nI_add]
  rw [eL_643 e2]
  simp only [eL_646, if_true]
theorem L_rate {i : Nat} (hi : i + 4 < L) (hL : L < 2 ^ 31) (hJ : jJ mem lm) : ∃ mem2 lm2, jr_ev (pL xs L) 651 [.ref 1000, .ref 0, .ref 62, .int (nI i)] [] (jl_w mem lm) = jr_ev (pL xs L) 767 [.ref 1000, .ref 0, .ref 62, .int (nI i)] [] (jl_w mem2 lm2) ∧ jJ mem2 lm2 := by
  obtain ⟨v, mem1, lm1, mem2, lm2, e1, e2, hJ2⟩ := J_rate (xs (i + 1)) (xs (i + 2)) mem lm hJ
  refine ⟨mem2, lm2, ?_, hJ2⟩
  have h1 : i + 1 < L := by omega
  have h2 : i + 2 < L := by omega
  simp (disch := assumption) only [eL_651, eL_652, eL_653, eL_654, eL_655, eL_656, eL_657, eL_658, eL_659, eL_660, eL_661, nI_add]
  rw [eL_662 e1]
  simp (disch := assumption) only [eL_665, eL_666, eL_667, eL_668, eL_669, eL_670, eL_671, eL_672, eL_673, eL_674, eL_675, nI_add]
  rw [eL_676 e2]
  simp only [eL_679, if_true]
theorem L_keep {i : Nat} (hi : i + 4 < L) (hL : L < 2 ^ 31) (hJ : jJ mem lm) : ∃ mem2 lm2, jr_ev (pL xs L) 684 [.ref 1000, .ref 0, .ref 62, .int (nI i)] [] (jl_w mem lm) = jr_ev (pL xs L) 767 [.ref 1000, .ref 0, .ref 62, .int (nI i)] [] (jl_w mem2 lm2) ∧ jJ mem2 lm2 := by
  obtain ⟨v, mem1, lm1, mem2, lm2, e1, e2, hJ2⟩ := J_keep (xs (i + 1)) mem lm hJ
  refine ⟨mem2, lm2, ?_, hJ2⟩
  have h1 : i + 1 < L := by omega
  simp (disch := assumption) only [eL_684, eL_685, eL_686, eL_687, eL_688, eL_689, nI_add]
  rw [eL_690 e1]
  simp (disch := assumption) only [eL_693, eL_694, eL_695, eL_696, eL_697, eL_698, nI_add]
  rw [eL_699 e2]
  simp only [eL_702, if_true]
theorem L_back {i : Nat} (hi : i + 4 < L) (hL : L < 2 ^ 31) (hJ : jJ mem lm) : ∃ mem2 lm2, jr_ev (pL xs L) 707 [.ref 1000, .ref 0, .ref 62, .int (nI i)] [] (jl_w mem lm) = jr_ev (pL xs L) 767 [.ref 1000, .ref 0, .ref 62, .int (nI i)] [] (jl_w mem2 lm2) ∧ jJ mem2 lm2 := by
  obtain ⟨v, mem1, lm1, mem2, lm2, e1, e2, hJ2⟩ := J_back (xs (i + 1)) mem lm hJ
  refine ⟨mem2, lm2, ?_, hJ2⟩
  have h1 : i + 1 < L := by omega
  simp (disch := assumption) only [eL_707, eL_708, eL_709, eL_710, eL_711, eL_712, nI_add]
  rw [eL_713 e1]
  simp (disch := assumption) only [eL_716, eL_717, eL_718, eL_719, eL_720, eL_721, nI_add]
  rw [eL_722 e2]
  simp only [eL_725, if_true]
theorem L_count {i : Nat} (hi : i + 4 < L) (hL : L < 2 ^ 31) (hJ : jJ mem lm) : ∃ mem2 lm2, jr_ev (pL xs L) 730 [.ref 1000, .ref 0, .ref 62, .int (nI i)] [] (jl_w mem lm) = jr_ev (pL xs L) 767 [.ref 1000, .ref 0, .ref 62, .int (nI i)] [] (jl_w mem2 lm2) ∧ jJ mem2 lm2 := by
  obtain ⟨v, mem1, lm1, mem2, lm2, e1, e2, hJ2⟩ := J_count (xs (i + 1)) mem lm hJ
  refine ⟨mem2, lm2, ?_, hJ2⟩
  have h1 : i + 1 < L := by omega
  simp (disch := assumption) only [eL_730, eL_731, eL_732, eL_733, eL_734, eL_735, nI_add]
  rw [eL_736 e1]
  simp (disch := assumption) only [eL_739, eL_740, eL_741, eL_742, eL_743, eL_744, nI_add]
  rw [eL_745 e2]
  simp only [eL_748, if_true]
theorem L_trace {i : Nat} (hi : i + 4 < L) (hL : L < 2 ^ 31) (hJ : jJ mem lm) : ∃ mem2 lm2, jr_ev (pL xs L) 753 [.ref 1000, .ref 0, .ref 62, .int (nI i)] [] (jl_w mem lm) = jr_ev (pL xs L) 767 [.ref 1000, .ref 0, .ref 62, .int (nI i)] [] (jl_w mem2 lm2) ∧ jJ mem2 lm2 := by
  obtain ⟨v, e1, e2, hJ2⟩ := J_trace hJ
  refine ⟨_, _, ?_, hJ2⟩
  simp only [eL_753]
  rw [eL_754 e1]
  simp only [eL_757]
  rw [eL_758 e2]
  have hc : lg_cmp v v = 0 := by
    unfold lg_cmp
    simp
  simp only [eL_761, eL_762, hc, if_true]
end LR

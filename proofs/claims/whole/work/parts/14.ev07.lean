theorem eX5_keep {k0 : Nat} {y1 : Int32} {w : jw_W} : xX5_keep [.ref k0, .int y1] w = jr_ev pX5_keep 0 [.ref k0, .int y1, .null] [] w := je_call (P := pX5_keep) (na := 2) (nL := 3) ⟨rfl, rfl⟩ rfl
theorem eX5_keep_0 {a1 a2 : Value} {x : Nat} {st : List Value} {w : jw_W} : jr_ev pX5_keep 0 [.ref x, a1, a2] st w = jr_ev pX5_keep 1 [.ref x, a1, a2] (.ref x :: st) w := je_rld rfl rfl
theorem eX5_keep_1 {ls st : List Value} {w : jw_W} : jr_ev pX5_keep 1 ls st w = jr_ev pX5_keep 2 ls (.int (nI 0) :: st) w := je_k rfl
theorem eX5_keep_2 {ls st : List Value} {mem : jl_M} {lm : jl_L} {x : Int32} : jr_ev pX5_keep 2 ls (.int x :: .ref 62 :: st) (jl_w mem lm) = jr_ev pX5_keep 5 ls st (jl_w (jl_s mem 62 0 x) lm) := je_pI rfl (by decide) rfl
theorem eX5_keep_5 {a0 a2 : Value} {x : Int32} {st : List Value} {w : jw_W} : jr_ev pX5_keep 5 [a0, .int x, a2] st w = jr_ev pX5_keep 6 [a0, .int x, a2] (.int x :: st) w := je_ild rfl rfl
theorem eX5_keep_6 {ls st : List Value} {w : jw_W} : jr_ev pX5_keep 6 ls st w = jr_ev pX5_keep 7 ls (.int (nI 0) :: st) w := je_k rfl
theorem eX5_keep_7 {ls st : List Value} {w : jw_W} : jr_ev pX5_keep 7 ls st w = jr_ev pX5_keep 8 ls (.int (nI 1) :: st) w := je_k rfl
theorem eX5_keep_8 {ls : List Value} {mem mem' : jl_M} {lm lm' : jl_L} {y0 : Int32} {y1 : Int32} {y2 : Int32} {v : Int32} (h : xX5_in [.int y0, .int y1, .int y2] (jl_w mem lm) = some (some (.int v), jl_w mem' lm')) : jr_ev pX5_keep 8 ls [.int y2, .int y1, .int y0] (jl_w mem lm) = jr_ev pX5_keep 11 ls [.int v] (jl_w mem' lm') := je_cs (P := pX5_keep) (pc := 8) (n := 11) (na := 3) (st := [.int y2, .int y1, .int y0]) (st' := []) (av := [.int y0, .int y1, .int y2]) rfl ⟨Nat.le_of_ble_eq_true rfl, rfl, rfl⟩ (Nat.le_of_ble_eq_true rfl) h
theorem eX5_keep_11 {ls st : List Value} {w : jw_W} {x : Int32} : jr_ev pX5_keep 11 ls (.int x :: st) w = if x = 0 then jr_ev pX5_keep 14 ls st w else jr_ev pX5_keep 16 ls st w := je_ifn (c := fun x => x = 0) rfl
theorem eX5_keep_14 {ls st : List Value} {w : jw_W} : jr_ev pX5_keep 14 ls st w = jr_ev pX5_keep 15 ls (.int (-1) :: st) w := je_k rfl
theorem eX5_keep_15 {ls : List Value} {w : jw_W} {x : Int32} : jr_ev pX5_keep 15 ls [.int x] w = some (some (.int x), w) := je_iret rfl
theorem eX5_keep_16 {ls st : List Value} {w : jw_W} : jr_ev pX5_keep 16 ls st w = jr_ev pX5_keep 17 ls (.int (nI 0) :: st) w := je_k rfl
theorem eX5_keep_17 {a0 a1 a2 : Value} {x : Int32} {st : List Value} {w : jw_W} : jr_ev pX5_keep 17 [a0, a1, a2] (.int x :: st) w = jr_ev pX5_keep 18 [a0, a1, .int x] st w := je_ist rfl (Nat.le_of_ble_eq_true rfl) rfl
theorem eX5_keep_18 {a0 a1 : Value} {x : Int32} {st : List Value} {w : jw_W} : jr_ev pX5_keep 18 [a0, a1, .int x] st w = jr_ev pX5_keep 19 [a0, a1, .int x] (.int x :: st) w := je_ild rfl rfl
theorem eX5_keep_19 {ls st : List Value} {w : jw_W} : jr_ev pX5_keep 19 ls st w = jr_ev pX5_keep 21 ls (.int (nI 19) :: st) w := je_k rfl
theorem eX5_keep_21 {ls st : List Value} {w : jw_W} {x y : Int32} : jr_ev pX5_keep 21 ls (.int y :: .int x :: st) w = if y ≤ x then jr_ev pX5_keep 47 ls st w else jr_ev pX5_keep 24 ls st w := je_ic (c := fun x y => y ≤ x) rfl
theorem eX5_keep_24 {a1 a2 : Value} {x : Nat} {st : List Value} {w : jw_W} : jr_ev pX5_keep 24 [.ref x, a1, a2] st w = jr_ev pX5_keep 25 [.ref x, a1, a2] (.ref x :: st) w := je_rld rfl rfl
theorem eX5_keep_25 {ls st : List Value} {mem : jl_M} {lm : jl_L} : jr_ev pX5_keep 25 ls (.ref 62 :: st) (jl_w mem lm) = jr_ev pX5_keep 28 ls (.ref 69 :: st) (jl_w mem lm) := je_gR rfl (by decide) rfl (by decide) rfl (by decide)
theorem eX5_keep_28 {ls st : List Value} {w : jw_W} : jr_ev pX5_keep 28 ls st w = jr_ev pX5_keep 30 ls (.int (nI 19) :: st) w := je_k rfl
theorem eX5_keep_30 {a0 a2 : Value} {x : Int32} {st : List Value} {w : jw_W} : jr_ev pX5_keep 30 [a0, .int x, a2] st w = jr_ev pX5_keep 31 [a0, .int x, a2] (.int x :: st) w := je_ild rfl rfl
theorem eX5_keep_31 {ls st : List Value} {w : jw_W} {x y : Int32} : jr_ev pX5_keep 31 ls (.int y :: .int x :: st) w = jr_ev pX5_keep 32 ls (.int (x * y) :: st) w := je_bin (f := fun x y => x * y) rfl
theorem eX5_keep_32 {a0 a1 : Value} {x : Int32} {st : List Value} {w : jw_W} : jr_ev pX5_keep 32 [a0, a1, .int x] st w = jr_ev pX5_keep 33 [a0, a1, .int x] (.int x :: st) w := je_ild rfl rfl
theorem eX5_keep_33 {ls st : List Value} {w : jw_W} {x y : Int32} : jr_ev pX5_keep 33 ls (.int y :: .int x :: st) w = jr_ev pX5_keep 34 ls (.int (x + y) :: st) w := je_bin (f := fun x y => x + y) rfl
theorem eX5_keep_34 {a1 a2 : Value} {x : Nat} {st : List Value} {w : jw_W} : jr_ev pX5_keep 34 [.ref x, a1, a2] st w = jr_ev pX5_keep 35 [.ref x, a1, a2] (.ref x :: st) w := je_rld rfl rfl
theorem eX5_keep_35 {ls st : List Value} {mem : jl_M} {lm : jl_L} : jr_ev pX5_keep 35 ls (.ref 62 :: st) (jl_w mem lm) = jr_ev pX5_keep 38 ls (.ref 67 :: st) (jl_w mem lm) := je_gR rfl (by decide) rfl (by decide) rfl (by decide)
theorem eX5_keep_38 {a0 a1 : Value} {x : Int32} {st : List Value} {w : jw_W} : jr_ev pX5_keep 38 [a0, a1, .int x] st w = jr_ev pX5_keep 39 [a0, a1, .int x] (.int x :: st) w := je_ild rfl rfl
theorem eX5_keep_39 {ls st : List Value} {mem : jl_M} {lm : jl_L} {r : Nat} (hr : r < 19) : jr_ev pX5_keep 39 ls (.int (nI r) :: .ref 67 :: st) (jl_w mem lm) = jr_ev pX5_keep 40 ls (.int (mem 67 r) :: st) (jl_w mem lm) := je_al rfl ⟨rfl, rfl⟩ hr
theorem eX5_keep_40 {ls st : List Value} {mem : jl_M} {lm : jl_L} {r : Nat} {x : Int32} (hr : r < 38) : jr_ev pX5_keep 40 ls (.int x :: .int (nI r) :: .ref 69 :: st) (jl_w mem lm) = jr_ev pX5_keep 41 ls st (jl_w (jl_s mem 69 r x) lm) := je_as rfl ⟨rfl, rfl⟩ hr
theorem eX5_keep_41 {a0 a1 : Value} {x : Int32} {st : List Value} {w : jw_W} : jr_ev pX5_keep 41 [a0, a1, .int x] st w = jr_ev pX5_keep 44 [a0, a1, .int (x + (nI 1))] st w := je_inc rfl rfl rfl
theorem eX5_keep_44 {ls st : List Value} {w : jw_W} : jr_ev pX5_keep 44 ls st w = jr_ev pX5_keep 18 ls st w := je_go rfl
theorem eX5_keep_47 {a1 a2 : Value} {x : Nat} {st : List Value} {w : jw_W} : jr_ev pX5_keep 47 [.ref x, a1, a2] st w = jr_ev pX5_keep 48 [.ref x, a1, a2] (.ref x :: st) w := je_rld rfl rfl
theorem eX5_keep_48 {ls st : List Value} {mem : jl_M} {lm : jl_L} : jr_ev pX5_keep 48 ls (.ref 62 :: st) (jl_w mem lm) = jr_ev pX5_keep 51 ls (.ref 70 :: st) (jl_w mem lm) := je_gR rfl (by decide) rfl (by decide) rfl (by decide)
theorem eX5_keep_51 {a0 a2 : Value} {x : Int32} {st : List Value} {w : jw_W} : jr_ev pX5_keep 51 [a0, .int x, a2] st w = jr_ev pX5_keep 52 [a0, .int x, a2] (.int x :: st) w := je_ild rfl rfl
theorem eX5_keep_52 {ls st : List Value} {w : jw_W} : jr_ev pX5_keep 52 ls st w = jr_ev pX5_keep 53 ls (.int (nI 1) :: st) w := je_k rfl
theorem eX5_keep_53_0 {ls st : List Value} {mem : jl_M} {lm : jl_L} {r : Nat} (hr : r < 2) : jr_ev pX5_keep 53 ls (.int (nI 0) :: .int (nI r) :: .ref 70 :: st) (jl_w mem lm) = jr_ev pX5_keep 54 ls st (jl_w (jl_s mem 70 r (nI 0)) lm) := je_zs rfl ⟨rfl, rfl⟩ hr (by decide +kernel)
theorem eX5_keep_53_1 {ls st : List Value} {mem : jl_M} {lm : jl_L} {r : Nat} (hr : r < 2) : jr_ev pX5_keep 53 ls (.int (nI 1) :: .int (nI r) :: .ref 70 :: st) (jl_w mem lm) = jr_ev pX5_keep 54 ls st (jl_w (jl_s mem 70 r (nI 1)) lm) := je_zs rfl ⟨rfl, rfl⟩ hr (by decide +kernel)
theorem eX5_keep_54 {a1 a2 : Value} {x : Nat} {st : List Value} {w : jw_W} : jr_ev pX5_keep 54 [.ref x, a1, a2] st w = jr_ev pX5_keep 55 [.ref x, a1, a2] (.ref x :: st) w := je_rld rfl rfl
theorem eX5_keep_55 {ls st : List Value} {mem : jl_M} {lm : jl_L} : jr_ev pX5_keep 55 ls (.ref 62 :: st) (jl_w mem lm) = jr_ev pX5_keep 58 ls (.ref 67 :: st) (jl_w mem lm) := je_gR rfl (by decide) rfl (by decide) rfl (by decide)
theorem eX5_keep_58 {ls st : List Value} {w : jw_W} : jr_ev pX5_keep 58 ls st w = jr_ev pX5_keep 59 ls (.int (nI 0) :: st) w := je_k rfl
theorem eX5_keep_59 {ls st : List Value} {mem : jl_M} {lm : jl_L} {r : Nat} (hr : r < 19) : jr_ev pX5_keep 59 ls (.int (nI r) :: .ref 67 :: st) (jl_w mem lm) = jr_ev pX5_keep 60 ls (.int (mem 67 r) :: st) (jl_w mem lm) := je_al rfl ⟨rfl, rfl⟩ hr
theorem eX5_keep_60 {ls : List Value} {w : jw_W} {x : Int32} : jr_ev pX5_keep 60 ls [.int x] w = some (some (.int x), w) := je_iret rfl
theorem eX5_back {k0 : Nat} {y1 : Int32} {w : jw_W} : xX5_back [.ref k0, .int y1] w = jr_ev pX5_back 0 [.ref k0, .int y1, .null] [] w := je_call (P := pX5_back) (na := 2) (nL := 3) ⟨rfl, rfl⟩ rfl
theorem eX5_back_0 {a1 a2 : Value} {x : Nat} {st : List Value} {w : jw_W} : jr_ev pX5_back 0 [.ref x, a1, a2] st w = jr_ev pX5_back 1 [.ref x, a1, a2] (.ref x :: st) w := je_rld rfl rfl
theorem eX5_back_1 {ls st : List Value} {w : jw_W} : jr_ev pX5_back 1 ls st w = jr_ev pX5_back 2 ls (.int (nI 0) :: st) w := je_k rfl
theorem eX5_back_2 {ls st : List Value} {mem : jl_M} {lm : jl_L} {x : Int32} : jr_ev pX5_back 2 ls (.int x :: .ref 62 :: st) (jl_w mem lm) = jr_ev pX5_back 5 ls st (jl_w (jl_s mem 62 0 x) lm) := je_pI rfl (by decide) rfl
theorem eX5_back_5 {a0 a2 : Value} {x : Int32} {st : List Value} {w : jw_W} : jr_ev pX5_back 5 [a0, .int x, a2] st w = jr_ev pX5_back 6 [a0, .int x, a2] (.int x :: st) w := je_ild rfl rfl
theorem eX5_back_6 {ls st : List Value} {w : jw_W} : jr_ev pX5_back 6 ls st w = jr_ev pX5_back 7 ls (.int (nI 0) :: st) w := je_k rfl
theorem eX5_back_7 {ls st : List Value} {w : jw_W} : jr_ev pX5_back 7 ls st w = jr_ev pX5_back 8 ls (.int (nI 1) :: st) w := je_k rfl
theorem eX5_back_8 {ls : List Value} {mem mem' : jl_M} {lm lm' : jl_L} {y0 : Int32} {y1 : Int32} {y2 : Int32} {v : Int32} (h : xX5_in [.int y0, .int y1, .int y2] (jl_w mem lm) = some (some (.int v), jl_w mem' lm')) : jr_ev pX5_back 8 ls [.int y2, .int y1, .int y0] (jl_w mem lm) = jr_ev pX5_back 11 ls [.int v] (jl_w mem' lm') := je_cs (P := pX5_back) (pc := 8) (n := 11) (na := 3) (st := [.int y2, .int y1, .int y0]) (st' := []) (av := [.int y0, .int y1, .int y2]) rfl ⟨Nat.le_of_ble_eq_true rfl, rfl, rfl⟩ (Nat.le_of_ble_eq_true rfl) h
theorem eX5_back_11 {ls st : List Value} {w : jw_W} {x : Int32} : jr_ev pX5_back 11 ls (.int x :: st) w = if x = 0 then jr_ev pX5_back 14 ls st w else jr_ev pX5_back 16 ls st w := je_ifn (c := fun x => x = 0) rfl
theorem eX5_back_14 {ls st : List Value} {w : jw_W} : jr_ev pX5_back 14 ls st w = jr_ev pX5_back 15 ls (.int (-1) :: st) w := je_k rfl
theorem eX5_back_15 {ls : List Value} {w : jw_W} {x : Int32} : jr_ev pX5_back 15 ls [.int x] w = some (some (.int x), w) := je_iret rfl
theorem eX5_back_16 {a1 a2 : Value} {x : Nat} {st : List Value} {w : jw_W} : jr_ev pX5_back 16 [.ref x, a1, a2] st w = jr_ev pX5_back 17 [.ref x, a1, a2] (.ref x :: st) w := je_rld rfl rfl
theorem eX5_back_17 {ls st : List Value} {mem : jl_M} {lm : jl_L} : jr_ev pX5_back 17 ls (.ref 62 :: st) (jl_w mem lm) = jr_ev pX5_back 20 ls (.ref 70 :: st) (jl_w mem lm) := je_gR rfl (by decide) rfl (by decide) rfl (by decide)
theorem eX5_back_20 {a0 a2 : Value} {x : Int32} {st : List Value} {w : jw_W} : jr_ev pX5_back 20 [a0, .int x, a2] st w = jr_ev pX5_back 21 [a0, .int x, a2] (.int x :: st) w := je_ild rfl rfl
theorem eX5_back_21 {ls st : List Value} {mem : jl_M} {lm : jl_L} {r : Nat} (hr : r < 2) : jr_ev pX5_back 21 ls (.int (nI r) :: .ref 70 :: st) (jl_w mem lm) = jr_ev pX5_back 22 ls (.int (mem 70 r) :: st) (jl_w mem lm) := je_zl rfl ⟨rfl, rfl⟩ hr
theorem eX5_back_22 {ls st : List Value} {w : jw_W} {x : Int32} : jr_ev pX5_back 22 ls (.int x :: st) w = if x = 0 then jr_ev pX5_back 25 ls st w else jr_ev pX5_back 28 ls st w := je_ifn (c := fun x => x = 0) rfl
theorem eX5_back_25 {ls st : List Value} {w : jw_W} : jr_ev pX5_back 25 ls st w = jr_ev pX5_back 27 ls (.int (-2) :: st) w := je_k rfl
theorem eX5_back_27 {ls : List Value} {w : jw_W} {x : Int32} : jr_ev pX5_back 27 ls [.int x] w = some (some (.int x), w) := je_iret rfl
theorem eX5_back_28 {ls st : List Value} {w : jw_W} : jr_ev pX5_back 28 ls st w = jr_ev pX5_back 29 ls (.int (nI 0) :: st) w := je_k rfl
theorem eX5_back_29 {a0 a1 a2 : Value} {x : Int32} {st : List Value} {w : jw_W} : jr_ev pX5_back 29 [a0, a1, a2] (.int x :: st) w = jr_ev pX5_back 30 [a0, a1, .int x] st w := je_ist rfl (Nat.le_of_ble_eq_true rfl) rfl
theorem eX5_back_30 {a0 a1 : Value} {x : Int32} {st : List Value} {w : jw_W} : jr_ev pX5_back 30 [a0, a1, .int x] st w = jr_ev pX5_back 31 [a0, a1, .int x] (.int x :: st) w := je_ild rfl rfl
theorem eX5_back_31 {ls st : List Value} {w : jw_W} : jr_ev pX5_back 31 ls st w = jr_ev pX5_back 33 ls (.int (nI 19) :: st) w := je_k rfl
theorem eX5_back_33 {ls st : List Value} {w : jw_W} {x y : Int32} : jr_ev pX5_back 33 ls (.int y :: .int x :: st) w = if y ≤ x then jr_ev pX5_back 59 ls st w else jr_ev pX5_back 36 ls st w := je_ic (c := fun x y => y ≤ x) rfl
theorem eX5_back_36 {a1 a2 : Value} {x : Nat} {st : List Value} {w : jw_W} : jr_ev pX5_back 36 [.ref x, a1, a2] st w = jr_ev pX5_back 37 [.ref x, a1, a2] (.ref x :: st) w := je_rld rfl rfl
theorem eX5_back_37 {ls st : List Value} {mem : jl_M} {lm : jl_L} : jr_ev pX5_back 37 ls (.ref 62 :: st) (jl_w mem lm) = jr_ev pX5_back 40 ls (.ref 67 :: st) (jl_w mem lm) := je_gR rfl (by decide) rfl (by decide) rfl (by decide)
theorem eX5_back_40 {a0 a1 : Value} {x : Int32} {st : List Value} {w : jw_W} : jr_ev pX5_back 40 [a0, a1, .int x] st w = jr_ev pX5_back 41 [a0, a1, .int x] (.int x :: st) w := je_ild rfl rfl
theorem eX5_back_41 {a1 a2 : Value} {x : Nat} {st : List Value} {w : jw_W} : jr_ev pX5_back 41 [.ref x, a1, a2] st w = jr_ev pX5_back 42 [.ref x, a1, a2] (.ref x :: st) w := je_rld rfl rfl
theorem eX5_back_42 {ls st : List Value} {mem : jl_M} {lm : jl_L} : jr_ev pX5_back 42 ls (.ref 62 :: st) (jl_w mem lm) = jr_ev pX5_back 45 ls (.ref 69 :: st) (jl_w mem lm) := je_gR rfl (by decide) rfl (by decide) rfl (by decide)
theorem eX5_back_45 {ls st : List Value} {w : jw_W} : jr_ev pX5_back 45 ls st w = jr_ev pX5_back 47 ls (.int (nI 19) :: st) w := je_k rfl
theorem eX5_back_47 {a0 a2 : Value} {x : Int32} {st : List Value} {w : jw_W} : jr_ev pX5_back 47 [a0, .int x, a2] st w = jr_ev pX5_back 48 [a0, .int x, a2] (.int x :: st) w := je_ild rfl rfl
theorem eX5_back_48 {ls st : List Value} {w : jw_W} {x y : Int32} : jr_ev pX5_back 48 ls (.int y :: .int x :: st) w = jr_ev pX5_back 49 ls (.int (x * y) :: st) w := je_bin (f := fun x y => x * y) rfl
theorem eX5_back_49 {a0 a1 : Value} {x : Int32} {st : List Value} {w : jw_W} : jr_ev pX5_back 49 [a0, a1, .int x] st w = jr_ev pX5_back 50 [a0, a1, .int x] (.int x :: st) w := je_ild rfl rfl
theorem eX5_back_50 {ls st : List Value} {w : jw_W} {x y : Int32} : jr_ev pX5_back 50 ls (.int y :: .int x :: st) w = jr_ev pX5_back 51 ls (.int (x + y) :: st) w := je_bin (f := fun x y => x + y) rfl
theorem eX5_back_51 {ls st : List Value} {mem : jl_M} {lm : jl_L} {r : Nat} (hr : r < 38) : jr_ev pX5_back 51 ls (.int (nI r) :: .ref 69 :: st) (jl_w mem lm) = jr_ev pX5_back 52 ls (.int (mem 69 r) :: st) (jl_w mem lm) := je_al rfl ⟨rfl, rfl⟩ hr
theorem eX5_back_52 {ls st : List Value} {mem : jl_M} {lm : jl_L} {r : Nat} {x : Int32} (hr : r < 19) : jr_ev pX5_back 52 ls (.int x :: .int (nI r) :: .ref 67 :: st) (jl_w mem lm) = jr_ev pX5_back 53 ls st (jl_w (jl_s mem 67 r x) lm) := je_as rfl ⟨rfl, rfl⟩ hr
theorem eX5_back_53 {a0 a1 : Value} {x : Int32} {st : List Value} {w : jw_W} : jr_ev pX5_back 53 [a0, a1, .int x] st w = jr_ev pX5_back 56 [a0, a1, .int (x + (nI 1))] st w := je_inc rfl rfl rfl
theorem eX5_back_56 {ls st : List Value} {w : jw_W} : jr_ev pX5_back 56 ls st w = jr_ev pX5_back 30 ls st w := je_go rfl
theorem eX5_back_59 {a1 a2 : Value} {x : Nat} {st : List Value} {w : jw_W} : jr_ev pX5_back 59 [.ref x, a1, a2] st w = jr_ev pX5_back 60 [.ref x, a1, a2] (.ref x :: st) w := je_rld rfl rfl
theorem eX5_back_60 {ls st : List Value} {w : jw_W} : jr_ev pX5_back 60 ls st w = jr_ev pX5_back 61 ls (.int (nI 0) :: st) w := je_k rfl
theorem eX5_back_61 {ls st : List Value} {mem : jl_M} {lm : jl_L} {x : Int32} : jr_ev pX5_back 61 ls (.int x :: .ref 62 :: st) (jl_w mem lm) = jr_ev pX5_back 64 ls st (jl_w (jl_s mem 62 22 x) lm) := je_pI rfl (by decide) rfl
theorem eX5_back_64 {a1 a2 : Value} {x : Nat} {st : List Value} {w : jw_W} : jr_ev pX5_back 64 [.ref x, a1, a2] st w = jr_ev pX5_back 65 [.ref x, a1, a2] (.ref x :: st) w := je_rld rfl rfl
theorem eX5_back_65 {ls st : List Value} {mem : jl_M} {lm : jl_L} : jr_ev pX5_back 65 ls (.ref 62 :: st) (jl_w mem lm) = jr_ev pX5_back 68 ls (.ref 67 :: st) (jl_w mem lm) := je_gR rfl (by decide) rfl (by decide) rfl (by decide)
theorem eX5_back_68 {ls st : List Value} {w : jw_W} : jr_ev pX5_back 68 ls st w = jr_ev pX5_back 69 ls (.int (nI 0) :: st) w := je_k rfl
theorem eX5_back_69 {ls st : List Value} {mem : jl_M} {lm : jl_L} {r : Nat} (hr : r < 19) : jr_ev pX5_back 69 ls (.int (nI r) :: .ref 67 :: st) (jl_w mem lm) = jr_ev pX5_back 70 ls (.int (mem 67 r) :: st) (jl_w mem lm) := je_al rfl ⟨rfl, rfl⟩ hr
theorem eX5_back_70 {ls : List Value} {w : jw_W} {x : Int32} : jr_ev pX5_back 70 ls [.int x] w = some (some (.int x), w) := je_iret rfl
theorem eX5_count {k0 : Nat} {y1 : Int32} {w : jw_W} : xX5_count [.ref k0, .int y1] w = jr_ev pX5_count 0 [.ref k0, .int y1] [] w := je_call (P := pX5_count) (na := 2) (nL := 2) ⟨rfl, rfl⟩ rfl
theorem eX5_count_0 {a1 : Value} {x : Nat} {st : List Value} {w : jw_W} : jr_ev pX5_count 0 [.ref x, a1] st w = jr_ev pX5_count 1 [.ref x, a1] (.ref x :: st) w := je_rld rfl rfl
theorem eX5_count_1 {ls st : List Value} {w : jw_W} : jr_ev pX5_count 1 ls st w = jr_ev pX5_count 2 ls (.int (nI 0) :: st) w := je_k rfl
theorem eX5_count_2 {ls st : List Value} {mem : jl_M} {lm : jl_L} {x : Int32} : jr_ev pX5_count 2 ls (.int x :: .ref 62 :: st) (jl_w mem lm) = jr_ev pX5_count 5 ls st (jl_w (jl_s mem 62 0 x) lm) := je_pI rfl (by decide) rfl
theorem eX5_count_5 {a0 : Value} {x : Int32} {st : List Value} {w : jw_W} : jr_ev pX5_count 5 [a0, .int x] st w = jr_ev pX5_count 6 [a0, .int x] (.int x :: st) w := je_ild rfl rfl
theorem eX5_count_6 {ls st : List Value} {w : jw_W} {x : Int32} : jr_ev pX5_count 6 ls (.int x :: st) w = if x = 0 then jr_ev pX5_count 9 ls st w else jr_ev pX5_count 16 ls st w := je_ifn (c := fun x => x = 0) rfl
theorem eX5_count_9 {a1 : Value} {x : Nat} {st : List Value} {w : jw_W} : jr_ev pX5_count 9 [.ref x, a1] st w = jr_ev pX5_count 10 [.ref x, a1] (.ref x :: st) w := je_rld rfl rfl
theorem eX5_count_10 {ls st : List Value} {mem : jl_M} {lm : jl_L} : jr_ev pX5_count 10 ls (.ref 62 :: st) (jl_w mem lm) = jr_ev pX5_count 13 ls (.int (mem 62 9) :: st) (jl_w mem lm) := je_gI rfl (by decide) rfl
theorem eX5_count_13 {ls st : List Value} {w : jw_W} : jr_ev pX5_count 13 ls st w = jr_ev pX5_count 53 ls st w := je_go rfl
theorem eX5_count_16 {a0 : Value} {x : Int32} {st : List Value} {w : jw_W} : jr_ev pX5_count 16 [a0, .int x] st w = jr_ev pX5_count 17 [a0, .int x] (.int x :: st) w := je_ild rfl rfl
theorem eX5_count_17 {ls st : List Value} {w : jw_W} : jr_ev pX5_count 17 ls st w = jr_ev pX5_count 18 ls (.int (nI 1) :: st) w := je_k rfl
theorem eX5_count_18 {ls st : List Value} {w : jw_W} {x y : Int32} : jr_ev pX5_count 18 ls (.int y :: .int x :: st) w = if x = y then jr_ev pX5_count 21 ls st w else jr_ev pX5_count 28 ls st w := je_icn (c := fun x y => x = y) rfl
theorem eX5_count_21 {a1 : Value} {x : Nat} {st : List Value} {w : jw_W} : jr_ev pX5_count 21 [.ref x, a1] st w = jr_ev pX5_count 22 [.ref x, a1] (.ref x :: st) w := je_rld rfl rfl
theorem eX5_count_22 {ls st : List Value} {mem : jl_M} {lm : jl_L} : jr_ev pX5_count 22 ls (.ref 62 :: st) (jl_w mem lm) = jr_ev pX5_count 25 ls (.int (mem 62 10) :: st) (jl_w mem lm) := je_gI rfl (by decide) rfl
theorem eX5_count_25 {ls st : List Value} {w : jw_W} : jr_ev pX5_count 25 ls st w = jr_ev pX5_count 53 ls st w := je_go rfl
theorem eX5_count_28 {a0 : Value} {x : Int32} {st : List Value} {w : jw_W} : jr_ev pX5_count 28 [a0, .int x] st w = jr_ev pX5_count 29 [a0, .int x] (.int x :: st) w := je_ild rfl rfl
theorem eX5_count_29 {ls st : List Value} {w : jw_W} : jr_ev pX5_count 29 ls st w = jr_ev pX5_count 30 ls (.int (nI 2) :: st) w := je_k rfl
theorem eX5_count_30 {ls st : List Value} {w : jw_W} {x y : Int32} : jr_ev pX5_count 30 ls (.int y :: .int x :: st) w = if x = y then jr_ev pX5_count 33 ls st w else jr_ev pX5_count 40 ls st w := je_icn (c := fun x y => x = y) rfl
theorem eX5_count_33 {a1 : Value} {x : Nat} {st : List Value} {w : jw_W} : jr_ev pX5_count 33 [.ref x, a1] st w = jr_ev pX5_count 34 [.ref x, a1] (.ref x :: st) w := je_rld rfl rfl
theorem eX5_count_34 {ls st : List Value} {mem : jl_M} {lm : jl_L} : jr_ev pX5_count 34 ls (.ref 62 :: st) (jl_w mem lm) = jr_ev pX5_count 37 ls (.int (mem 62 26) :: st) (jl_w mem lm) := je_gI rfl (by decide) rfl
theorem eX5_count_37 {ls st : List Value} {w : jw_W} : jr_ev pX5_count 37 ls st w = jr_ev pX5_count 53 ls st w := je_go rfl
theorem eX5_count_40 {a0 : Value} {x : Int32} {st : List Value} {w : jw_W} : jr_ev pX5_count 40 [a0, .int x] st w = jr_ev pX5_count 41 [a0, .int x] (.int x :: st) w := je_ild rfl rfl
theorem eX5_count_41 {ls st : List Value} {w : jw_W} : jr_ev pX5_count 41 ls st w = jr_ev pX5_count 42 ls (.int (nI 3) :: st) w := je_k rfl
theorem eX5_count_42 {ls st : List Value} {w : jw_W} {x y : Int32} : jr_ev pX5_count 42 ls (.int y :: .int x :: st) w = if x = y then jr_ev pX5_count 45 ls st w else jr_ev pX5_count 52 ls st w := je_icn (c := fun x y => x = y) rfl
theorem eX5_count_45 {a1 : Value} {x : Nat} {st : List Value} {w : jw_W} : jr_ev pX5_count 45 [.ref x, a1] st w = jr_ev pX5_count 46 [.ref x, a1] (.ref x :: st) w := je_rld rfl rfl
theorem eX5_count_46 {ls st : List Value} {mem : jl_M} {lm : jl_L} : jr_ev pX5_count 46 ls (.ref 62 :: st) (jl_w mem lm) = jr_ev pX5_count 49 ls (.int (mem 62 3) :: st) (jl_w mem lm) := je_gI rfl (by decide) rfl
theorem eX5_count_49 {ls st : List Value} {w : jw_W} : jr_ev pX5_count 49 ls st w = jr_ev pX5_count 53 ls st w := je_go rfl
theorem eX5_count_52 {ls st : List Value} {w : jw_W} : jr_ev pX5_count 52 ls st w = jr_ev pX5_count 53 ls (.int (-1) :: st) w := je_k rfl
theorem eX5_count_53 {ls : List Value} {w : jw_W} {x : Int32} : jr_ev pX5_count 53 ls [.int x] w = some (some (.int x), w) := je_iret rfl
theorem eX5_trace {k0 : Nat} {w : jw_W} : xX5_trace [.ref k0] w = jr_ev pX5_trace 0 [.ref k0] [] w := je_call (P := pX5_trace) (na := 1) (nL := 1) ⟨rfl, rfl⟩ rfl
theorem eX5_trace_0 {x : Nat} {st : List Value} {w : jw_W} : jr_ev pX5_trace 0 [.ref x] st w = jr_ev pX5_trace 1 [.ref x] (.ref x :: st) w := je_rld rfl rfl
theorem eX5_trace_1 {ls st : List Value} {w : jw_W} : jr_ev pX5_trace 1 ls st w = jr_ev pX5_trace 2 ls (.int (nI 0) :: st) w := je_k rfl
theorem eX5_trace_2 {ls st : List Value} {mem : jl_M} {lm : jl_L} {x : Int32} : jr_ev pX5_trace 2 ls (.int x :: .ref 62 :: st) (jl_w mem lm) = jr_ev pX5_trace 5 ls st (jl_w (jl_s mem 62 0 x) lm) := je_pI rfl (by decide) rfl
theorem eX5_trace_5 {x : Nat} {st : List Value} {w : jw_W} : jr_ev pX5_trace 5 [.ref x] st w = jr_ev pX5_trace 6 [.ref x] (.ref x :: st) w := je_rld rfl rfl
theorem eX5_trace_6 {ls st : List Value} {mem : jl_M} {lm : jl_L} : jr_ev pX5_trace 6 ls (.ref 62 :: st) (jl_w mem lm) = jr_ev pX5_trace 9 ls (.long (lm 62 1) :: st) (jl_w mem lm) := je_gL rfl (by decide) rfl
theorem eX5_trace_9 {ls : List Value} {w : jw_W} {x : Int64} : jr_ev pX5_trace 9 ls [.long x] w = some (some (.long x), w) := je_lret rfl

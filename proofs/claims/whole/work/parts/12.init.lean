/-! ===== the two constructors, run ===== -/
def jl_e : jw_W := ((0, 0), (fun _ => (99, 0, fun _ => none)), (fun _ _ => 0), (fun _ _ => 0))
def jl_a : jw_W := jw_nw jl_e 7 0 15
def jl_ob : Option jo_R := xX4_init [.ref 0] jl_a
theorem jl_ob_some : jl_ob.isSome = true := by decide +kernel
def jl_b : jw_W := (jl_ob.get jl_ob_some).2
def jl_c : jw_W := jw_nw jl_b 8 0 30
def jl_od : Option jo_R := xX5_init [.ref 62] jl_c
theorem jl_od_some : jl_od.isSome = true := by decide +kernel
def jl_d : jw_W := (jl_od.get jl_od_some).2
/-- the kinds of the cells, their lengths, their references -/
def jl_K (k : Nat) : Nat := (([7, 6, 0, 5, 0, 0, 0, 5, 0, 0, 0, 4, 0, 0, 3, 0, 4, 0, 0, 2, 2, 1, 0, 0, 1, 0, 4, 0, 0, 4, 0, 0, 4, 0, 0, 4, 0, 0, 4, 0, 0, 4, 0, 0, 4, 0, 0, 4, 0, 0, 4, 0, 0, 4, 0, 0, 4, 0, 0, 4, 0, 0, 8, 0, 0, 0, 0, 0, 0, 0, 1, 0, 0, 0, 0, 0] : List Nat)[k]?).getD 99
def jl_n (k : Nat) : Nat := (([0, 0, 120, 0, 8, 8, 8, 0, 8, 8, 8, 0, 8, 8, 0, 8, 0, 8, 8, 10, 2, 2, 6, 6, 6, 8, 0, 8, 8, 0, 8, 8, 0, 8, 8, 0, 8, 8, 0, 8, 8, 0, 8, 8, 0, 8, 8, 0, 8, 8, 0, 8, 8, 0, 8, 8, 0, 8, 8, 0, 8, 8, 0, 120, 16, 16, 16, 19, 19, 38, 2, 190, 6, 6, 6, 8] : List Nat)[k]?).getD 0
def jl_r (k j : Nat) : Nat := ((([[1, 7, 11, 14, 19, 0, 0, 20, 21, 22, 23, 24, 0, 25], [2, 0, 3], [], [0, 0, 4, 5, 6], [], [], [], [0, 0, 8, 9, 10], [], [], [], [7, 0, 0, 0, 12, 13], [], [], [16, 0, 0, 0, 15], [], [7, 0, 0, 0, 17, 18], [], [], [26, 29, 32, 35, 38, 41, 44, 47, 50, 53], [56, 59], [], [], [], [], [], [7, 0, 0, 0, 27, 28], [], [], [7, 0, 0, 0, 30, 31], [], [], [7, 0, 0, 0, 33, 34], [], [], [7, 0, 0, 0, 36, 37], [], [], [7, 0, 0, 0, 39, 40], [], [], [7, 0, 0, 0, 42, 43], [], [], [7, 0, 0, 0, 45, 46], [], [], [7, 0, 0, 0, 48, 49], [], [], [7, 0, 0, 0, 51, 52], [], [], [7, 0, 0, 0, 54, 55], [], [], [7, 0, 0, 0, 57, 58], [], [], [7, 0, 0, 0, 60, 61], [], [], [0, 0, 63, 0, 0, 0, 0, 0, 0, 0, 0, 0, 0, 0, 64, 65, 66, 67, 68, 69, 70, 71, 0, 72, 73, 74, 0, 0, 0, 75], [], [], [], [], [], [], [], [], [], [], [], [], []] : List (List Nat))[k]?).getD [])[j]?.getD 0
def jl_m0 (k j : Nat) : Int32 := if (k = 3 ∧ j = 1) ∨ (k = 7 ∧ j = 1) ∨ (k = 62 ∧ j = 10) then 1 else 0
def jl_q (k : Nat) : Bool := decide ((jl_d.2.1 k).1 = jl_K k) && decide ((jl_d.2.1 k).2.1 = jl_n k) && (List.range 30).all (fun j => decide ((jl_d.2.1 k).2.2 j = if jl_r k j = 0 then none else some (jl_r k j))) && (List.range (if jl_n k = 0 then 30 else jl_n k)).all (fun j => decide (jl_d.2.2.1 k j = jl_m0 k j))
theorem jl_fact : (jl_b.1.1 = 62 ∧ jl_d.1.1 = 76 ∧ jl_d.1.2 ≤ 5000) ∧ (jl_d.2.2.2 0 14 = 0 ∧ jl_d.2.2.2 62 1 = 0) ∧ (List.range 76).all jl_q = true := by decide +kernel

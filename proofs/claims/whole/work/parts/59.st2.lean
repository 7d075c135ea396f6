set_option maxRecDepth 100000
theorem jl_gen {o : Option jo_R} (h : o.isSome = true) (h1 : (o.get h).1.isNone = true) : o = some (none, (o.get h).2) := by
  cases o with
  | none => cases h
  | some p =>
    obtain ⟨a, b⟩ := p
    cases a with
    | none => rfl
    | some _ => cases h1
theorem jl_bx : jl_ob = some (none, jl_b) := jl_gen jl_ob_some (by decide +kernel)
theorem jl_dx : jl_od = some (none, jl_d) := jl_gen jl_od_some (by decide +kernel)
theorem jl_le1 : jl_a.1.1 = 1 ∧ jl_a.1.2 ≤ jl_b.1.2 := by decide +kernel
theorem jl_le2 : jl_c.1.1 = 63 ∧ jl_c.1.2 ≤ jl_d.1.2 := by decide +kernel

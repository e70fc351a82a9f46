/-! the classes that the law's tree is made of, as the start has them -/
theorem xUi {ci : Nat} {C : String} {T : u_T} {N : Nat} (h : vwCl[ci]? = some (C, T, N)) : Cond.instantiable C N ∈ lw_tbl := by
  match ci, h with
  | 0, h => cases h; decide +kernel
  | 1, h => cases h; decide +kernel
  | 2, h => cases h; decide +kernel
  | 3, h => cases h; decide +kernel
  | 4, h => cases h; decide +kernel
  | 5, h => cases h; decide +kernel
  | 6, h => cases h; decide +kernel
  | 7, h => cases h; decide +kernel
  | 8, h => cases h; decide +kernel
  | 9, h => cases h; decide +kernel
  | 10, h => cases h; decide +kernel
  | 11, h => cases h; decide +kernel
  | 12, h => cases h; decide +kernel
  | k + 13, h => simp [vwCl] at h
theorem xstart_A {args : Array Value} {s : State} {ty : FieldType} (h : (Cond.arrayClass ty).before args s = true) : ∃ c : ClassId, ArrOfT s c ty ∧ s.vm.findClass ("[" ++ ty.toString) = some c := by
  obtain ⟨c, k, comp, h1, h2, h3⟩ := Cond.arrayClass_spec h
  exact ⟨c, fun N z => ⟨(fun k h => by cases h), k, h2, comp, h3⟩, h1⟩
theorem xstart_K {args : Array Value} {s : State} (hts : ∀ w ∈ lw_tbl, w.before args s = true) : ∃ (G : va_G) (cA : Nat → ClassId), va_K G vwCl (xtys cA) s := by
  have hk : ∀ k : Nat, ∃ x : ClassId × (Nat → Nat), ∀ q : vw_C, vwCl[k]? = some q → u_Kn s q.1 q.2.1 q.2.2 x.1 x.2 := by
    intro k
    cases hq : vwCl[k]? with
    | none => exact ⟨(0, fun _ => 0), fun q h => by cases h⟩
    | some q =>
      obtain ⟨C, T, N⟩ := q
      obtain ⟨c0, i0, h0⟩ := u_known (C := C) (T := T) (N := N) (n := N) hts (fun w hw => xT_in (xUw hq w hw)) (hts _ (xUi hq))
      exact ⟨(c0, i0), fun q h => by cases h; exact h0⟩
  obtain ⟨D, hD⟩ := Classical.axiomOfChoice hk
  obtain ⟨c0, a0, b0⟩ := xstart_A (hts (.arrayClass .int) (by decide +kernel))
  obtain ⟨c1, a1, b1⟩ := xstart_A (hts (.arrayClass .long) (by decide +kernel))
  obtain ⟨c2, a2, b2⟩ := xstart_A (hts (.arrayClass .boolean) (by decide +kernel))
  obtain ⟨c3, a3, b3⟩ := xstart_A (hts (.arrayClass .char) (by decide +kernel))
  obtain ⟨m4, c4, k4, f1, -, f2, f3, f4⟩ := Cond.arrayOver_spec (hts (.arrayOver (.object "TurnedIsland$Want")) (by decide +kernel))
  obtain ⟨m5, c5, k5, -, g2, g3, g4⟩ := Cond.arrayOver_specA (hts (.arrayOver (.array .int)) (by decide +kernel))
  have a4 : ArrOfT s c4 (.object "TurnedIsland$Want") := fun N z => ⟨(fun k h => by cases h), k4, f2, m4, f3⟩
  have a5 : ArrOfT s c5 (.array .int) := fun N z => ⟨(fun k h => by cases h), k5, g2, m5, g3⟩
  refine ⟨(fun k => (D k).1, fun k => (D k).2), fun k => if k = 100 then c0 else if k = 101 then c1 else if k = 102 then c2 else if k = 103 then c3 else if k = 104 then c4 else c5, fun c q h => hD c q h, fun k q h => ?_⟩
  match k, h with
  | 0, h => have e : (c0, FieldType.int) = q := Option.some.inj h
            subst e; exact ⟨a0, b0⟩
  | 1, h => have e : (c1, FieldType.long) = q := Option.some.inj h
            subst e; exact ⟨a1, b1⟩
  | 2, h => have e : (c2, FieldType.boolean) = q := Option.some.inj h
            subst e; exact ⟨a2, b2⟩
  | 3, h => have e : (c3, FieldType.char) = q := Option.some.inj h
            subst e; exact ⟨a3, b3⟩
  | 4, h => have e : (c4, FieldType.object "TurnedIsland$Want") = q := Option.some.inj h
            subst e; exact ⟨a4, k4, m4, f2, f3, f1, f4⟩
  | 5, h => have e : (c5, FieldType.array .int) = q := Option.some.inj h
            subst e; exact ⟨a5, g4⟩
  | k + 6, h => simp [xtys] at h

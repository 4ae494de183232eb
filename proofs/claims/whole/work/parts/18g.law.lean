theorem lw_K {s : State} {args : Array Value} (hts : ∀ w ∈ tcb, w.before args s = true) : ∃ (D : va_G) (cI cB cZ : ClassId), va_K D tcl (tys cI cB cZ) s := by
  obtain ⟨c0, i0, k0⟩ := u_known hts u_Counter (hts _ wn_Counter)
  obtain ⟨c1, i1, k1⟩ := u_known hts u_Exceptions (hts _ wn_Exceptions)
  obtain ⟨c2, i2, k2⟩ := u_known hts u_Flags (hts _ wn_Flags)
  obtain ⟨c3, i3, k3⟩ := u_known hts u_Memory (hts _ wn_Memory)
  obtain ⟨c4, i4, k4⟩ := u_known hts u_ThumbCore (hts _ wn_ThumbCore)
  obtain ⟨c5, i5, k5⟩ := u_known hts u_ThumbCoreModel (hts _ wn_ThumbCoreModel)
  obtain ⟨cI, kI, mI, f1, f2, f3⟩ := Cond.arrayClass_spec (hts _ wa_int)
  obtain ⟨cB, kB, mB, g1, g2, g3⟩ := Cond.arrayClass_spec (hts _ wa_byte)
  obtain ⟨cZ, kZ, mZ, h1, h2, h3⟩ := Cond.arrayClass_spec (hts _ wa_boolean)
  refine ⟨(fun k => [c0, c1, c2, c3, c4, c5].getD k c0, fun k => [i0, i1, i2, i3, i4, i5].getD k i0), cI, cB, cZ, ?_, ?_⟩
  · intro k q hq
    have hc : k < 6 := (List.getElem?_eq_some_iff.mp hq).1
    rcases (show k = 0 ∨ k = 1 ∨ k = 2 ∨ k = 3 ∨ k = 4 ∨ k = 5 by omega) with rfl | rfl | rfl | rfl | rfl | rfl
    · cases hq
      exact k0
    · cases hq
      exact k1
    · cases hq
      exact k2
    · cases hq
      exact k3
    · cases hq
      exact k4
    · cases hq
      exact k5
  · intro k q hq
    have hc : k < 3 := (List.getElem?_eq_some_iff.mp hq).1
    rcases (show k = 0 ∨ k = 1 ∨ k = 2 by omega) with rfl | rfl | rfl
    · cases hq
      exact ⟨fun n z => ⟨fun k h => (by cases h), kI, f2, mI, f3⟩, f1⟩
    · cases hq
      exact ⟨fun n z => ⟨fun k h => (by cases h), kB, g2, mB, g3⟩, g1⟩
    · cases hq
      exact ⟨fun n z => ⟨fun k h => (by cases h), kZ, h2, mZ, h3⟩, h1⟩

theorem lw_laid {s : State} {b : Nat} (hts0 : ∀ w ∈ lw_tbl, w.before #[Value.ref b] s = true) (hgv : (Jvm.Cond.and given_1 narrow_1).before #[Value.ref b] s = true) : ∃ tL : Nat, va_Z "ThumbCore" "LAID" "[I" (.ref tL) (fun r : Nat => s.heap.size ≤ r) s s.heap ∧ va_T .int tL 6 (fun j => .int (laid j)) (fun r : Nat => s.heap.size ≤ r) s s.heap := by
  have hs := flat_of_before _ hgv
  have hA : ∀ a : Nat, a < s.heap.size → ¬ (fun r : Nat => s.heap.size ≤ r) a := fun a h => Nat.not_le.mpr h
  have harr : (Cond.arrayOf (.static "ThumbCore" "LAID" "[I") .int).before #[Value.ref b] s = true := hs _ (by decide +kernel)
  have hlen := va_eqt (hs (Cond.eq (.length (.static "ThumbCore" "LAID" "[I")) (.int 6)) (by decide +kernel))
  have h0 := va_eqt (hs (Cond.eq (.elem (.static "ThumbCore" "LAID" "[I") (.int 0)) (.int 0)) (by decide +kernel))
  have h1 := va_eqt (hs (Cond.eq (.elem (.static "ThumbCore" "LAID" "[I") (.int 1)) (.int 1)) (by decide +kernel))
  have h2 := va_eqt (hs (Cond.eq (.elem (.static "ThumbCore" "LAID" "[I") (.int 2)) (.int 2)) (by decide +kernel))
  have h3 := va_eqt (hs (Cond.eq (.elem (.static "ThumbCore" "LAID" "[I") (.int 3)) (.int 3)) (by decide +kernel))
  have h4 := va_eqt (hs (Cond.eq (.elem (.static "ThumbCore" "LAID" "[I") (.int 4)) (.int 12)) (by decide +kernel))
  have h5 := va_eqt (hs (Cond.eq (.elem (.static "ThumbCore" "LAID" "[I") (.int 5)) (.int 14)) (by decide +kernel))
  obtain ⟨t, ht, hT⟩ := va_Tof (N := 6) (f := fun j => .int (laid j)) (A := fun r : Nat => s.heap.size ≤ r) (by decide) harr hlen (fun j hj => by
    rcases (show j = 0 ∨ j = 1 ∨ j = 2 ∨ j = 3 ∨ j = 4 ∨ j = 5 by omega) with rfl | rfl | rfl | rfl | rfl | rfl
    · exact h0
    · exact h1
    · exact h2
    · exact h3
    · exact h4
    · exact h5) hA
  exact ⟨t, va_Zof (hts0 (.laysStatic "ThumbCore" "LAID" "[I") (by decide +kernel)) (hts0 (.initialized "ThumbCore") (by decide +kernel)) ht hA, hT⟩


/-- a list's bits are those of 0 .. 14, counted -/
def tc_cl (l : Int32) : Prop := tc_cnt l 15 = (f_Integer_bitCount l).toInt.toNat
theorem tc_bc (x : Int32) : 0 ≤ (f_Integer_bitCount x).toInt ∧ (f_Integer_bitCount x).toInt ≤ 63 := by
  have h : ∃ y : Int32, f_Integer_bitCount x = (y &&& 63) := ⟨_, rfl⟩
  obtain ⟨y, e⟩ := h
  have h := vp_in_iff.mp (pk_andIn y (m := 63) 6 (by decide) (by decide))
  rw [e]
  omega
theorem tc_c0 : ∀ j : Fin 256, tc_cnt (nI j.val) 15 = (f_Integer_bitCount (nI j.val)).toInt.toNat := by decide +kernel
theorem tc_c1 : ∀ j : Fin 256, tc_cnt (nI j.val ||| 16384) 15 = (f_Integer_bitCount (nI j.val ||| 16384)).toInt.toNat := by decide +kernel
theorem tc_c255 (h : Int32) : tc_cl (h &&& 255) := by
  obtain ⟨j, hj, e⟩ := pk_andE h (m := 255) 8 (by decide)
  rw [e]
  exact tc_c0 ⟨j, hj⟩
theorem tc_c16k (h : Int32) : tc_cl ((h &&& 255) ||| 16384) := by
  obtain ⟨j, hj, e⟩ := pk_andE h (m := 255) 8 (by decide)
  rw [e]
  exact tc_c1 ⟨j, hj⟩

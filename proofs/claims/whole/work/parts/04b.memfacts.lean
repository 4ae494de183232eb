/-- a list's bits are those of 0 .. 14, counted -/
def tc_cl (l : Int32) : Prop := tc_cnt l 15 = (f_Integer_bitCount l).toInt.toNat
theorem tc_bc (x : Int32) : 0 ≤ (f_Integer_bitCount x).toInt ∧ (f_Integer_bitCount x).toInt ≤ 63 := by
  have h : ∃ y : Int32, f_Integer_bitCount x = (y &&& 63) := ⟨_, rfl⟩
  obtain ⟨y, e⟩ := h
  have h := vp_in_iff.mp (pk_andIn y (m := 63) 6 (by decide) (by decide))
  rw [e]
  omega
theorem tc_c0 : ∀ j : Fin 256, tc_cnt (nI j.val) 15 = (f_Integer_bitCount (nI j.val)).toInt.toNat := by decide +kernel
theorem tc_c1 : ∀ j : Fin 256, tc_cnt (nI j.val ||| 16384) 15 = (f_Integer_bitCount (nI j.val ||| 16384)).toInt.toNat := by decide +kernel
theorem tc_c255 (h : Int32) : tc_cl (h &&& 255) := by
  obtain ⟨j, hj, e⟩ := pk_andE h (m := 255) 8 (by decide)
  rw [e]
  exact tc_c0 ⟨j, hj⟩
theorem tc_c16k (h : Int32) : tc_cl ((h &&& 255) ||| 16384) := by
  obtain ⟨j, hj, e⟩ := pk_andE h (m := 255) 8 (by decide)
  rw [e]
  exact tc_c1 ⟨j, hj⟩
theorem tc_hfit {q a n : Int32} {w : Nat} (hm : tc_mem q w) (hn : n = 1 ∨ n = 2 ∨ n = 4) (h : f_Memory_holds q a n = true) : tc_fit q a n.toInt.toNat := by
  obtain ⟨m1, m2, m3⟩ := hm
  unfold f_Memory_holds at h
  by_cases g1 : a < 0
  · rw [if_pos g1] at h
    cases h
  · rw [if_neg g1] at h
    by_cases g2 : (q - n) < a
    · rw [if_pos g2] at h
      cases h
    · exact tc_pkF ⟨by omega, by omega⟩ hn g1 (Int32.not_lt.mp g2)
theorem tc_hok {q a n : Int32} {w : Nat} (hm : tc_mem q w) (hn : n = 1 ∨ n = 2 ∨ n = 4) (h : f_Memory_holds q a n = true) : tc_ok q a := by
  have h2 := tc_n4 hn
  exact tc_fit0 (tc_hfit hm hn h) (by omega)
theorem tc_isT {q a n : Int32} (h : f_Memory_isThere q a n = true) : f_Memory_holds q a n = true := by
  unfold f_Memory_isThere at h
  dsimp only [bd] at h
  by_cases g1 : ¬ (a &&& (n - 1)) = 0
  · rw [if_pos g1] at h
    cases h
  · rw [if_neg g1] at h
    by_cases g2 : bI (f_Memory_holds q a n) = 0
    · rw [if_pos g2] at h
      cases h
    · exact tc_bT rfl g2
theorem tc_isOk {q a n : Int32} {w : Nat} (hm : tc_mem q w) (hn : n = 1 ∨ n = 2 ∨ n = 4) (h : f_Memory_isThere q a n = true) : tc_ok q a := tc_hok hm hn (tc_isT h)
theorem tc_areT {q a c : Int32} {w : Nat} (hm : tc_mem q w) (hc : 0 ≤ c.toInt ∧ c.toInt ≤ 64) (h : f_Memory_areThere q a c = true) : 0 ≤ a.toInt ∧ a.toInt + 4 * c.toInt ≤ q.toInt := by
  obtain ⟨m1, m2, m3⟩ := hm
  have e := tc_mul4 hc.1 (by omega)
  unfold f_Memory_areThere at h
  by_cases g0 : ¬ (a &&& 3) = 0
  · rw [if_pos g0] at h
    cases h
  · rw [if_neg g0] at h
    by_cases g1 : a < 0
    · rw [if_pos g1] at h
      cases h
    · rw [if_neg g1] at h
      by_cases g2 : (q - (4 * c)) < a
      · rw [if_pos g2] at h
        cases h
      · have g3 := Int32.not_lt.mp g2
        rw [Int32.le_iff_toInt_le, tc_sub (by rw [e]; omega) (by rw [e]; omega), e] at g3
        exact ⟨tc_glt g1, by omega⟩
theorem tc_aT8 {q a : Int32} {w : Nat} (hm : tc_mem q w) (h : f_Memory_areThere q a 8 = true) : tc_fit q a 32 := by
  have e : (8 : Int32).toInt = 8 := by decide
  have h2 := tc_areT hm (by rw [e]; omega) h
  rw [e] at h2
  exact ⟨h2.1, by omega⟩
theorem tc_runE {q a l : Int32} (hc : tc_cl l) (h : 0 ≤ a.toInt ∧ a.toInt + 4 * (f_Integer_bitCount l).toInt ≤ q.toInt) : tc_run q a l 0 := by
  have hb := tc_bc l
  have e0 : 15 - (0 : Int32).toInt.toNat = 15 := by decide
  unfold tc_run
  rw [e0, hc]
  omega

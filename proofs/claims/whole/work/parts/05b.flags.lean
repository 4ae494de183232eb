theorem p_shown (a b : Bool) (x : Int32) : f_ThumbCoreModel_shown a b x = f_Flags_mark a b x := rfl
theorem p_mark (a b : Bool) (x : Int32) : f_Flags_mark a b x = (x, decide (x < 0), decide (x = 0)) := by
  have e1 : decide (x < 0) = !decide (0 ≤ x) := by
    by_cases h : 0 ≤ x
    · simp [h, Int32.not_lt.mpr h]
    · simp [h, Int32.not_le.mp h]
  rw [e1]
  unfold f_Flags_mark k_Flags_mark_10 k_Flags_mark_23
  by_cases h : 0 ≤ x <;> by_cases h3 : x = 0 <;> simp [h, h3]
theorem p_low (x : Int32) : (x.toInt64 &&& 4294967295).toInt32 = x := by
  apply Int32.toBitVec_inj.mp
  apply BitVec.eq_of_getLsbD_eq
  intro i hi
  show ((x.toBitVec.signExtend 64 &&& 4294967295#64).signExtend 32).getLsbD i = _
  have hM : (4294967295#64).getLsbD i = true := (by decide +kernel : ∀ i, i < 32 → (4294967295#64).getLsbD i = true) i hi
  have hi2 : i < 64 := by omega
  rw [BitVec.getLsbD_signExtend, if_pos hi2, BitVec.getLsbD_and, BitVec.getLsbD_signExtend, if_pos hi, hM]
  simp [hi, hi2]
theorem p_carry {a b : Nat} (ha : a < 2 ^ 32) (hb : b < 2 ^ 32) (k : Int32) (hk : k = 0 ∨ k = 1) : (lg_cmp (o_lushr (lN a + lN b + k.toInt64) 32) 0 = 0) ↔ (lg_cmp (lN a + lN b + k.toInt64) 4294967295 ≤ 0) := by
  have hj : ∃ j : Nat, j < 2 ∧ k.toInt64 = lN j := by
    rcases hk with rfl | rfl
    · exact ⟨0, by decide, by decide⟩
    · exact ⟨1, by decide, by decide⟩
  obtain ⟨j, hj, e⟩ := hj
  rw [e, lN_add, lN_add, lg_cmp_eq, lg_cmp_le]
  have e1 : o_lushr (lN (a + b + j)) 32 = lN ((a + b + j) / 2 ^ 32) := wb_shr (k := 32) (by omega) (by decide)
  have e0 : (0 : Int64) = lN 0 := by decide
  have e2 : (4294967295 : Int64) = lN 4294967295 := by decide
  rw [e1, e0, e2, pk_lEQ (by omega) (by decide), pk_lLE (by omega) (by decide)]
  omega
theorem p_sum (n z c v : Bool) (x y k : Int32) (hk : k = 0 ∨ k = 1) : f_ThumbCoreModel_sum n z c v x y k = f_Flags_add n z c v x y k := by
  have h1 : (((x.toInt64 &&& 4294967295) + (y.toInt64 &&& 4294967295)) + k.toInt64).toInt32 = (x + y) + k := by
    rw [lg_l2i_add, lg_l2i_add, p_low, p_low, lg_l2i_i2l]
  have h2 : (lg_cmp (o_lushr (((x.toInt64 &&& 4294967295) + (y.toInt64 &&& 4294967295)) + k.toInt64) 32) 0 = 0) ↔ (lg_cmp (((x.toInt64 &&& 4294967295) + (y.toInt64 &&& 4294967295)) + k.toInt64) 4294967295 ≤ 0) := by
    obtain ⟨a, ha, ea⟩ := pf_andw x.toInt64
    obtain ⟨b, hb, eb⟩ := pf_andw y.toInt64
    rw [ea, eb]
    exact p_carry ha hb k hk
  unfold f_ThumbCoreModel_sum f_Flags_add
  simp only [bd]
  rw [h1]
  by_cases g : lg_cmp (((x.toInt64 &&& 4294967295) + (y.toInt64 &&& 4294967295)) + k.toInt64) 4294967295 ≤ 0
  · rw [if_pos g, if_pos (h2.mpr g)]
    rfl
  · rw [if_neg g, if_neg (fun q => g (h2.mp q))]
    rfl
theorem p_bits : ∀ n z c v : Bool, o_ishl (f_ThumbCoreModel_bits n z c v) 28 = f_Flags_bits n z c v := by decide +kernel
theorem p_fbits : ∀ n z c v a b d e : Bool, f_ThumbCoreModel_flags a b d e (f_ThumbCoreModel_bits n z c v) = (n, z, c, v) := by decide +kernel
theorem p_status (n z c v : Bool) (cu : Int32) : f_ThumbCoreModel_status n z c v cu = ((f_Flags_bits n z c v ||| 16777216) ||| cu) := by
  unfold f_ThumbCoreModel_status
  simp only [bd]
  rw [p_bits]

theorem b_i16 (x : Int32) {i : Nat} (hi : i < 32) : bt (x.toInt16.toInt32) i = bt x (min i 15) := by
  unfold bt
  show ((x.toBitVec.signExtend 16).signExtend 32).getLsbD i = _
  rw [BitVec.getLsbD_signExtend]
  by_cases h : i < 16
  · have e : min i 15 = i := by omega
    rw [if_pos h, BitVec.getLsbD_signExtend, if_pos hi, e]
    simp [h, hi]
  · have e : min i 15 = 15 := by omega
    rw [if_neg h, BitVec.msb_eq_getLsbD_last, BitVec.getLsbD_signExtend, e]
    simp [hi]
theorem t_ul (x : Int32) {n : Nat} (hn : n < 32) (i : Nat) : bt (o_iushr x (nI n)) i = bt x (n + i) := b_ushr n hn x i
theorem t_sl (x : Int32) {n : Nat} (hn : n < 32) {i : Nat} (hi : i < 32) : bt (o_ishl x (nI n)) i = (decide (n ≤ i) && bt x (i - n)) := b_shl n hn x hi
/-- the bytes of each half the other way round -/
def hsw (x : Int32) : Int32 := (o_ishl (x &&& 16711935) 8) ||| ((o_iushr x 8) &&& 16711935)
theorem t_m1 : ∀ i : Nat, i < 32 → bt 16711935 i = (decide (i < 8) || (decide (16 ≤ i) && decide (i < 24))) := by decide +kernel
theorem t_m2 : ∀ i : Nat, i < 32 → bt 65280 i = (decide (8 ≤ i) && decide (i < 16)) := by decide +kernel
theorem t_hsw (x : Int32) {i : Nat} (hi : i < 32) : bt (hsw x) i = if i < 8 then bt x (i + 8) else if i < 16 then bt x (i - 8) else if i < 24 then bt x (i + 8) else bt x (i - 8) := by
  have s8 : bt (o_ishl (x &&& 16711935) 8) i = (decide (8 ≤ i) && bt (x &&& 16711935) (i - 8)) := t_sl (n := 8) _ (by decide) hi
  have u8 : bt (o_iushr x 8) i = bt x (8 + i) := t_ul (n := 8) x (by decide) i
  unfold hsw
  rw [b_or, s8, b_and, b_and, u8, t_m1 i hi, t_m1 (i - 8) (by omega), Nat.add_comm 8 i]
  by_cases h8 : i < 8
  · have n8 : ¬ 8 ≤ i := by omega
    simp [h8, n8]
  by_cases h16 : i < 16
  · have a1 : 8 ≤ i := by omega
    have a2 : i - 8 < 8 := by omega
    have a3 : ¬ 16 ≤ i := by omega
    simp [h8, h16, a1, a2, a3]
  by_cases h24 : i < 24
  · have a1 : 8 ≤ i := by omega
    have a2 : ¬ i - 8 < 8 := by omega
    have a3 : 16 ≤ i := by omega
    have a4 : ¬ 16 ≤ i - 8 := by omega
    simp [h8, h16, h24, a1, a2, a3, a4]
  · have a1 : 8 ≤ i := by omega
    have a2 : ¬ i - 8 < 8 := by omega
    have a4 : 16 ≤ i - 8 := by omega
    have a5 : i - 8 < 24 := by omega
    simp [h8, h16, h24, a1, a2, a4, a5]
theorem t_turn (x : Int32) {i : Nat} (hi : i < 32) : bt (f_ThumbCoreModel_turned x) i = if i < 8 then bt x (i + 24) else if i < 16 then bt x (i + 8) else if i < 24 then bt x (i - 8) else bt x (i - 24) := by
  have s24 : bt (o_ishl x 24) i = (decide (24 ≤ i) && bt x (i - 24)) := t_sl (n := 24) _ (by decide) hi
  have s8 : bt (o_ishl (x &&& 65280) 8) i = (decide (8 ≤ i) && bt (x &&& 65280) (i - 8)) := t_sl (n := 8) _ (by decide) hi
  have u8 : bt (o_iushr x 8) i = bt x (8 + i) := t_ul (n := 8) x (by decide) i
  have u24 : bt (o_iushr x 24) i = bt x (24 + i) := t_ul (n := 24) x (by decide) i
  unfold f_ThumbCoreModel_turned
  rw [b_or, b_or, b_or, s24, s8, b_and, b_and, u8, u24, t_m2 i hi, t_m2 (i - 8) (by omega), Nat.add_comm 8 i, Nat.add_comm 24 i]
  by_cases h8 : i < 8
  · have n8 : ¬ 8 ≤ i := by omega
    have n24 : ¬ 24 ≤ i := by omega
    simp [h8, n8, n24]
  have z24 : bt x (i + 24) = false := b_big (by omega)
  by_cases h16 : i < 16
  · have a1 : 8 ≤ i := by omega
    have a2 : ¬ 8 ≤ i - 8 := by omega
    have a3 : ¬ 24 ≤ i := by omega
    simp [h8, h16, a1, a2, a3, z24]
  by_cases h24 : i < 24
  · have a1 : 8 ≤ i := by omega
    have a2 : 8 ≤ i - 8 := by omega
    have a3 : i - 8 < 16 := by omega
    have a4 : ¬ 24 ≤ i := by omega
    simp [h8, h16, h24, a1, a2, a3, a4, z24]
  · have a2 : ¬ i - 8 < 16 := by omega
    have a4 : 24 ≤ i := by omega
    simp [h8, h16, h24, a2, a4, z24]
theorem t_16 (y : Int32) {i : Nat} (hi : i < 32) : bt ((o_ishl y 16) ||| (o_iushr y 16)) i = if i < 16 then bt y (i + 16) else bt y (i - 16) := by
  have s16 : bt (o_ishl y 16) i = (decide (16 ≤ i) && bt y (i - 16)) := t_sl (n := 16) _ (by decide) hi
  have u16 : bt (o_iushr y 16) i = bt y (16 + i) := t_ul (n := 16) y (by decide) i
  rw [b_or, s16, u16, Nat.add_comm 16 i]
  by_cases h : i < 16
  · have n : ¬ 16 ≤ i := by omega
    simp [h, n]
  · have n : 16 ≤ i := by omega
    have z : bt y (i + 16) = false := b_big (by omega)
    simp [h, n, z]
theorem t_sw0 (x : Int32) : ((o_ishl (hsw x) 16) ||| (o_iushr (hsw x) 16)) = f_ThumbCoreModel_turned x := by
  apply b_ext
  intro i hi
  rw [t_16 _ hi, t_turn x hi]
  by_cases h : i < 16
  · rw [if_pos h, t_hsw x (by omega)]
    by_cases h8 : i < 8
    · rw [if_pos h8, if_neg (by omega), if_neg (by omega), if_pos (by omega)]
    · rw [if_neg h8, if_pos h, if_neg (by omega), if_neg (by omega), if_neg (by omega)]
      congr 1
  · rw [if_neg h, t_hsw x (by omega), if_neg (show ¬ i < 8 by omega), if_neg h]
    by_cases h24 : i < 24
    · rw [if_pos (show i - 16 < 8 by omega), if_pos h24]
      congr 1
      omega
    · rw [if_neg (show ¬ i - 16 < 8 by omega), if_pos (show i - 16 < 16 by omega), if_neg h24]
      congr 1
theorem t_sw1 (x : Int32) : ((o_ishl (f_ThumbCoreModel_turned x) 16) ||| (o_iushr (f_ThumbCoreModel_turned x) 16)) = hsw x := by
  apply b_ext
  intro i hi
  rw [t_16 _ hi, t_hsw x hi]
  by_cases h : i < 16
  · rw [if_pos h, t_turn x (by omega), if_neg (show ¬ i + 16 < 8 by omega), if_neg (show ¬ i + 16 < 16 by omega)]
    by_cases h8 : i < 8
    · rw [if_pos h8, if_pos (show i + 16 < 24 by omega)]
      congr 1
    · rw [if_neg h8, if_pos h, if_neg (show ¬ i + 16 < 24 by omega)]
      congr 1
  · rw [if_neg h, t_turn x (by omega), if_neg (show ¬ i < 8 by omega), if_neg h]
    by_cases h24 : i < 24
    · rw [if_pos (show i - 16 < 8 by omega), if_pos h24]
      congr 1
      omega
    · rw [if_neg (show ¬ i - 16 < 8 by omega), if_pos (show i - 16 < 16 by omega), if_neg h24]
      congr 1
      omega
theorem t_sw3 (x : Int32) : (hsw x).toInt16.toInt32 = ((o_ishl x 8) ||| ((o_ishr x 8) &&& 255)).toInt16.toInt32 := by
  apply b_ext
  intro i hi
  have hm : min i 15 < 32 := by omega
  rw [b_i16 _ hi, b_i16 _ hi, t_hsw x hm]
  have s8 : bt (o_ishl x 8) (min i 15) = (decide (8 ≤ min i 15) && bt x (min i 15 - 8)) := t_sl (n := 8) _ (by decide) hm
  have r8 : bt (o_ishr x 8) (min i 15) = bt x (min (8 + min i 15) 31) := s_sshr x (m := 8) (by decide) hm
  rw [b_or, s8, b_and, r8, b_255]
  by_cases h : min i 15 < 8
  · have a1 : ¬ 8 ≤ min i 15 := by omega
    have a2 : min (8 + min i 15) 31 = min i 15 + 8 := by omega
    rw [if_pos h, a2, decide_eq_false a1, decide_eq_true h]
    simp
  · have a1 : 8 ≤ min i 15 := by omega
    have a3 : min i 15 < 16 := by omega
    rw [if_neg h, if_pos a3, decide_eq_true a1, decide_eq_false h]
    simp

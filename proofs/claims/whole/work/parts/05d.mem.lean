theorem m_rbit (w : Nat → Int32) {j n i : Nat} (hj : j < 2 ^ 31) (hn : n = 1 ∨ n = 2 ∨ n = 4) (hi : i < 32) : bt (f_Memory_read w (nI j) (nI n)) i = (decide (i < 8 * n) && bt (w (j / 4)) (8 * (j % 4) + i)) := by
  have hu : 8 * (j % 4) < 32 := by omega
  unfold f_Memory_read
  simp only [bd]
  rw [m_at hj, m_up hj, b_and, m_L n hn i hi]
  show (bt (((w (j / 4)).toUInt32 >>> ((nI (8 * (j % 4))).toUInt32 &&& Int32.toUInt32 31)).toInt32) i && _) = _
  rw [b_ushr _ hu, Bool.and_comm]
theorem m_step (x b : Int32) {i : Nat} (hi : i < 32) : bt (o_ishl x 8 ||| (b &&& 255)) i = if i < 8 then bt b i else bt x (i - 8) := by
  rw [b_or, b_and, b_255]
  show (bt (x <<< ((8 : Int32) &&& 31)) i || _) = _
  rw [b_shl8 x hi]
  by_cases h : i < 8
  · have h2 : ¬ 8 ≤ i := by omega
    simp [h, h2]
  · have h2 : 8 ≤ i := by omega
    simp [h, h2]
theorem m_mr1 (q : Int32) (m : Nat → Int32) (bad : Bool) (y : Int32) : k_ThumbCoreModel_read_23 q m 2 bad y 0 (1 - 1) = (o_ishl 0 8 ||| (m (y + (1 - 1)).toNatClampNeg &&& 255), bad) := rfl
theorem m_mr2 (q : Int32) (m : Nat → Int32) (bad : Bool) (y : Int32) : k_ThumbCoreModel_read_23 q m 3 bad y 0 (2 - 1) = (o_ishl (o_ishl 0 8 ||| (m (y + (2 - 1)).toNatClampNeg &&& 255)) 8 ||| (m (y + (2 - 1 + (-1))).toNatClampNeg &&& 255), bad) := rfl
theorem m_mr4 (q : Int32) (m : Nat → Int32) (bad : Bool) (y : Int32) : k_ThumbCoreModel_read_23 q m 5 bad y 0 (4 - 1) = (o_ishl (o_ishl (o_ishl (o_ishl 0 8 ||| (m (y + (4 - 1)).toNatClampNeg &&& 255)) 8 ||| (m (y + (4 - 1 + (-1))).toNatClampNeg &&& 255)) 8 ||| (m (y + (4 - 1 + (-1) + (-1))).toNatClampNeg &&& 255)) 8 ||| (m (y + (4 - 1 + (-1) + (-1) + (-1))).toNatClampNeg &&& 255), bad) := rfl
theorem m_mread (q : Int32) (w : Nat → Int32) (bad : Bool) {j n : Nat} (hj : j + 4 < 2 ^ 31) (hn : n = 1 ∨ n = 2 ∨ n = 4) (ha : j % n = 0) : k_ThumbCoreModel_read_23 q (byt w) ((Int32.toInt (nI n - 1) + 1).toNat.succ) bad (nI j) 0 (nI n - 1) = (f_Memory_read w (nI j) (nI n), bad) := by
  rcases hn with rfl | rfl | rfl
  · have c0 : (nI j + (1 - 1)).toNatClampNeg = j := m_nI j 0 _ (by decide) (by omega)
    refine (m_mr1 q (byt w) bad (nI j)).trans ?_
    rw [c0]
    congr 1
    apply b_ext
    intro i hi
    rw [m_step _ _ hi, m_rbit w (by omega) (Or.inl rfl) hi, b_0]
    by_cases h : i < 8
    · rw [if_pos h, m_bb _ _ hi]
      have e : min i 7 = i := by omega
      simp [h, e]
    · simp [h]
  · have c0 : (nI j + (2 - 1 + (-1))).toNatClampNeg = j := m_nI j 0 _ (by decide) (by omega)
    have c1 : (nI j + (2 - 1)).toNatClampNeg = j + 1 := m_nI j 1 _ (by decide) (by omega)
    refine (m_mr2 q (byt w) bad (nI j)).trans ?_
    rw [c0, c1]
    congr 1
    apply b_ext
    intro i hi
    rw [m_step _ _ hi, m_rbit w (by omega) (Or.inr (Or.inl rfl)) hi]
    by_cases h : i < 8
    · have e : min i 7 = i := by omega
      have h2 : i < 8 * 2 := by omega
      rw [if_pos h, m_bb _ _ hi, e]
      simp [h2]
    · rw [if_neg h, m_step _ _ (by omega), b_0]
      by_cases h1 : i - 8 < 8
      · have e : min (i - 8) 7 = i - 8 := by omega
        have h2 : i < 8 * 2 := by omega
        have e2 : (j + 1) / 4 = j / 4 := by omega
        have e3 : 8 * ((j + 1) % 4) + (i - 8) = 8 * (j % 4) + i := by omega
        rw [if_pos h1, m_bb _ _ (by omega), e, e2, e3]
        simp [h2]
      · have h2 : ¬ i < 8 * 2 := by omega
        simp [h1, h2]
  · have c0 : (nI j + (4 - 1 + (-1) + (-1) + (-1))).toNatClampNeg = j := m_nI j 0 _ (by decide) (by omega)
    have c1 : (nI j + (4 - 1 + (-1) + (-1))).toNatClampNeg = j + 1 := m_nI j 1 _ (by decide) (by omega)
    have c2 : (nI j + (4 - 1 + (-1))).toNatClampNeg = j + 2 := m_nI j 2 _ (by decide) (by omega)
    have c3 : (nI j + (4 - 1)).toNatClampNeg = j + 3 := m_nI j 3 _ (by decide) (by omega)
    refine (m_mr4 q (byt w) bad (nI j)).trans ?_
    rw [c0, c1, c2, c3]
    congr 1
    apply b_ext
    intro i hi
    have e4 : 8 * (j % 4) + i = i := by omega
    rw [m_rbit w (by omega) (Or.inr (Or.inr rfl)) hi, e4, m_step _ _ hi]
    have hd : decide (i < 8 * 4) = true := decide_eq_true (by omega)
    rw [hd, Bool.true_and]
    by_cases h : i < 8
    · have e : min i 7 = i := by omega
      have e3 : 8 * (j % 4) + i = i := by omega
      rw [if_pos h, m_bb _ _ hi, e, e3]
    · rw [if_neg h, m_step _ _ (by omega)]
      by_cases h1 : i - 8 < 8
      · have e : min (i - 8) 7 = i - 8 := by omega
        have e2 : (j + 1) / 4 = j / 4 := by omega
        have e3 : 8 * ((j + 1) % 4) + (i - 8) = i := by omega
        rw [if_pos h1, m_bb _ _ (by omega), e, e2, e3]
      · rw [if_neg h1, m_step _ _ (by omega)]
        by_cases h2 : i - 8 - 8 < 8
        · have e : min (i - 8 - 8) 7 = i - 8 - 8 := by omega
          have e2 : (j + 2) / 4 = j / 4 := by omega
          have e3 : 8 * ((j + 2) % 4) + (i - 8 - 8) = i := by omega
          rw [if_pos h2, m_bb _ _ (by omega), e, e2, e3]
        · have e : min (i - 8 - 8 - 8) 7 = i - 8 - 8 - 8 := by omega
          have e2 : (j + 3) / 4 = j / 4 := by omega
          have e3 : 8 * ((j + 3) % 4) + (i - 8 - 8 - 8) = i := by omega
          rw [if_neg h2, m_step _ _ (by omega), if_pos (by omega), m_bb _ _ (by omega), e, e2, e3]
theorem m_n {n : Int32} (hn : n = 1 ∨ n = 2 ∨ n = 4) : ∃ k : Nat, (k = 1 ∨ k = 2 ∨ k = 4) ∧ n = nI k := by
  rcases hn with rfl | rfl | rfl
  · exact ⟨1, Or.inl rfl, by decide⟩
  · exact ⟨2, Or.inr (Or.inl rfl), by decide⟩
  · exact ⟨4, Or.inr (Or.inr rfl), by decide⟩
theorem m_mask {j k : Nat} (hj : j < 2 ^ 31) (hk : k = 1 ∨ k = 2 ∨ k = 4) : nI j &&& (nI k - 1) = nI (j % k) := by
  rcases hk with rfl | rfl | rfl
  · have e : nI 1 - 1 = 0 := by decide
    rw [e, Nat.mod_one]
    exact (pk_andN (by omega) (m := 0) 0 (by decide)).trans (by rw [Nat.pow_zero, Nat.mod_one])
  · have e : nI 2 - 1 = 1 := by decide
    rw [e]
    exact pk_andN (by omega) (m := 1) 1 (by decide)
  · have e : nI 4 - 1 = 3 := by decide
    rw [e]
    exact pk_andN (by omega) (m := 3) 2 (by decide)
theorem p_there (q a n : Int32) (hn : n = 1 ∨ n = 2 ∨ n = 4) : f_ThumbCoreModel_there q a n = f_Memory_isThere q a n := by
  obtain ⟨k, hk, rfl⟩ := m_n hn
  unfold f_ThumbCoreModel_there f_Memory_isThere f_Memory_holds
  simp only [bd]
  by_cases g : a < 0
  · simp only [if_pos g]
    split <;> rfl
  · obtain ⟨j, hj, rfl⟩ := nI_of g
    have h0 : 0 < k := by rcases hk with h | h | h <;> omega
    have e1 : o_irem (nI j) (nI k) = nI (j % k) := pk_rem hj h0 (by rcases hk with h | h | h <;> omega)
    rw [e1, m_mask hj hk]
    simp only [if_neg g]
    by_cases h1 : nI (j % k) = 0
    · simp only [h1, not_true, if_false]
      by_cases h2 : (q - nI k) < nI j
      · simp only [if_pos h2]
        rfl
      · simp only [if_neg h2]
        rfl
    · simp only [h1, not_false_iff, if_true]
theorem p_thereN {q a n : Int32} {nw : Nat} (hm : tc_mem q nw) (hn : n = 1 ∨ n = 2 ∨ n = 4) (h : f_Memory_isThere q a n = true) : ∃ j k : Nat, a = nI j ∧ n = nI k ∧ (k = 1 ∨ k = 2 ∨ k = 4) ∧ j % k = 0 ∧ j + k ≤ 4 * nw ∧ j < 2048 := by
  obtain ⟨h1, h2⟩ := tc_hfit hm hn (tc_isT h)
  obtain ⟨k, hk, rfl⟩ := m_n hn
  obtain ⟨j, hj, rfl⟩ := nI_of (tc_nn h1)
  obtain ⟨m1, m2, m3⟩ := hm
  have hkl : k < 2 ^ 31 := by rcases hk with h | h | h <;> omega
  rw [nI_toInt hj, nI_toInt hkl] at h2
  have ha : j % k = 0 := by
    unfold f_Memory_isThere at h
    by_cases g : ¬ (nI j &&& (nI k - 1)) = 0
    · rw [if_pos g] at h
      cases h
    · have g2 : nI (j % k) = 0 := by
        rw [m_mask hj hk] at g
        exact Decidable.not_not.mp g
      have h0 : 0 < k := by rcases hk with h | h | h <;> omega
      have hl : j % k < k := Nat.mod_lt _ h0
      rcases Nat.eq_zero_or_pos (j % k) with h | h
      · exact h
      · exact absurd g2 (nI_ne0 h (by omega))
  refine ⟨j, k, rfl, rfl, hk, ha, ?_, ?_⟩
  · omega
  · omega
theorem p_read {q : Int32} {nw : Nat} (hm : tc_mem q nw) (w : Nat → Int32) (bad : Bool) (a n : Int32) (hn : n = 1 ∨ n = 2 ∨ n = 4) : f_ThumbCoreModel_read q (byt w) bad a n = if f_Memory_isThere q a n = true then (f_Memory_read w a n, bad) else (0, true) := by
  unfold f_ThumbCoreModel_read
  simp only [bd]
  rw [p_there q a n hn]
  by_cases h : f_Memory_isThere q a n = true
  · obtain ⟨j, k, rfl, rfl, hk, ha, h1, h2⟩ := p_thereN hm hn h
    rw [if_pos h, h, if_pos (by decide)]
    exact m_mread q w bad (by omega) hk ha
  · have h2 : f_Memory_isThere q a n = false := by simpa using h
    rw [if_neg h, h2, if_neg (by decide)]
theorem p_write {q : Int32} {nw : Nat} (hm : tc_mem q nw) (w : Nat → Int32) (bad : Bool) (a v n : Int32) (hn : n = 1 ∨ n = 2 ∨ n = 4) : f_ThumbCoreModel_write q bad (byt w) a v n = if f_Memory_isThere q a n = true then (bad, byt (f_Memory_write w a v n)) else (true, byt w) := by
  unfold f_ThumbCoreModel_write
  simp only [bd]
  rw [p_there q a n hn]
  by_cases h : f_Memory_isThere q a n = true
  · obtain ⟨j, k, rfl, rfl, hk, ha, h1, h2⟩ := p_thereN hm hn h
    rw [if_pos h, h, if_pos (by decide), m_write w v (by omega) hk ha]
    exact m_mwrite q bad (byt w) v (by omega) hk
  · have h2 : f_Memory_isThere q a n = false := by simpa using h
    rw [if_neg h, h2, if_neg (by decide)]
theorem p_put (w : Nat → Int32) {j : Nat} (v : Int32) (hj : j < 2 ^ 31) (ha : j % 4 = 0) : f_Memory_putWord w (nI j) v = f_Memory_write w (nI j) v 4 := by
  unfold f_Memory_write f_Memory_putWord
  simp only [bd]
  rw [m_at hj, m_up hj, ha]
  congr 1
  apply b_ext
  intro i hi
  rw [m_wbit _ _ _ 32 0 m_L4 (by omega) hi, if_pos (by omega), Nat.sub_zero]
theorem p_word (w : Nat → Int32) {j : Nat} (hj : j < 2 ^ 31) (ha : j % 4 = 0) : f_Memory_word w (nI j) = f_Memory_read w (nI j) 4 := by
  apply b_ext
  intro i hi
  have e : (4 : Int32) = nI 4 := by decide
  rw [e, m_rbit w hj (Or.inr (Or.inr rfl)) hi]
  unfold f_Memory_word
  have e4 : 8 * (j % 4) + i = i := by omega
  have hd : decide (i < 8 * 4) = true := decide_eq_true (by omega)
  rw [m_at hj, e4, hd, Bool.true_and]

theorem s_wide (x : Int32) : x.toInt64 &&& 4294967295 = lN x.toBitVec.toNat := by
  apply Int64.toBitVec_inj.mp
  apply BitVec.eq_of_getLsbD_eq
  intro i hi
  show ((x.toBitVec.signExtend 64 &&& 4294967295#64)).getLsbD i = (BitVec.ofNat 64 x.toBitVec.toNat).getLsbD i
  have hR : (BitVec.ofNat 64 x.toBitVec.toNat).getLsbD i = x.toBitVec.toNat.testBit i := by
    rw [BitVec.getLsbD_ofNat]
    simp [hi]
  rw [BitVec.getLsbD_and, BitVec.getLsbD_signExtend, hR]
  by_cases h : i < 32
  · have hM : (4294967295#64).getLsbD i = true := (by decide +kernel : ∀ i, i < 32 → (4294967295#64).getLsbD i = true) i h
    rw [if_pos h, hM]
    simp [hi, BitVec.getLsbD]
  · have hM : (4294967295#64).getLsbD i = false := (by decide +kernel : ∀ i, i < 64 → ¬ i < 32 → (4294967295#64).getLsbD i = false) i hi h
    have ht : x.toBitVec.toNat.testBit i = false := Nat.testBit_lt_two_pow (Nat.lt_of_lt_of_le x.toBitVec.isLt (Nat.pow_le_pow_right (by decide) (by omega)))
    rw [hM, ht]
    simp
theorem s_b64 (y : Int64) {j : Nat} (hj : j < 64) : (o_lshr y (nI j) &&& 1) = if y.toBitVec.getLsbD j = true then 1 else 0 := by
  have hs : (((nI j).toInt64 &&& 63).toBitVec.smod 64).toNat = j := by
    rw [wb_c j hj]
    show ((BitVec.ofNat 64 j).smod 64).toNat = j
    rw [wb_sm j hj, BitVec.toNat_ofNat]
    omega
  have h1 : (o_lshr y (nI j) &&& 1).toBitVec = (y.toBitVec.sshiftRight j) &&& 1#64 := by
    show (y.toBitVec.sshiftRight (((nI j).toInt64 &&& 63).toBitVec.smod 64).toNat) &&& 1#64 = _
    rw [hs]
  have h2 : (y.toBitVec.sshiftRight j).getLsbD 0 = y.toBitVec.getLsbD j := by
    rw [BitVec.getLsbD_sshiftRight]
    simp [hj]
  apply Int64.toBitVec_inj.mp
  rw [h1]
  apply BitVec.eq_of_getLsbD_eq
  intro i hi
  rw [BitVec.getLsbD_and]
  by_cases h0 : i = 0
  · subst h0
    rw [h2]
    by_cases g : y.toBitVec.getLsbD j = true
    · rw [if_pos g, g]
      rfl
    · have g2 : y.toBitVec.getLsbD j = false := by simpa using g
      rw [if_neg g, g2]
      rfl
  · have e1 : (1#64).getLsbD i = false := (by decide +kernel : ∀ i, i < 64 → ¬ i = 0 → (1#64).getLsbD i = false) i hi h0
    rw [e1, Bool.and_false]
    split
    · exact e1.symm
    · exact (BitVec.getLsbD_zero).symm
theorem s_b1 (y : Int32) : (y &&& 1) = if bt y 0 = true then 1 else 0 := by
  apply b_ext
  intro i hi
  rw [b_and]
  by_cases h0 : i = 0
  · subst h0
    by_cases g : bt y 0 = true
    · rw [if_pos g, g]
      rfl
    · have g2 : bt y 0 = false := by simpa using g
      rw [if_neg g, g2]
      rfl
  · have e1 : bt 1 i = false := (by decide +kernel : ∀ i, i < 32 → ¬ i = 0 → bt 1 i = false) i hi h0
    rw [e1, Bool.and_false]
    split
    · exact e1.symm
    · exact (b_0 i).symm
theorem s_is1 (y : Int32) : (y &&& 1) = 1 ↔ bt y 0 = true := by
  rw [s_b1]
  by_cases g : bt y 0 = true
  · simp [g]
  · simp [g]
theorem s_lis1 (y : Int64) {j : Nat} (hj : j < 64) : lg_cmp (o_lshr y (nI j) &&& 1) 1 = 0 ↔ y.toBitVec.getLsbD j = true := by
  rw [lg_cmp_eq, s_b64 y hj]
  by_cases g : y.toBitVec.getLsbD j = true
  · simp [g]
  · simp [g]
theorem s_nat (x : Int32) : x = nI x.toBitVec.toNat := Int32.toBitVec_inj.mp (by show _ = BitVec.ofNat 32 _; simp)
theorem s_shl (x : Int32) {k : Nat} (hk : k < 32) : o_ishl x (nI k) = nI (x.toBitVec.toNat * 2 ^ k) := by
  apply Int32.toBitVec_inj.mp
  apply BitVec.eq_of_toNat_eq
  show (x <<< (nI k &&& 31)).toBitVec.toNat = (BitVec.ofNat 32 (x.toBitVec.toNat * 2 ^ k)).toNat
  rw [pk_shl _ _ k (s_l k hk), BitVec.toNat_ofNat]
theorem s_shlBig (a : Nat) {m : Nat} (hm : 32 ≤ m) : nI (a * 2 ^ m) = 0 := by
  have e : m = (m - 32) + 32 := by omega
  apply Int32.toBitVec_inj.mp
  apply BitVec.eq_of_toNat_eq
  show (BitVec.ofNat 32 (a * 2 ^ m)).toNat = 0
  rw [BitVec.toNat_ofNat, e, Nat.pow_add, ← Nat.mul_assoc]
  exact Nat.mul_mod_left _ _
/-- a result with its N and Z and a carry -/
def mk (r : Int32) (c : Bool) : Int32 × Bool × Bool × Bool := (r, decide (r < 0), decide (r = 0), c)
theorem s_un (n z c : Bool) (r : Int32) : (un3 (f_Flags_mark n z r) (fun r1 s2 s3 => (r1, s2, s3, c))) = mk r c := by
  rw [p_mark]
  rfl
theorem s_mun (n z c : Bool) (r : Int32) : (un3 (f_ThumbCoreModel_shown n z r) (fun r1 s2 s3 => (r1, s2, s3, c))) = mk r c := s_un n z c r
theorem s_k0 {k : Nat} (hk : k ≤ 255) : nI k = 0 ↔ k = 0 := by
  have e : (0 : Int32) = nI 0 := by decide
  rw [e, nI_eq (by omega) (by omega)]
theorem s_le {k : Nat} (hk : k ≤ 255) (j : Nat) (hj : j ≤ 255) : nI k ≤ nI j ↔ k ≤ j := nI_leI (by omega) (by omega)
theorem s_cup (n z c : Bool) (x : Int32) {k : Nat} (hk : k ≤ 255) : f_Flags_moveUp n z c x (nI k) = mk (if k < 32 then o_ishl x (nI k) else 0) (if k = 0 then c else (decide (k ≤ 32) && bt x (32 - k))) := by
  have h31 : ∀ c' : Bool, k_Flags_moveUp_31 n z c' x (nI k) = mk (if k < 32 then o_ishl x (nI k) else 0) c' := by
    intro c'
    unfold k_Flags_moveUp_31 k_Flags_moveUp_45
    have e : (32 : Int32) ≤ nI k ↔ 32 ≤ k := s_le (k := 32) (by omega) k hk
    by_cases g : 32 ≤ k
    · rw [if_pos (e.mpr g), if_neg (by omega), s_un]
    · rw [if_neg (fun q => g (e.mp q)), if_pos (by omega), s_un]
  unfold f_Flags_moveUp k_Flags_moveUp_27 k_Flags_moveUp_28
  by_cases g0 : k = 0
  · rw [if_pos ((s_k0 hk).mpr g0), if_pos g0, h31]
  · rw [if_neg (fun q => g0 ((s_k0 hk).mp q)), if_neg g0]
    have e2 : (32 : Int32) < nI k ↔ 32 < k := nI_ltI (a := 32) (by omega) (by omega)
    by_cases g1 : 32 < k
    · have hd : decide (k ≤ 32) = false := decide_eq_false (by omega)
      rw [if_pos (e2.mpr g1), h31, hd, Bool.false_and]
    · have hd : decide (k ≤ 32) = true := decide_eq_true (by omega)
      have e3 : (32 : Int32) - nI k = nI (32 - k) := (by decide +kernel : ∀ k, k < 33 → (32 : Int32) - nI k = nI (32 - k)) k (by omega)
      have e4 : (o_iushr x (32 - nI k) &&& 1) = 1 ↔ bt x (32 - k) = true := by
        rw [s_is1, e3]
        show bt ((x.toUInt32 >>> ((nI (32 - k)).toUInt32 &&& Int32.toUInt32 31)).toInt32) 0 = true ↔ _
        rw [b_ushr _ (by omega)]
        simp
      rw [if_neg (fun q => g1 (e2.mp q)), hd, Bool.true_and]
      by_cases g2 : bt x (32 - k) = true
      · rw [if_neg (fun q => q (e4.mpr g2)), h31, g2]
      · rw [if_pos (fun q => g2 (e4.mp q)), h31]
        have : bt x (32 - k) = false := by simpa using g2
        rw [this]
theorem s_mup (n z c : Bool) (x : Int32) {k : Nat} (hk : k ≤ 255) : f_ThumbCoreModel_moved n z c 0 x (nI k) = mk (if k < 32 then o_ishl x (nI k) else 0) (if k = 0 then c else (decide (k ≤ 32) && bt x (32 - k))) := by
  unfold f_ThumbCoreModel_moved
  by_cases g0 : k = 0
  · subst g0
    have e0 : o_ishl x (nI 0) = x := by
      rw [s_shl x (by decide), Nat.pow_zero, Nat.mul_one]
      exact (s_nat x).symm
    rw [if_neg (by decide), s_mun, if_pos (by decide), if_pos rfl, e0]
  · rw [if_pos (fun q => g0 ((s_k0 hk).mp q)), if_pos (by decide), if_neg g0]
    unfold k_ThumbCoreModel_moved_26
    have e40 : nI k ≤ 40 ↔ k ≤ 40 := s_le hk 40 (by omega)
    have hcase : ∀ m : Nat, m ≤ 40 → (k < 32 → m = k) → (k ≤ 32 → m = k) → (32 ≤ k → 32 ≤ m) → k_ThumbCoreModel_moved_40 n z c 0 (nI k) (x.toInt64 &&& 4294967295) (nI m) = mk (if k < 32 then o_ishl x (nI k) else 0) (decide (k ≤ 32) && bt x (32 - k)) := by
      intro m hm h1 h1' h2
      unfold k_ThumbCoreModel_moved_40
      rw [if_neg (by decide)]
      simp only [bd]
      have eu : o_lshl (x.toInt64 &&& 4294967295) (nI m) = lN (x.toBitVec.toNat * 2 ^ m) := by
        rw [s_wide]
        exact wb_shl _ (by omega)
      have er : (lN (x.toBitVec.toNat * 2 ^ m)).toInt32 = if k < 32 then o_ishl x (nI k) else 0 := by
        rw [lN_i]
        by_cases g : k < 32
        · rw [if_pos g, s_shl x g, h1 g]
        · rw [if_neg g]
          exact s_shlBig _ (h2 (by omega))
      have e2 : (32 : Int32) < nI k ↔ 32 < k := nI_ltI (a := 32) (by omega) (by omega)
      unfold k_ThumbCoreModel_moved_76 k_ThumbCoreModel_moved_77
      rw [eu, er]
      by_cases g1 : 32 < k
      · have hd : decide (k ≤ 32) = false := decide_eq_false (by omega)
        rw [if_pos (e2.mpr g1), s_mun, hd, Bool.false_and]
      · have hd : decide (k ≤ 32) = true := decide_eq_true (by omega)
        have e4 : lg_cmp (o_lshr (lN (x.toBitVec.toNat * 2 ^ m)) 32 &&& 1) 1 = 0 ↔ bt x (32 - k) = true := by
          refine (s_lis1 _ (j := 32) (by decide)).trans ?_
          show (BitVec.ofNat 64 (x.toBitVec.toNat * 2 ^ m)).getLsbD 32 = true ↔ _
          rw [BitVec.getLsbD_ofNat, ← Nat.shiftLeft_eq, Nat.testBit_shiftLeft, h1' (by omega)]
          have hk2 : decide (32 ≥ k) = true := decide_eq_true (by omega)
          rw [hk2]
          simp [bt, BitVec.getLsbD]
        rw [if_neg (fun q => g1 (e2.mp q)), hd, Bool.true_and]
        by_cases g2 : bt x (32 - k) = true
        · rw [if_neg (fun q => q (e4.mpr g2)), s_mun, g2]
        · rw [if_pos (fun q => g2 (e4.mp q)), s_mun]
          have : bt x (32 - k) = false := by simpa using g2
          rw [this]
    by_cases g : k ≤ 40
    · rw [if_pos (e40.mpr g)]
      exact hcase k g (fun _ => rfl) (fun _ => rfl) (fun h => h)
    · rw [if_neg (fun q => g (e40.mp q))]
      exact hcase 40 (by omega) (fun h => by omega) (fun h => by omega) (fun _ => by omega)
theorem p_up (n z c : Bool) (x : Int32) {k : Nat} (hk : k ≤ 255) : f_ThumbCoreModel_moved n z c 0 x (nI k) = f_Flags_moveUp n z c x (nI k) := (s_mup n z c x hk).trans (s_cup n z c x hk).symm
theorem s_cdn (n z c : Bool) (x : Int32) {k : Nat} (hk : k ≤ 255) : f_Flags_moveDown n z c x (nI k) = mk (if k < 32 then o_iushr x (nI k) else 0) (if k = 0 then c else (decide (k ≤ 32) && bt x (k - 1))) := by
  have h31 : ∀ c' : Bool, k_Flags_moveDown_30 n z c' x (nI k) = mk (if k < 32 then o_iushr x (nI k) else 0) c' := by
    intro c'
    unfold k_Flags_moveDown_30 k_Flags_moveDown_44
    have e : (32 : Int32) ≤ nI k ↔ 32 ≤ k := s_le (k := 32) (by omega) k hk
    by_cases g : 32 ≤ k
    · rw [if_pos (e.mpr g), if_neg (by omega), s_un]
    · rw [if_neg (fun q => g (e.mp q)), if_pos (by omega), s_un]
  unfold f_Flags_moveDown k_Flags_moveDown_26 k_Flags_moveDown_27
  by_cases g0 : k = 0
  · rw [if_pos ((s_k0 hk).mpr g0), if_pos g0, h31]
  · rw [if_neg (fun q => g0 ((s_k0 hk).mp q)), if_neg g0]
    have e2 : (32 : Int32) < nI k ↔ 32 < k := nI_ltI (a := 32) (by omega) (by omega)
    by_cases g1 : 32 < k
    · have hd : decide (k ≤ 32) = false := decide_eq_false (by omega)
      rw [if_pos (e2.mpr g1), h31, hd, Bool.false_and]
    · have hd : decide (k ≤ 32) = true := decide_eq_true (by omega)
      have e3 : nI k - 1 = nI (k - 1) := (by decide +kernel : ∀ k, k < 33 → 0 < k → nI k - 1 = nI (k - 1)) k (by omega) (by omega)
      have e4 : (o_iushr x (nI k - 1) &&& 1) = 1 ↔ bt x (k - 1) = true := by
        rw [s_is1, e3]
        show bt ((x.toUInt32 >>> ((nI (k - 1)).toUInt32 &&& Int32.toUInt32 31)).toInt32) 0 = true ↔ _
        rw [b_ushr _ (by omega)]
        simp
      rw [if_neg (fun q => g1 (e2.mp q)), hd, Bool.true_and]
      by_cases g2 : bt x (k - 1) = true
      · rw [if_neg (fun q => q (e4.mpr g2)), h31, g2]
      · rw [if_pos (fun q => g2 (e4.mp q)), h31]
        have : bt x (k - 1) = false := by simpa using g2
        rw [this]
theorem s_lshr {a m : Nat} (ha : a < 2 ^ 32) (hm : m < 64) : o_lshr (lN a) (nI m) = lN (a / 2 ^ m) := by
  refine pf_shr (a := a) (d := m) ?_ (by omega)
  rw [wb_c m hm]
  show ((BitVec.ofNat 64 m).smod 64).toNat = m
  rw [wb_sm m hm, BitVec.toNat_ofNat]
  omega
theorem s_mdn (n z c : Bool) (x : Int32) {k : Nat} (hk : k ≤ 255) : f_ThumbCoreModel_moved n z c 1 x (nI k) = mk (if k < 32 then o_iushr x (nI k) else 0) (if k = 0 then c else (decide (k ≤ 32) && bt x (k - 1))) := by
  unfold f_ThumbCoreModel_moved
  by_cases g0 : k = 0
  · subst g0
    have e0 : o_iushr x (nI 0) = x := by
      apply b_ext
      intro i hi
      show bt ((x.toUInt32 >>> ((nI 0).toUInt32 &&& Int32.toUInt32 31)).toInt32) i = _
      rw [b_ushr 0 (by decide), Nat.zero_add]
    rw [if_neg (by decide), s_mun, if_pos (by decide), if_pos rfl, e0]
  · rw [if_pos (fun q => g0 ((s_k0 hk).mp q)), if_pos (by decide), if_neg g0]
    unfold k_ThumbCoreModel_moved_26
    have e40 : nI k ≤ 40 ↔ k ≤ 40 := s_le hk 40 (by omega)
    have hcase : ∀ m : Nat, m ≤ 40 → 0 < m → (k ≤ 32 → m = k) → (32 < k → 32 < m) → k_ThumbCoreModel_moved_40 n z c 1 (nI k) (x.toInt64 &&& 4294967295) (nI m) = mk (if k < 32 then o_iushr x (nI k) else 0) (decide (k ≤ 32) && bt x (k - 1)) := by
      intro m hm h0 h1 h2
      unfold k_ThumbCoreModel_moved_40
      have hx := x.toBitVec.isLt
      have er : (o_lshr (x.toInt64 &&& 4294967295) (nI m)).toInt32 = if k < 32 then o_iushr x (nI k) else 0 := by
        rw [s_wide, s_lshr hx (by omega), lN_i]
        by_cases g : k < 32
        · have e : o_iushr (nI x.toBitVec.toNat) (nI k) = nI (x.toBitVec.toNat / 2 ^ k) := pk_ushrN hx (nI k) k (s_u k g)
          rw [if_pos g, h1 (by omega), ← e, ← s_nat x]
        · have h3 : 2 ^ 32 ≤ 2 ^ m := Nat.pow_le_pow_right (by decide) (by
            rcases Nat.lt_or_ge 32 k with h | h
            · exact Nat.le_of_lt (h2 h)
            · have := h1 h
              omega)
          rw [if_neg g, Nat.div_eq_of_lt (by omega)]
          decide
      have ec : lg_cmp (o_lshr (x.toInt64 &&& 4294967295) (nI m - 1) &&& 1) 1 = 0 ↔ (decide (k ≤ 32) && bt x (k - 1)) = true := by
        have e3 : nI m - 1 = nI (m - 1) := (by decide +kernel : ∀ k, k < 41 → 0 < k → nI k - 1 = nI (k - 1)) m (by omega) h0
        rw [e3, s_wide, s_lis1 _ (by omega)]
        show (BitVec.ofNat 64 x.toBitVec.toNat).getLsbD (m - 1) = true ↔ _
        rw [BitVec.getLsbD_ofNat]
        by_cases g : k ≤ 32
        · have hd : decide (m - 1 < 64) = true := decide_eq_true (by omega)
          rw [hd, h1 g]
          simp [g, bt, BitVec.getLsbD]
        · have ht : x.toBitVec.toNat.testBit (m - 1) = false := Nat.testBit_lt_two_pow (Nat.lt_of_lt_of_le hx (Nat.pow_le_pow_right (by decide) (by have := h2 (by omega); omega)))
          rw [ht]
          simp [g]
      unfold k_ThumbCoreModel_moved_108
      rw [if_pos (by decide), er]
      by_cases g2 : (decide (k ≤ 32) && bt x (k - 1)) = true
      · rw [if_neg (fun q => q (ec.mpr g2)), s_mun, g2]
      · rw [if_pos (fun q => g2 (ec.mp q)), s_mun]
        have : (decide (k ≤ 32) && bt x (k - 1)) = false := by simpa using g2
        rw [this]
    by_cases g : k ≤ 40
    · rw [if_pos (e40.mpr g)]
      exact hcase k g (by omega) (fun _ => rfl) (fun h => h)
    · rw [if_neg (fun q => g (e40.mp q))]
      exact hcase 40 (by omega) (by omega) (fun h => by omega) (fun _ => by omega)
theorem p_down (n z c : Bool) (x : Int32) {k : Nat} (hk : k ≤ 255) : f_ThumbCoreModel_moved n z c 1 x (nI k) = f_Flags_moveDown n z c x (nI k) := (s_mdn n z c x hk).trans (s_cdn n z c x hk).symm

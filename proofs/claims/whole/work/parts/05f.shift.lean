theorem s_sx (x : Int32) {p : Nat} (hp : p < 64) : x.toInt64.toBitVec.getLsbD p = bt x (min p 31) := by
  show (x.toBitVec.signExtend 64).getLsbD p = _
  rw [BitVec.getLsbD_signExtend]
  unfold bt
  by_cases h : p < 32
  · have e : min p 31 = p := by omega
    rw [if_pos h, e]
    simp [hp]
  · have e : min p 31 = 31 := by omega
    rw [if_neg h, BitVec.msb_eq_getLsbD_last, e]
    simp [hp]
theorem s_slr (x : Int32) {m : Nat} (hm : m ≤ 40) {i : Nat} (hi : i < 32) : bt ((o_lshr x.toInt64 (nI m)).toInt32) i = bt x (min (m + i) 31) := by
  have hs : (((nI m).toInt64 &&& 63).toBitVec.smod 64).toNat = m := by
    rw [wb_c m (by omega)]
    show ((BitVec.ofNat 64 m).smod 64).toNat = m
    rw [wb_sm m (by omega), BitVec.toNat_ofNat]
    omega
  show ((x.toInt64.toBitVec.sshiftRight (((nI m).toInt64 &&& 63).toBitVec.smod 64).toNat).signExtend 32).getLsbD i = _
  have hi2 : i < 64 := by omega
  have hd : decide (i < 32) = true := decide_eq_true hi
  have hd2 : decide (64 ≤ i) = false := decide_eq_false (by omega)
  rw [hs, BitVec.getLsbD_signExtend, if_pos hi2, hd, Bool.true_and, BitVec.getLsbD_sshiftRight, hd2, Bool.not_false, Bool.true_and]
  by_cases h : m + i < 64
  · rw [if_pos h, s_sx x h]
  · have e : min (m + i) 31 = min 63 31 := by omega
    rw [if_neg h, BitVec.msb_eq_getLsbD_last, e]
    exact s_sx x (by decide)
theorem s_min {k : Nat} (hk : k ≤ 255) : o_min (nI k) 31 = nI (min k 31) := by
  have e : (31 : Int32) < nI k ↔ 31 < k := nI_ltI (a := 31) (by omega) (by omega)
  unfold o_min
  by_cases g : 31 < k
  · have e2 : min k 31 = 31 := by omega
    rw [if_pos (e.mpr g), e2]
    decide
  · have e2 : min k 31 = k := by omega
    rw [if_neg (fun q => g (e.mp q)), e2]
theorem s_sshr (x : Int32) {m : Nat} (hm : m < 32) {i : Nat} (hi : i < 32) : bt (o_ishr x (nI m)) i = bt x (min (m + i) 31) := by
  show bt (x >>> (nI m &&& 31)) i = _
  rw [b_sshr m hm x hi]
  by_cases h : m + i < 32
  · have e : min (m + i) 31 = m + i := by omega
    rw [if_pos h, e]
  · have e : min (m + i) 31 = 31 := by omega
    rw [if_neg h, e]
theorem s_csg (n z c : Bool) (x : Int32) {k : Nat} (hk : k ≤ 255) : f_Flags_moveDownSigned n z c x (nI k) = mk (o_ishr x (nI (min k 31))) (if k = 0 then c else bt x (min (k - 1) 31)) := by
  unfold f_Flags_moveDownSigned k_Flags_moveDownSigned_26 k_Flags_moveDownSigned_29
  rw [s_min hk]
  by_cases g0 : k = 0
  · rw [if_pos ((s_k0 hk).mpr g0), if_pos g0, s_un]
  · have e3 : nI k - 1 = nI (k - 1) := (by decide +kernel : ∀ k, k < 256 → 0 < k → nI k - 1 = nI (k - 1)) k (by omega) (by omega)
    have e4 : (o_ishr x (o_min (nI k - 1) 31) &&& 1) = 1 ↔ bt x (min (k - 1) 31) = true := by
      rw [s_is1, e3, s_min (by omega), s_sshr x (by omega) (by decide)]
      have e : min (min (k - 1) 31 + 0) 31 = min (k - 1) 31 := by omega
      rw [e]
    rw [if_neg (fun q => g0 ((s_k0 hk).mp q)), if_neg g0]
    by_cases g2 : bt x (min (k - 1) 31) = true
    · rw [if_neg (fun q => q (e4.mpr g2)), s_un, g2]
    · rw [if_pos (fun q => g2 (e4.mp q)), s_un]
      have : bt x (min (k - 1) 31) = false := by simpa using g2
      rw [this]
theorem s_msg (n z c : Bool) (x : Int32) {k : Nat} (hk : k ≤ 255) : f_ThumbCoreModel_moved n z c 2 x (nI k) = mk (o_ishr x (nI (min k 31))) (if k = 0 then c else bt x (min (k - 1) 31)) := by
  unfold f_ThumbCoreModel_moved
  by_cases g0 : k = 0
  · subst g0
    have e0 : o_ishr x (nI (min 0 31)) = x := by
      apply b_ext
      intro i hi
      rw [s_sshr x (by decide) hi]
      congr 1
      omega
    rw [if_neg (by decide), s_mun, if_pos rfl, e0]
  · rw [if_pos (fun q => g0 ((s_k0 hk).mp q)), if_neg (by decide), if_neg g0]
    unfold k_ThumbCoreModel_moved_26
    have e40 : nI k ≤ 40 ↔ k ≤ 40 := s_le hk 40 (by omega)
    have hcase : ∀ m : Nat, m ≤ 40 → 0 < m → (min m 32 = min k 32) → k_ThumbCoreModel_moved_40 n z c 2 (nI k) x.toInt64 (nI m) = mk (o_ishr x (nI (min k 31))) (bt x (min (k - 1) 31)) := by
      intro m hm h0 h1
      unfold k_ThumbCoreModel_moved_40
      have er : (o_lshr x.toInt64 (nI m)).toInt32 = o_ishr x (nI (min k 31)) := by
        apply b_ext
        intro i hi
        rw [s_slr x hm hi, s_sshr x (by omega) hi]
        congr 1
        omega
      have ec : lg_cmp (o_lshr x.toInt64 (nI m - 1) &&& 1) 1 = 0 ↔ bt x (min (k - 1) 31) = true := by
        have e3 : nI m - 1 = nI (m - 1) := (by decide +kernel : ∀ k, k < 41 → 0 < k → nI k - 1 = nI (k - 1)) m (by omega) h0
        have e5 : min (m - 1) 31 = min (k - 1) 31 := by omega
        rw [e3, s_lis1 _ (by omega), s_sx x (by omega), e5]
      unfold k_ThumbCoreModel_moved_108
      rw [if_pos (by decide), er]
      by_cases g2 : bt x (min (k - 1) 31) = true
      · rw [if_neg (fun q => q (ec.mpr g2)), s_mun, g2]
      · rw [if_pos (fun q => g2 (ec.mp q)), s_mun]
        have : bt x (min (k - 1) 31) = false := by simpa using g2
        rw [this]
    by_cases g : k ≤ 40
    · rw [if_pos (e40.mpr g)]
      exact hcase k g (by omega) rfl
    · rw [if_neg (fun q => g (e40.mp q))]
      exact hcase 40 (by omega) (by omega) (by omega)
theorem p_sgn (n z c : Bool) (x : Int32) {k : Nat} (hk : k ≤ 255) : f_ThumbCoreModel_moved n z c 2 x (nI k) = f_Flags_moveDownSigned n z c x (nI k) := (s_msg n z c x hk).trans (s_csg n z c x hk).symm
/-- turned round downwards -/
def trn (x y : Int32) : Int32 := (o_iushr x (y &&& 31)) ||| (o_ishl x ((32 - y) &&& 31))
theorem s_tk : ∀ k : Nat, k < 256 → ¬ (nI k &&& 31) = 0 → ((32 : Int32) - (nI k &&& 31)) &&& 31 = (((32 : Int32) - nI k) &&& 31) &&& 31 := by decide +kernel
theorem s_tk0 : ∀ k : Nat, k < 256 → (nI k &&& 31) = 0 → (((32 : Int32) - nI k) &&& 31) = nI 0 := by decide +kernel
theorem s_trn0 (x : Int32) {k : Nat} (hk : k < 256) (h : (nI k &&& 31) = 0) : trn x (nI k) = x := by
  unfold trn
  rw [s_tk0 k hk h, h]
  apply b_ext
  intro i hi
  rw [b_or]
  show (bt ((x.toUInt32 >>> ((nI 0).toUInt32 &&& Int32.toUInt32 31)).toInt32) i || bt (x <<< (nI 0 &&& 31)) i) = _
  rw [b_ushr 0 (by decide), b_shl 0 (by decide) x hi]
  simp
theorem p_turn (n z c : Bool) (x : Int32) {k : Nat} (hk : k < 256) : f_Flags_turnRound n z c x (nI k) = mk (trn x (nI k)) (if k = 0 then c else decide (trn x (nI k) < 0)) := by
  have h23 : ∀ r : Int32, k_Flags_turnRound_23 n z c (nI k) r = mk r (if k = 0 then c else decide (r < 0)) := by
    intro r
    unfold k_Flags_turnRound_23 k_Flags_turnRound_40 k_Flags_turnRound_43
    by_cases g0 : k = 0
    · rw [if_pos ((s_k0 (by omega)).mpr g0), if_pos g0, s_un]
    · rw [if_neg (fun q => g0 ((s_k0 (by omega)).mp q)), if_neg g0]
      by_cases g : 0 ≤ r
      · rw [if_pos g, s_un, decide_eq_false (Int32.not_lt.mpr g)]
      · rw [if_neg g, s_un, decide_eq_true (Int32.not_le.mp g)]
  unfold f_Flags_turnRound
  simp only [bd]
  by_cases g : (nI k &&& 31) = 0
  · rw [if_neg (fun q => q g), h23, s_trn0 x hk g]
  · rw [if_pos g, h23]
    have e : (o_iushr x (nI k &&& 31) ||| o_ishl x (32 - (nI k &&& 31))) = trn x (nI k) := by
      unfold trn o_ishl
      rw [s_tk k hk g]
    rw [e]

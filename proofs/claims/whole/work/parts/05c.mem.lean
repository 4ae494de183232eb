/-- the bytes of words -/
def byt (w : Nat → Int32) : Nat → Int32 := fun a => (o_ishr (w (a / 4)) (nI (8 * (a % 4)))).toInt8.toInt32
theorem b_i8 (x : Int32) {i : Nat} (hi : i < 32) : bt (x.toInt8.toInt32) i = bt x (min i 7) := by
  unfold bt
  show ((x.toBitVec.signExtend 8).signExtend 32).getLsbD i = _
  rw [BitVec.getLsbD_signExtend]
  by_cases h : i < 8
  · have e : min i 7 = i := by omega
    rw [if_pos h, BitVec.getLsbD_signExtend, if_pos hi, e]
    simp [h, hi]
  · have e : min i 7 = 7 := by omega
    rw [if_neg h, BitVec.msb_eq_getLsbD_last, BitVec.getLsbD_signExtend, e]
    simp [hi]
theorem m_bb (w : Nat → Int32) (a : Nat) {i : Nat} (hi : i < 32) : bt (byt w a) i = bt (w (a / 4)) (8 * (a % 4) + min i 7) := by
  unfold byt
  have h7 : min i 7 < 32 := by omega
  have hs : 8 * (a % 4) < 32 := by omega
  rw [b_i8 _ hi]
  show bt (w (a / 4) >>> (nI (8 * (a % 4)) &&& 31)) (min i 7) = _
  rw [b_sshr _ hs _ h7, if_pos (by omega)]
theorem m_vb (v : Int32) (k : Nat) (hk : k < 4) {i : Nat} (hi : i < 32) : bt ((o_ishr v (nI (8 * k))).toInt8.toInt32) i = bt v (8 * k + min i 7) := by
  have h7 : min i 7 < 32 := by omega
  have hs : 8 * k < 32 := by omega
  rw [b_i8 _ hi]
  show bt (v >>> (nI (8 * k) &&& 31)) (min i 7) = _
  rw [b_sshr _ hs _ h7, if_pos (by omega)]
theorem m_at {j : Nat} (hj : j < 2 ^ 31) : (o_iushr (nI j) 2).toNatClampNeg = j / 4 := by
  have e : o_iushr (nI j) 2 = nI (j / 2 ^ 2) := pk_ushrN (by omega) 2 2 (by decide)
  have e4 : j / 2 ^ 2 = j / 4 := rfl
  rw [e, e4, nI_clamp (by omega)]
theorem m_mul8 : ∀ k : Fin 4, (8 : Int32) * nI k.val = nI (8 * k.val) := by decide +kernel
theorem m_up {j : Nat} (hj : j < 2 ^ 31) : (8 : Int32) * (nI j &&& 3) = nI (8 * (j % 4)) := by
  have e : nI j &&& 3 = nI (j % 2 ^ 2) := pk_andN (by omega) (m := 3) 2 (by decide)
  have e4 : j % 2 ^ 2 = j % 4 := rfl
  rw [e, e4]
  exact m_mul8 ⟨j % 4, by omega⟩
theorem m_wbit (w v L : Int32) (m u : Nat) (hL : ∀ i, i < 32 → bt L i = decide (i < m)) (hu : u < 32) {i : Nat} (hi : i < 32) : bt ((w &&& ((o_ishl L (nI u)) ^^^ (-1))) ||| ((o_ishl v (nI u)) &&& (o_ishl L (nI u)))) i = if u ≤ i ∧ i < u + m then bt v (i - u) else bt w i := by
  rw [b_or, b_and, b_and, b_xor, b_m1 i hi]
  show ((bt w i && (bt (L <<< (nI u &&& 31)) i ^^ true)) || (bt (v <<< (nI u &&& 31)) i && bt (L <<< (nI u &&& 31)) i)) = _
  rw [b_shl u hu L hi, b_shl u hu v hi]
  by_cases h1 : u ≤ i
  · rw [hL (i - u) (by omega)]
    by_cases h2 : i < u + m
    · have h3 : i - u < m := by omega
      simp [h1, h2, h3]
    · have h3 : ¬ i - u < m := by omega
      simp [h1, h2, h3]
  · simp [h1]
theorem m_L1 : ∀ i, i < 32 → bt (f_Memory_lowest 1) i = decide (i < 8) := by decide +kernel
theorem m_L2 : ∀ i, i < 32 → bt (f_Memory_lowest 2) i = decide (i < 16) := by decide +kernel
theorem m_L4 : ∀ i, i < 32 → bt (f_Memory_lowest 4) i = decide (i < 32) := by decide +kernel
theorem m_L (n : Nat) (hn : n = 1 ∨ n = 2 ∨ n = 4) : ∀ i, i < 32 → bt (f_Memory_lowest (nI n)) i = decide (i < 8 * n) := by
  rcases hn with rfl | rfl | rfl
  · exact m_L1
  · exact m_L2
  · exact m_L4
/-- n bytes of v from j on -/
def wrb (m : Nat → Int32) (j : Nat) (v : Int32) (n : Nat) : Nat → Int32 := fun a => if j ≤ a ∧ a < j + n then (o_ishr v (nI (8 * (a - j)))).toInt8.toInt32 else m a
theorem m_write (w : Nat → Int32) {j n : Nat} (v : Int32) (hj : j < 2 ^ 31) (hn : n = 1 ∨ n = 2 ∨ n = 4) (ha : j % n = 0) : byt (f_Memory_write w (nI j) v (nI n)) = wrb (byt w) j v n := by
  have hb : j % 4 + n ≤ 4 := by
    rcases hn with rfl | rfl | rfl <;> omega
  unfold f_Memory_write
  simp only [bd]
  rw [m_at hj, m_up hj]
  funext a
  unfold wrb
  have hu : 8 * (j % 4) < 32 := by omega
  by_cases h : a / 4 = j / 4
  · apply b_ext
    intro i hi
    have hp : 8 * (a % 4) + min i 7 < 32 := by omega
    rw [m_bb _ _ hi]
    unfold upd
    rw [if_pos h, m_wbit _ _ _ (8 * n) _ (m_L n hn) hu hp]
    by_cases g : j ≤ a ∧ a < j + n
    · rw [if_pos g, if_pos (by omega), m_vb _ _ (by omega) hi]
      congr 1
      omega
    · rw [if_neg g, if_neg (by omega), m_bb _ _ hi, h]
  · have g : ¬ (j ≤ a ∧ a < j + n) := by omega
    rw [if_neg g]
    unfold byt upd
    rw [if_neg h]
theorem m_i8i8 (x : Int32) : x.toInt8.toInt32.toInt8.toInt32 = x.toInt8.toInt32 := by
  apply b_ext
  intro i hi
  rw [b_i8 _ hi, b_i8 _ (by omega), b_i8 _ hi]
  congr 1
  omega
theorem m_nI (j k : Nat) (x : Int32) (hx : x = nI k) (h : j + k < 2 ^ 31) : (nI j + x).toNatClampNeg = j + k := by
  rw [hx, nI_add, nI_clamp h]
theorem m_mw1 (q : Int32) (bad : Bool) (m : Nat → Int32) (y v : Int32) : k_ThumbCoreModel_write_18 q 2 bad m y v 1 0 = (bad, upd m (y + 0).toNatClampNeg (((o_ishr v (8 * 0)).toInt8.toInt32).toInt8.toInt32)) := rfl
theorem m_mw2 (q : Int32) (bad : Bool) (m : Nat → Int32) (y v : Int32) : k_ThumbCoreModel_write_18 q 3 bad m y v 2 0 = (bad, upd (upd m (y + 0).toNatClampNeg (((o_ishr v (8 * 0)).toInt8.toInt32).toInt8.toInt32)) (y + (0 + 1)).toNatClampNeg (((o_ishr v (8 * (0 + 1))).toInt8.toInt32).toInt8.toInt32)) := rfl
theorem m_mw4 (q : Int32) (bad : Bool) (m : Nat → Int32) (y v : Int32) : k_ThumbCoreModel_write_18 q 5 bad m y v 4 0 = (bad, upd (upd (upd (upd m (y + 0).toNatClampNeg (((o_ishr v (8 * 0)).toInt8.toInt32).toInt8.toInt32)) (y + (0 + 1)).toNatClampNeg (((o_ishr v (8 * (0 + 1))).toInt8.toInt32).toInt8.toInt32)) (y + (0 + 1 + 1)).toNatClampNeg (((o_ishr v (8 * (0 + 1 + 1))).toInt8.toInt32).toInt8.toInt32)) (y + (0 + 1 + 1 + 1)).toNatClampNeg (((o_ishr v (8 * (0 + 1 + 1 + 1))).toInt8.toInt32).toInt8.toInt32)) := rfl
theorem m_wr (m : Nat → Int32) {j : Nat} (v : Int32) (hj : j + 4 < 2 ^ 31) : upd m j (o_ishr v (nI (8 * 0))).toInt8.toInt32 = wrb m j v 1 := by
  funext a
  unfold upd wrb
  by_cases h : a = j
  · subst h
    rw [if_pos rfl, if_pos (by omega), Nat.sub_self]
  · rw [if_neg h, if_neg (by omega)]
theorem m_wrS (m : Nat → Int32) {j k : Nat} (v : Int32) : upd (wrb m j v k) (j + k) (o_ishr v (nI (8 * k))).toInt8.toInt32 = wrb m j v (k + 1) := by
  funext a
  unfold upd wrb
  by_cases h : a = j + k
  · subst h
    rw [if_pos rfl, if_pos (by omega), Nat.add_sub_cancel_left]
  · rw [if_neg h]
    by_cases g : j ≤ a ∧ a < j + k
    · rw [if_pos g, if_pos (by omega)]
    · rw [if_neg g, if_neg (by omega)]
theorem m_mwrite (q : Int32) (bad : Bool) (m : Nat → Int32) {j n : Nat} (v : Int32) (hj : j + 4 < 2 ^ 31) (hn : n = 1 ∨ n = 2 ∨ n = 4) : k_ThumbCoreModel_write_18 q ((Int32.toInt (nI n)).toNat.succ) bad m (nI j) v (nI n) 0 = (bad, wrb m j v n) := by
  have e0 : (8 : Int32) * 0 = nI (8 * 0) := by decide
  have e1 : (8 : Int32) * (0 + 1) = nI (8 * 1) := by decide
  have e2 : (8 : Int32) * (0 + 1 + 1) = nI (8 * 2) := by decide
  have e3 : (8 : Int32) * (0 + 1 + 1 + 1) = nI (8 * 3) := by decide
  have c0 : (nI j + 0).toNatClampNeg = j := m_nI j 0 0 (by decide) (by omega)
  have c1 : (nI j + (0 + 1)).toNatClampNeg = j + 1 := m_nI j 1 _ (by decide) (by omega)
  have c2 : (nI j + (0 + 1 + 1)).toNatClampNeg = j + 2 := m_nI j 2 _ (by decide) (by omega)
  have c3 : (nI j + (0 + 1 + 1 + 1)).toNatClampNeg = j + 3 := m_nI j 3 _ (by decide) (by omega)
  rcases hn with rfl | rfl | rfl
  · refine (m_mw1 q bad m (nI j) v).trans ?_
    rw [e0, c0, m_i8i8, m_wr m v hj]
  · refine (m_mw2 q bad m (nI j) v).trans ?_
    rw [e0, e1, c0, c1, m_i8i8, m_i8i8, m_wr m v hj, m_wrS]
  · refine (m_mw4 q bad m (nI j) v).trans ?_
    rw [e0, e1, e2, e3, c0, c1, c2, c3, m_i8i8, m_i8i8, m_i8i8, m_i8i8, m_wr m v hj, m_wrS, m_wrS, m_wrS]

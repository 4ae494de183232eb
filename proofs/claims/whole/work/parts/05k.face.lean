theorem q_gt15 (x : Int32) : (15 : Int32) < x ↔ (16 : Int32) ≤ x := by
  rw [Int32.lt_iff_toInt_lt, Int32.le_iff_toInt_le]
  have e1 : (15 : Int32).toInt = 15 := by decide
  have e2 : (16 : Int32).toInt = 16 := by decide
  omega
theorem p_register (r : Nat → Int32) (x : Int32) : f_ThumbCoreModel_register r x = f_ThumbCore_register r x := by
  unfold f_ThumbCoreModel_register f_ThumbCore_register
  by_cases g : (15 : Int32) < x
  · rw [if_pos g, if_pos ((q_gt15 x).mp g)]
  · rw [if_neg g, if_neg (fun k => g ((q_gt15 x).mpr k))]
theorem p_set (r : Nat → Int32) (x y : Int32) : f_ThumbCoreModel_set r x y = f_ThumbCore_set r x y := by
  unfold f_ThumbCoreModel_set f_ThumbCore_set f_ThumbCore_fitting k_ThumbCoreModel_set_44
  simp only [bd]
  repeat' split
  all_goals rfl
theorem p_about (mk as lk : Bool) (co cu a : Int32) (pr : Nat → Int32) (x : Int32) (ha : actOK a) : f_ThumbCoreModel_about mk as lk co cu (bt a) pr x = f_ThumbCore_about as lk a cu mk pr co x := by
  unfold f_ThumbCoreModel_about f_ThumbCore_about
  simp only [bd]
  rw [p_actives ha, p_pres]
theorem q_await (p x : Int32) (h : vp_in x 16) : bt (f_Exceptions_await p x) = va_up (bt p) x.toNatClampNeg true := by
  obtain ⟨i, hi, rfl⟩ := vp_in_of h (by decide)
  rw [nI_clamp (by omega), ← x_set p (by omega)]
  rfl
theorem p_pend (p x : Int32) : f_ThumbCoreModel_pend (bt p) x = ((f_ThumbCore_pend p x).1, bt (f_ThumbCore_pend p x).2) := by
  unfold f_ThumbCoreModel_pend f_ThumbCore_pend f_ThumbCoreModel_canWait k_ThumbCore_pend_19
  simp only [bd]
  by_cases g2 : x = 2
  · rw [if_pos g2, if_pos g2, if_pos (by decide), q_await p x (tc_eqin g2 (by show ¬ (_ ∨ _); decide))]
  rw [if_neg g2, if_neg g2]
  by_cases g14 : x = 14
  · rw [if_pos g14, if_pos g14, if_pos (by decide), q_await p x (tc_eqin g14 (by show ¬ (_ ∨ _); decide))]
  rw [if_neg g14, if_neg g14]
  by_cases g15 : x = 15
  · have c1 : ¬ ¬ x = 15 := fun k => k g15
    have c2 : ¬ bI true = 0 := by decide
    rw [if_neg c1, if_pos c2, if_pos g15, q_await p x (tc_eqin g15 (by show ¬ (_ ∨ _); decide))]
  · have c2 : ¬ ¬ bI false = 0 := by decide
    rw [if_pos g15, if_neg c2, if_neg g15]
theorem p_priority (pr : Nat → Int32) (x y : Int32) : f_ThumbCoreModel_priority pr x y = f_ThumbCore_priority pr x y := by
  have e : ∀ b : Int32, k_ThumbCoreModel_priority_18 pr x b = k_ThumbCore_priority_18 pr x b := by
    intro b
    have c1 : ¬ bI true = 0 := by decide
    unfold k_ThumbCoreModel_priority_18 k_ThumbCore_priority_18 k_ThumbCore_priority_23
    rw [if_neg c1]
  unfold f_ThumbCoreModel_priority f_ThumbCore_priority
  rw [e]
  have e2 : k_ThumbCore_priority_23 pr x y false = (false, pr) := rfl
  rw [e2]
theorem p_tick (co rl : Int32) (on : Bool) (x : Int32) (b : Bool) : f_ThumbCoreModel_tick on co rl x b = ((f_ThumbCore_tick co rl on x b).1, (f_ThumbCore_tick co rl on x b).2.2.2, (f_ThumbCore_tick co rl on x b).2.1, (f_ThumbCore_tick co rl on x b).2.2.1) := by
  unfold f_ThumbCoreModel_tick f_ThumbCore_tick f_Counter_begin
  repeat' split
  all_goals rfl
theorem q_isP (p x : Int32) (h0 : ¬ x < 0) (h1 : x ≤ 15) : bI (f_Exceptions_isPending p x) = 0 ↔ bI (bt p x.toNatClampNeg) = 0 := by
  obtain ⟨i, hi, rfl⟩ := vp_in_of (tc_gin2 h0 h1) (by decide)
  unfold f_Exceptions_isPending
  rw [nI_clamp (by omega), if_neg h0, if_neg (Int32.not_lt.mpr h1)]
  have hb := x_bit p (j := i) (by omega)
  by_cases g : bt p i = true
  · rw [if_neg (fun k => k (hb.mpr g)), g]
  · rw [if_pos (fun k => g (hb.mp k)), x_bI, x_bI]
    simp [g]
theorem q_isA (p x : Int32) (h0 : ¬ x < 0) (h1 : x ≤ 15) : bI (f_Exceptions_isActive p x) = 0 ↔ bI (bt p x.toNatClampNeg) = 0 := q_isP p x h0 h1
theorem p_exception (p a x : Int32) : f_ThumbCoreModel_exception (bt p) (bt a) x = f_ThumbCore_exception p a x := by
  unfold f_ThumbCoreModel_exception f_ThumbCore_exception k_ThumbCoreModel_exception_28 k_ThumbCore_exception_16
  simp only [bd]
  by_cases h0 : x < 0
  · have e1 : f_Exceptions_isPending p x = false := by
      unfold f_Exceptions_isPending
      rw [if_pos h0]
    have e2 : f_Exceptions_isActive a x = false := by
      unfold f_Exceptions_isActive
      rw [if_pos h0]
    rw [if_pos h0, e1, e2]
    rfl
  · rw [if_neg h0]
    by_cases h1 : x ≤ 15
    · have ep := q_isP p x h0 h1
      have ea := q_isA a x h0 h1
      rw [if_pos h1]
      by_cases gp : bI (bt p x.toNatClampNeg) = 0
      · rw [if_pos gp, if_pos (ep.mpr gp)]
        by_cases ga : bI (bt a x.toNatClampNeg) = 0
        · rw [if_pos ga, if_pos (ea.mpr ga)]
        · rw [if_neg ga, if_neg (fun k => ga (ea.mp k))]
      · rw [if_neg gp, if_neg (fun k => gp (ep.mp k))]
        by_cases ga : bI (bt a x.toNatClampNeg) = 0
        · rw [if_pos ga, if_pos (ea.mpr ga)]
        · rw [if_neg ga, if_neg (fun k => ga (ea.mp k))]
    · have h2 := Int32.not_le.mp h1
      have e1 : f_Exceptions_isPending p x = false := by
        unfold f_Exceptions_isPending
        rw [if_neg h0, if_pos h2]
      have e2 : f_Exceptions_isActive a x = false := by
        unfold f_Exceptions_isActive
        rw [if_neg h0, if_pos h2]
      rw [if_neg h1, e1, e2]
      rfl
theorem q_byte (v : Int32) {k : Nat} (hk : k < 4) : ((o_iushr v (nI (8 * k))).toInt8.toInt32) = (o_ishr v (nI (8 * k))).toInt8.toInt32 := by
  apply b_ext
  intro i hi
  rw [b_i8 _ hi, m_vb v k hk hi]
  show bt ((v.toUInt32 >>> ((nI (8 * k)).toUInt32 &&& Int32.toUInt32 31)).toInt32) (min i 7) = _
  rw [b_ushr _ (by omega)]
theorem q_w1 (w : Nat → Int32) {j : Nat} (hj : j < 2 ^ 31) (v : Int32) : byt (f_Memory_write w (nI j) v 1) = upd (byt w) j v.toInt8.toInt32 := by
  have e : (1 : Int32) = nI 1 := by decide
  rw [e, m_write w v hj (Or.inl rfl) (Nat.mod_one j)]
  funext a
  unfold wrb upd
  by_cases h : a = j
  · subst h
    rw [if_pos (by omega), if_pos rfl, Nat.sub_self]
    apply b_ext
    intro i hi
    rw [m_vb v 0 (by decide) hi, b_i8 _ hi]
    congr 1
    omega
  · rw [if_neg (by omega), if_neg h]
theorem q_poke (q : Int32) {j N : Nat} (hN : N ≤ 4) (hj : j + 4 < 2 ^ 31) (v : Int32) : ∀ (f k : Nat) (w : Nat → Int32), k + f = N → k_ThumbCoreModel_poke_34 q (f + 1) (byt w) (nI j) v (nI N) (nI k) = ((k_ThumbCore_poke_32 q (f + 1) w (nI j) v (nI N) (nI k)).1, byt (k_ThumbCore_poke_32 q (f + 1) w (nI j) v (nI N) (nI k)).2) := by
  intro f
  induction f with
  | zero =>
    intro k w h
    have g : nI N ≤ nI k := nI_le (by omega) (by omega)
    rw [k_ThumbCoreModel_poke_34, k_ThumbCore_poke_32, if_pos g, if_pos g]
  | succ f ih =>
    intro k w h
    have g : ¬ nI N ≤ nI k := nI_ge (by omega) (by omega)
    have e8 : (8 : Int32) * nI k = nI (8 * k) := m_mul8 ⟨k, by omega⟩
    rw [k_ThumbCoreModel_poke_34, k_ThumbCore_poke_32, if_neg g, if_neg g]
    simp only [bd]
    rw [e8, nI_add, nI_clamp (by omega), nI_1, m_i8i8, ← q_byte v (by omega), ← q_w1 w (by omega)]
    exact ih (k + 1) _ (by omega)
theorem p_poke {q : Int32} {nw : Nat} (hm : tc_mem q nw) (w : Nat → Int32) (a v n : Int32) : f_ThumbCoreModel_poke q (byt w) a v n = ((f_ThumbCore_poke q w a v n).1, byt (f_ThumbCore_poke q w a v n).2) := by
  have h15 : (n = 1 ∨ n = 2 ∨ n = 4) → k_ThumbCoreModel_poke_15 q (byt w) a v n = ((k_ThumbCore_poke_15 q w a v n).1, byt (k_ThumbCore_poke_15 q w a v n).2) := by
    intro hn
    unfold k_ThumbCoreModel_poke_15 k_ThumbCore_poke_15
    simp only [bd]
    by_cases hh : f_Memory_holds q a n = true
    · have hf := tc_hfit hm hn hh
      rw [hh, if_pos (show ¬ bI true = 0 by decide)]
      unfold f_Memory_holds at hh
      by_cases g0 : a < 0
      · rw [if_pos g0] at hh
        cases hh
      · rw [if_neg g0] at hh ⊢
        by_cases g1 : (q - n) < a
        · rw [if_pos g1] at hh
          cases hh
        · rw [if_pos (Int32.not_lt.mp g1)]
          obtain ⟨k, hk, rfl⟩ := m_n hn
          obtain ⟨j, hj, rfl⟩ := nI_of g0
          obtain ⟨m1, m2, m3⟩ := hm
          obtain ⟨f1, f2⟩ := hf
          have hk4 : k ≤ 4 ∧ 0 < k := by rcases hk with h | h | h <;> omega
          rw [nI_toInt hj, nI_toInt (by omega)] at f2
          have e : (Int32.toInt (nI k)).toNat.succ = k + 1 := by
            rw [nI_toInt (by omega)]
            rfl
          rw [e]
          exact q_poke q hk4.1 (by omega) v k 0 w (by omega)
    · have hh2 : f_Memory_holds q a n = false := by simpa using hh
      rw [hh2, if_neg (show ¬ ¬ bI false = 0 by decide)]
      unfold f_Memory_holds at hh2
      by_cases g0 : a < 0
      · rw [if_pos g0]
      · rw [if_neg g0] at hh2 ⊢
        by_cases g1 : (q - n) < a
        · rw [if_neg (Int32.not_le.mpr g1)]
        · rw [if_neg g1] at hh2
          cases hh2
  unfold f_ThumbCoreModel_poke f_ThumbCore_poke
  by_cases g1 : n = 1
  · rw [if_pos g1, if_pos g1]
    exact h15 (Or.inl g1)
  rw [if_neg g1, if_neg g1]
  by_cases g2 : n = 2
  · rw [if_pos g2, if_pos g2]
    exact h15 (Or.inr (Or.inl g2))
  rw [if_neg g2, if_neg g2]
  by_cases g4 : n = 4
  · rw [if_neg (fun k => k g4), if_neg (fun k => k g4)]
    exact h15 (Or.inr (Or.inr g4))
  · rw [if_pos g4, if_pos g4]

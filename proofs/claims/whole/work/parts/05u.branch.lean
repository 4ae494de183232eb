def brOK (lk : Bool) (w r : Nat → Int32) (p a cu nx : Int32) (t : Bool × Bool × Int32 × (Nat → Int32) × (Nat → Int32) × Int32 × Int32 × Int32) (m : Bool × Int32 × Bool × Bool × Int32 × (Nat → Int32) × (Nat → Int32) × (Nat → Bool) × (Nat → Bool)) : Prop :=
  (t.1 = true ∧ ∃ (af : Int32) (en : Bool), m = (false, af, en, t.2.1, t.2.2.2.2.2.2.2, byt t.2.2.2.1, t.2.2.2.2.1, bt t.2.2.2.2.2.1, bt t.2.2.2.2.2.2.1) ∧ ((en = false ∧ af = t.2.2.1) ∨ (en = true ∧ t.2.2.1 = t.2.2.2.2.1 (15 : Int32).toNatClampNeg))) ∨
  (t = (false, lk, nx, w, r, p, a, cu) ∧ m.1 = true ∧ m.2.2.2.1 = lk ∧ m.2.2.2.2.1 = cu ∧ m.2.2.2.2.2.1 = byt w ∧ m.2.2.2.2.2.2.2.1 = bt p ∧ m.2.2.2.2.2.2.2.2 = bt a ∧ hi16 m.2.2.2.2.2.2.1 r)
theorem p_fault {q : Int32} {nw : Nat} (hm : tc_mem q nw) (n z c v mk bad lk : Bool) (pr w r : Nat → Int32) (p a cu : Int32) (hsp : (r (13 : Int32).toNatClampNeg &&& 3) = 0) (ha : actOK a) : f_ThumbCoreModel_fault q n z c v mk pr bad lk cu (byt w) r (bt p) (bt a) = entR bad (f_ThumbCore_fault q n z c v mk pr lk w r p a cu) := by
  unfold f_ThumbCoreModel_fault f_ThumbCore_fault
  simp only [bd]
  rw [p_pres]
  by_cases g : 0 ≤ f_Exceptions_present a mk pr
  · rw [if_pos g, if_pos g, p_enter hm n z c v bad lk w r p a cu 3 _ hsp (by show ¬ (_ ∨ _); decide) ha]
    rfl
  · rw [if_neg g, if_neg g]
    rfl
theorem p_branch {q : Int32} {nw : Nat} (hm : tc_mem q nw) {h : Int32} (hh : isH h) (n z c v mk lk : Bool) (pr w r : Nat → Int32) (p a cu nx : Int32) (hsp : (r (13 : Int32).toNatClampNeg &&& 3) = 0) (ha : actOK a) : brOK lk w r p a cu nx (f_ThumbCore_branchOrCall q n z c v mk pr lk nx w r p a cu (o_iushr h 8 &&& 15) h.toInt8.toInt32) (f_ThumbCoreModel_branch q n z c v h mk pr false nx false lk cu (byt w) r (bt p) (bt a)) := by
  have b0 : ¬ ¬ bI false = 0 := by decide
  have b1 : ¬ bI true = 0 := by decide
  have e8 : o_ishr h 8 = o_iushr h 8 := i_sh hh 8 (by decide)
  obtain ⟨i, hi, ei⟩ := pk_andE (o_iushr h 8) (m := 15) 4 (by decide)
  have hi16 : i < 16 := hi
  have h78 : k_ThumbCoreModel_branch_78 q n z c v h mk pr false nx false lk cu (byt w) r (bt p) (bt a) = (true, nx, false, lk, cu, byt w, r, bt p, bt a) := rfl
  unfold f_ThumbCoreModel_branch f_ThumbCore_branchOrCall
  simp only [bd, e8, ei]
  have h14 : (14 : Int32) ≤ nI i ↔ 14 ≤ i := nI_leI (a := 14) (by decide) (by omega)
  have q14 : nI i = 14 ↔ i = 14 := nI_eq (b := 14) (by omega) (by decide)
  have q15 : nI i = 15 ↔ i = 15 := nI_eq (b := 15) (by omega) (by decide)
  by_cases g14 : i = 14
  · have n14 : ¬ ¬ nI i = 14 := fun k => k (q14.mpr g14)
    rw [if_pos (h14.mpr (by omega)), if_pos (q14.mpr g14), if_neg n14, h78]
    exact Or.inr ⟨rfl, rfl, rfl, rfl, rfl, rfl, rfl, hi_r r⟩
  have n14 : ¬ nI i = 14 := fun k => g14 (q14.mp k)
  rw [if_pos n14]
  by_cases g15 : i = 15
  · have n15 : ¬ ¬ nI i = 15 := fun k => k (q15.mpr g15)
    rw [if_pos (h14.mpr (by omega)), if_neg n14, if_neg n15, p_pres]
    unfold f_ThumbCore_call
    simp only [bd]
    by_cases g : pr (11 : Int32).toNatClampNeg < f_Exceptions_present a mk pr
    · rw [if_pos g, if_pos g]
      unfold k_ThumbCoreModel_branch_83
      rw [if_neg b0, p_enter hm n z c v false lk w r p a cu 11 nx hsp (by show ¬ (_ ∨ _); decide) ha]
      exact Or.inl ⟨rfl, nx, true, rfl, Or.inr ⟨rfl, rfl⟩⟩
    · rw [if_neg g, if_neg g, h78]
      exact Or.inr ⟨rfl, rfl, rfl, rfl, rfl, rfl, rfl, hi_r r⟩
  · have n15 : ¬ nI i = 15 := fun k => g15 (q15.mp k)
    have nle : ¬ (14 : Int32) ≤ nI i := fun k => by
      have := h14.mp k
      omega
    have hmt := p_meet ⟨i, by omega⟩ n z c v
    dsimp only at hmt
    rw [if_neg nle, if_pos n15, hmt]
    unfold k_ThumbCoreModel_branch_50 f_ThumbCore_here
    by_cases g : bI (f_Flags_meet n z c v (nI i)) = 0
    · rw [if_pos g, if_pos g]
      exact Or.inl ⟨rfl, nx, false, rfl, Or.inl ⟨rfl, rfl⟩⟩
    · rw [if_neg g, if_neg g]
      exact Or.inl ⟨rfl, _, false, rfl, Or.inl ⟨rfl, rfl⟩⟩
theorem p_28 (h : Int32) : (2 * (o_ishr (o_ishl h 21) 21)) = o_ishr (o_ishl h 21) 20 := by
  have e2 : ∀ y : Int32, (2 : Int32) * y = o_ishl y 1 := by
    intro y
    have e := s_shl y (k := 1) (by decide)
    have e1 : o_ishl y 1 = nI (y.toBitVec.toNat * 2 ^ 1) := e
    rw [e1]
    have e3 : nI (y.toBitVec.toNat * 2 ^ 1) = nI y.toBitVec.toNat * nI 2 := (Int32.ofNat_mul _ _)
    rw [e3, ← s_nat y, Int32.mul_comm]
    rfl
  rw [e2]
  apply b_ext
  intro i hi
  have s1 : bt (o_ishl (o_ishr (o_ishl h 21) 21) 1) i = (decide (1 ≤ i) && bt (o_ishr (o_ishl h 21) 21) (i - 1)) := t_sl (n := 1) _ (by decide) hi
  have s21 : bt (o_ishr (o_ishl h 21) 21) (i - 1) = bt (o_ishl h 21) (min (21 + (i - 1)) 31) := s_sshr (o_ishl h 21) (m := 21) (by decide) (by omega)
  have s20 : bt (o_ishr (o_ishl h 21) 20) i = bt (o_ishl h 21) (min (20 + i) 31) := s_sshr (o_ishl h 21) (m := 20) (by decide) hi
  rw [s1, s21, s20]
  by_cases g : 1 ≤ i
  · have e : min (21 + (i - 1)) 31 = min (20 + i) 31 := by omega
    rw [decide_eq_true g, Bool.true_and, e]
  · have e0 : i = 0 := by omega
    have z : bt (o_ishl h 21) (min (20 + i) 31) = false := by
      have t := t_sl (n := 21) h (by decide) (i := min (20 + i) 31) (by omega)
      have d : decide (21 ≤ min (20 + i) 31) = false := decide_eq_false (by omega)
      rw [d, Bool.false_and] at t
      exact t
    rw [z, decide_eq_false g, Bool.false_and]

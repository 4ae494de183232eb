theorem w_D (h : Int32) : ((h &&& 7) ||| ((o_iushr h 4) &&& 8)) = (h &&& 7) + 8 * (o_iushr h 7 &&& 1) := by
  have e8 : ∀ i : Nat, i < 32 → bt 8 i = decide (i = 3) := by decide +kernel
  have e1 : ∀ i : Nat, i < 32 → bt 1 i = decide (i = 0) := by decide +kernel
  have eu : ∀ i : Nat, bt (o_iushr h 4) i = bt h (4 + i) := fun i => t_ul h (n := 4) (by decide) i
  have ev : ∀ i : Nat, bt (o_iushr h 7) i = bt h (7 + i) := fun i => t_ul h (n := 7) (by decide) i
  obtain ⟨m, hm, e7⟩ := vp_in_of (pk_andIn h (m := 7) 3 (by decide) (by decide)) (by decide)
  rw [e7]
  by_cases g : bt h 7 = true
  · have a1 : (o_iushr h 7 &&& 1) = 1 := (x_bit h (j := 7) (by decide)).mpr g
    have a2 : (o_iushr h 4 &&& 8) = 8 := by
      apply b_ext
      intro i hi
      rw [b_and, e8 i hi, eu]
      by_cases k : i = 3
      · rw [k, g]; rfl
      · simp [k]
    rw [a1, a2]
    have all : ∀ m : Fin 8, (nI m.val ||| 8) = nI m.val + 8 * 1 := by decide +kernel
    exact all ⟨m, hm⟩
  · have g2 : bt h 7 = false := by simpa using g
    have a1 : (o_iushr h 7 &&& 1) = 0 := by
      apply b_ext
      intro i hi
      rw [b_and, e1 i hi, ev, b_0]
      by_cases k : i = 0
      · rw [k, g2]; rfl
      · simp [k]
    have a2 : (o_iushr h 4 &&& 8) = 0 := by
      apply b_ext
      intro i hi
      rw [b_and, e8 i hi, eu, b_0]
      by_cases k : i = 3
      · rw [k, g2]; rfl
      · simp [k]
    rw [a1, a2]
    have all : ∀ m : Fin 8, (nI m.val ||| 0) = nI m.val + 8 * 0 := by decide +kernel
    exact all ⟨m, hm⟩
theorem w_put (nx : Int32) (r : Nat → Int32) (x y : Int32) : f_ThumbCoreModel_put nx r x y = f_ThumbCore_put nx r x y := by
  unfold f_ThumbCoreModel_put f_ThumbCore_put f_ThumbCore_fitting k_ThumbCoreModel_put_36
  simp only [bd]
  by_cases g : x = 15
  · subst g
    rfl
  · rw [if_pos g, if_pos g]
    by_cases g2 : x = 13
    · have g3 : ¬ ¬ x = 13 := fun k => k g2
      rw [if_neg g3, if_neg g3]
    · rw [if_pos g2, if_pos g2, if_pos g]
theorem w_53 (q h : Int32) (M : Nat → Int32) (n z c v b : Bool) (af cu : Int32) (r : Nat → Int32) (A : Nat → Bool) (d m : Int32) : (if ¬ d = 15 then k_ThumbCoreModel_wide_53 q h M n z c v b af cu r A d m (r d.toNatClampNeg) else k_ThumbCoreModel_wide_53 q h M n z c v b af cu r A d m (r (15 : Int32).toNatClampNeg + 4)) = k_ThumbCoreModel_wide_78 q h M n z c v b af cu r A d m (f_ThumbCore_readHigh r d) (f_ThumbCore_readHigh r m) := by
  unfold f_ThumbCore_readHigh f_ThumbCore_here k_ThumbCoreModel_wide_53
  by_cases g : d = 15
  · have g' : ¬ ¬ d = 15 := fun k => k g
    rw [if_neg g', if_neg g']
    by_cases g2 : m = 15
    · have g2' : ¬ ¬ m = 15 := fun k => k g2
      rw [if_neg g2', if_neg g2']
      rfl
    · rw [if_pos g2, if_pos g2]
      rfl
  · rw [if_pos g, if_pos g]
    by_cases g2 : m = 15
    · have g2' : ¬ ¬ m = 15 := fun k => k g2
      rw [if_neg g2', if_neg g2']
      rfl
    · rw [if_pos g2, if_pos g2]
theorem w_wide {h : Int32} (hh : isH h) (q : Int32) (M : Nat → Int32) (n z c v b : Bool) (af cu : Int32) (r : Nat → Int32) (A : Nat → Bool) : f_ThumbCoreModel_wide q h M n z c v b af cu r A = k_ThumbCoreModel_wide_78 q h M n z c v b af cu r A ((h &&& 7) ||| ((o_iushr h 4) &&& 8)) ((o_iushr h 3) &&& 15) (f_ThumbCore_readHigh r ((h &&& 7) ||| ((o_iushr h 4) &&& 8))) (f_ThumbCore_readHigh r ((o_iushr h 3) &&& 15)) := by
  have e7 : o_ishr h 7 = o_iushr h 7 := i_sh hh 7 (by decide)
  have e3 : o_ishr h 3 = o_iushr h 3 := i_sh hh 3 (by decide)
  have e0 : f_ThumbCoreModel_field h 0 = (h &&& 7) := by
    have k0 : o_ishr h 0 = h := by
      unfold o_ishr
      simp
    rw [f_ThumbCoreModel_field, k0]
  rw [f_ThumbCoreModel_wide, bd_eq, bd_eq, bd_eq, e0, e7, e3, ← w_D, w_53]
theorem w_0 {h : Int32} (hh : isH h) (q : Int32) (w r : Nat → Int32) (n z c v : Bool) (nx cu a : Int32) (g : ((o_iushr h 8) &&& 3) = 0) : wdOK r n z c v a cu (f_ThumbCore_withHigh q w nx r n z c v a cu h) (f_ThumbCoreModel_wide q h (byt w) n z c v false nx cu r (bt a)) := by
  have e8 : o_ishr h 8 = o_iushr h 8 := i_sh hh 8 (by decide)
  have g' : ¬ ¬ ((o_iushr h 8) &&& 3) = 0 := fun k => k g
  rw [f_ThumbCore_withHigh, bd_eq, bd_eq, if_pos g, bd_eq, bd_eq, w_wide hh, k_ThumbCoreModel_wide_78, bd_eq, e8, if_neg g', w_put]
  exact Or.inl ⟨rfl, rfl⟩
theorem w_2 {h : Int32} (hh : isH h) (q : Int32) (w r : Nat → Int32) (n z c v : Bool) (nx cu a : Int32) (g : ((o_iushr h 8) &&& 3) = 2) : wdOK r n z c v a cu (f_ThumbCore_withHigh q w nx r n z c v a cu h) (f_ThumbCoreModel_wide q h (byt w) n z c v false nx cu r (bt a)) := by
  have e8 : o_ishr h 8 = o_iushr h 8 := i_sh hh 8 (by decide)
  have g0 : ¬ ((o_iushr h 8) &&& 3) = 0 := by rw [g]; decide
  have g1 : ¬ ((o_iushr h 8) &&& 3) = 1 := by rw [g]; decide
  have g2 : ¬ ¬ ((o_iushr h 8) &&& 3) = 2 := fun k => k g
  rw [f_ThumbCore_withHigh, bd_eq, bd_eq, if_neg g0, if_neg g1, if_pos g, bd_eq, w_wide hh, k_ThumbCoreModel_wide_78, bd_eq, e8, if_pos g0, if_pos g1, if_neg g2, w_put]
  exact Or.inl ⟨rfl, rfl⟩
theorem w_rh {r : Nat → Int32} {x : Int32} (g : ¬ x = 15) : f_ThumbCore_readHigh r x = r x.toNatClampNeg := by
  rw [f_ThumbCore_readHigh, if_pos g]
theorem w_82 (q h : Int32) (w r : Nat → Int32) (n z c v : Bool) (nx cu a d m : Int32) : wdOK r n z c v a cu (k_ThumbCore_withHigh_82 q w nx r n z c v a cu d m) (k_ThumbCoreModel_wide_127 q h (byt w) n z c v false nx cu r (bt a) d m (f_ThumbCore_readHigh r d) (f_ThumbCore_readHigh r m)) := by
  unfold k_ThumbCore_withHigh_82 k_ThumbCoreModel_wide_127 k_ThumbCoreModel_wide_139
  by_cases g : d = 15
  · rw [if_pos g, if_pos g]
    exact Or.inr ⟨⟨nx, rfl⟩, rfl, rfl, rfl, hi_r r⟩
  · rw [if_neg g, if_neg g]
    by_cases g2 : m = 15
    · have g2' : ¬ ¬ m = 15 := fun k => k g2
      rw [if_neg g2', if_neg g2']
      exact Or.inr ⟨⟨nx, rfl⟩, rfl, rfl, rfl, hi_r r⟩
    · rw [if_pos g2, if_pos g2, w_rh g, w_rh g2, k_ThumbCoreModel_wide_144, p_sum1]
      exact Or.inl ⟨rfl, rfl⟩
theorem w_1 {h : Int32} (hh : isH h) (q : Int32) (w r : Nat → Int32) (n z c v : Bool) (nx cu a : Int32) (g : ((o_iushr h 8) &&& 3) = 1) : wdOK r n z c v a cu (f_ThumbCore_withHigh q w nx r n z c v a cu h) (f_ThumbCoreModel_wide q h (byt w) n z c v false nx cu r (bt a)) := by
  have e8 : o_ishr h 8 = o_iushr h 8 := i_sh hh 8 (by decide)
  have g0 : ¬ ((o_iushr h 8) &&& 3) = 0 := by rw [g]; decide
  have g1 : ¬ ¬ ((o_iushr h 8) &&& 3) = 1 := fun k => k g
  rw [f_ThumbCore_withHigh, bd_eq, bd_eq, if_neg g0, if_pos g, w_wide hh, k_ThumbCoreModel_wide_78, bd_eq, e8, if_pos g0, if_neg g1]
  generalize ((h &&& 7) ||| ((o_iushr h 4) &&& 8)) = d
  generalize ((o_iushr h 3) &&& 15) = m
  by_cases k1 : 8 ≤ d
  · rw [if_pos k1, if_pos k1]
    exact w_82 q h w r n z c v nx cu a d m
  · rw [if_neg k1, if_neg k1]
    by_cases k2 : m < 8
    · rw [if_pos k2, if_pos k2]
      exact Or.inr ⟨⟨nx, rfl⟩, rfl, rfl, rfl, hi_r r⟩
    · rw [if_neg k2, if_neg k2]
      exact w_82 q h w r n z c v nx cu a d m

theorem w_brT {q : Int32} {nw : Nat} (hm : tc_mem q nw) (h : Int32) (w r : Nat → Int32) (n z c v : Bool) (nx cu a d x : Int32) (ha : actOK a) (hcu : vp_in cu 16) (hd : ¬ d ≤ 7) : wdOK r n z c v a cu (k_ThumbCore_withHigh_170 q w nx r n z c v a cu x true) (k_ThumbCoreModel_wide_197 q h (byt w) n z c v false nx cu r (bt a) d x false) := by
  have b1 : ¬ bI true = 0 := by decide
  have b0 : bI false = 0 := by decide
  have b2 : ¬ ¬ bI false = 0 := by decide
  rw [w_lk q h w r n z c v nx cu a d x ha hd, k_ThumbCore_withHigh_170, f_ThumbCore_branchTo, bd_eq]
  cases hr : f_ThumbCore_isReturn a x
  · rw [if_neg (show ¬ false = true by decide), r_mayN q w cu x a _ hr]
    by_cases g : (x &&& 1) = 1
    · have g' : ¬ ¬ (x &&& 1) = 1 := fun k => k g
      have g0 : ¬ (x &&& 1) = 0 := by rw [g]; decide
      rw [if_neg g', if_pos b1, if_neg b1, bd_eq, if_neg b2, w_b42, r_go0 w _ n z c v nx cu x a hr, if_pos g0]
      exact Or.inl ⟨rfl, rfl⟩
    · have g0 : ¬ ¬ (x &&& 1) = 0 := fun k => (w_bit x).elim k g
      rw [if_pos g, if_neg b2, if_neg g0]
      exact Or.inr ⟨⟨nx, rfl⟩, rfl, rfl, rfl, hi_upd (by decide) (hi_r r)⟩
  · rw [if_pos rfl, p_goTo hm w r n z c v nx nx cu x a ha hcu]
    generalize f_ThumbCore_mayGoTo q w a cu x (r (13 : Int32).toNatClampNeg) = t
    cases t
    · rw [if_neg b2, if_neg (show ¬ false = true by decide)]
      exact Or.inr ⟨⟨nx, rfl⟩, rfl, rfl, rfl, hi_r r⟩
    · rw [if_pos b1, if_neg b1, bd_eq, if_pos b1, w_b42, if_pos rfl]
      exact Or.inl ⟨rfl, rfl⟩
theorem w_3l {q : Int32} {nw : Nat} (hm : tc_mem q nw) {h : Int32} (hh : isH h) (w r : Nat → Int32) (n z c v : Bool) (nx cu a : Int32) (ha : actOK a) (hcu : vp_in cu 16) (g : ((o_iushr h 8) &&& 3) = 3) (g7 : ((o_iushr h 7) &&& 1) = 1) : wdOK r n z c v a cu (f_ThumbCore_withHigh q w nx r n z c v a cu h) (f_ThumbCoreModel_wide q h (byt w) n z c v false nx cu r (bt a)) := by
  have e8 : o_ishr h 8 = o_iushr h 8 := i_sh hh 8 (by decide)
  have g0 : ¬ ((o_iushr h 8) &&& 3) = 0 := by rw [g]; decide
  have g1 : ¬ ((o_iushr h 8) &&& 3) = 1 := by rw [g]; decide
  have g2 : ¬ ((o_iushr h 8) &&& 3) = 2 := by rw [g]; decide
  have g7' : ¬ ¬ ((o_iushr h 7) &&& 1) = 1 := fun k => k g7
  rw [f_ThumbCore_withHigh, bd_eq, bd_eq, if_neg g0, if_neg g1, if_neg g2, w_wide hh, k_ThumbCoreModel_wide_78, bd_eq, e8, if_pos g0, if_pos g1, if_pos g2, bd_eq, w_field]
  by_cases d0 : (h &&& 7) = 0
  · have d0' : ¬ ¬ (h &&& 7) = 0 := fun k => k d0
    have dd : ((h &&& 7) ||| ((o_iushr h 4) &&& 8)) = 8 := by
      rw [w_D, d0, g7]
      decide
    rw [if_neg d0', if_neg d0', dd]
    generalize ((o_iushr h 3) &&& 15) = m
    by_cases m15 : m = 15
    · have m15' : ¬ ¬ m = 15 := fun k => k m15
      rw [if_neg m15', if_neg m15', w_f]
      exact Or.inr ⟨⟨nx, rfl⟩, rfl, rfl, rfl, hi_r r⟩
    · rw [if_pos m15, if_pos m15, if_neg g7', w_rh m15]
      exact w_brT hm h w r n z c v nx cu a 8 _ ha hcu (by decide)
  · rw [if_pos d0, if_pos d0, w_f]
    exact Or.inr ⟨⟨nx, rfl⟩, rfl, rfl, rfl, hi_r r⟩
theorem p_wide {q : Int32} {nw : Nat} (hm : tc_mem q nw) {h : Int32} (hh : isH h) (w r : Nat → Int32) (n z c v : Bool) (nx cu a : Int32) (ha : actOK a) (hcu : vp_in cu 16) : wdOK r n z c v a cu (f_ThumbCore_withHigh q w nx r n z c v a cu h) (f_ThumbCoreModel_wide q h (byt w) n z c v false nx cu r (bt a)) := by
  rcases w_way (o_iushr h 8) with g | g | g | g
  · exact w_0 hh q w r n z c v nx cu a g
  · exact w_1 hh q w r n z c v nx cu a g
  · exact w_2 hh q w r n z c v nx cu a g
  · by_cases g7 : ((o_iushr h 7) &&& 1) = 1
    · exact w_3l hm hh w r n z c v nx cu a ha hcu g g7
    · exact w_3n hm hh w r n z c v nx cu a ha hcu g g7

theorem w_lk (q h : Int32) (w r : Nat → Int32) (n z c v : Bool) (nx cu a d y : Int32) (ha : actOK a) (hd : ¬ d ≤ 7) : k_ThumbCoreModel_wide_197 q h (byt w) n z c v false nx cu r (bt a) d y false = if f_ThumbCore_isReturn a y = true then f_ThumbCoreModel_goTo q (byt w) n z c v false nx cu r (bt a) y else if ¬ (y &&& 1) = 0 then (n, z, c, v, false, y - 1, cu, upd r (14 : Int32).toNatClampNeg (nx + 1), bt a) else (n, z, c, v, true, nx, cu, upd r (14 : Int32).toNatClampNeg (nx + 1), bt a) := by
  have b1 : ¬ bI true = 0 := by decide
  have b0 : bI false = 0 := by decide
  have b2 : ¬ ¬ bI false = 0 := by decide
  rw [k_ThumbCoreModel_wide_197, if_neg hd, bd_eq, p_returns ha]
  cases t : f_ThumbCore_isReturn a y
  · rw [if_neg b2, if_neg (by decide), k_ThumbCoreModel_wide_220, bd_eq, if_neg b2, f_ThumbCoreModel_goTo, bd_eq, p_returns ha, t, if_pos b0]
    by_cases g : (y &&& 1) = 0
    · have g' : ¬ ¬ (y &&& 1) = 0 := fun k => k g
      rw [if_neg g', if_neg g']
      unfold un9
      dsimp only
      rw [if_neg b1, k_ThumbCoreModel_wide_266]
    · rw [if_pos g, if_pos g]
      unfold un9
      dsimp only
      rw [if_neg b1, k_ThumbCoreModel_wide_266]
  · rw [if_pos b1, if_pos rfl, k_ThumbCoreModel_wide_219, w_220f]

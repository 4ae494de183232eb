theorem w_upd (r : Nat → Int32) (k : Nat) : upd r k (r k) = r := by
  funext i
  unfold upd
  split
  · rename_i e
    first
      | rw [e]
      | (rw [eq_of_beq e])
  · rfl
theorem w_220f (q h : Int32) (M : Nat → Int32) (n z c v : Bool) (af cu : Int32) (r : Nat → Int32) (A : Nat → Bool) (y : Int32) : k_ThumbCoreModel_wide_220 q h M n z c v false af cu r A y false = f_ThumbCoreModel_goTo q M n z c v false af cu r A y := by
  have b0 : bI false = 0 := by decide
  have b1 : ¬ ¬ bI false = 0 := by decide
  rw [k_ThumbCoreModel_wide_220, bd_eq, if_neg b1]
  generalize f_ThumbCoreModel_goTo q M n z c v false af cu r A y = G
  obtain ⟨g1, g2, g3, g4, g5, g6, g7, g8, g9⟩ := G
  unfold un9
  dsimp only
  rw [if_pos b0, k_ThumbCoreModel_wide_266, w_upd]
theorem w_b42 (q : Int32) (w r : Nat → Int32) (n z c v : Bool) (nx cu a x : Int32) : k_ThumbCore_branchTo_42 q w nx r n z c v a cu x = un8 (f_ThumbCore_goTo w nx r n z c v a cu x) (fun s2 s3 s4 s5 s6 s7 s8 s9 => (true, s2, s3, s4, s5, s6, s7, s8, s9)) := rfl
theorem w_br {q : Int32} {nw : Nat} (hm : tc_mem q nw) (w r : Nat → Int32) (n z c v : Bool) (nx cu x a : Int32) (ha : actOK a) (hcu : vp_in cu 16) : wdOK r n z c v a cu (k_ThumbCore_withHigh_170 q w nx r n z c v a cu x false) (f_ThumbCoreModel_goTo q (byt w) n z c v false nx cu r (bt a) x) := by
  have b1 : ¬ bI true = 0 := by decide
  have b0 : bI false = 0 := by decide
  have b2 : ¬ ¬ bI false = 0 := by decide
  rw [p_goTo hm w r n z c v nx nx cu x a ha hcu, k_ThumbCore_withHigh_170, f_ThumbCore_branchTo, bd_eq]
  generalize f_ThumbCore_mayGoTo q w a cu x (r (13 : Int32).toNatClampNeg) = t
  cases t
  · rw [if_neg b2, if_neg (by decide)]
    exact Or.inr ⟨⟨nx, rfl⟩, rfl, rfl, rfl, hi_r r⟩
  · rw [if_pos b1, if_pos rfl, if_pos b0, w_b42]
    exact Or.inl ⟨rfl, rfl⟩
theorem w_f (q h : Int32) (w r : Nat → Int32) (n z c v : Bool) (nx cu a d y : Int32) : k_ThumbCoreModel_wide_192 q h (byt w) n z c v false nx cu r (bt a) d y = (n, z, c, v, true, nx, cu, r, bt a) := by
  have b1 : ¬ bI true = 0 := by decide
  have e : ∀ b : Bool, k_ThumbCoreModel_wide_220 q h (byt w) n z c v true nx cu r (bt a) y b = (n, z, c, v, true, nx, cu, r, bt a) := by
    intro b
    rw [k_ThumbCoreModel_wide_220, bd_eq, if_pos b1]
  unfold k_ThumbCoreModel_wide_192 k_ThumbCoreModel_wide_197 k_ThumbCoreModel_wide_219
  rw [bd_eq, e, e]
  split
  · rfl
  · split
    · rfl
    · rfl
theorem w_field (h : Int32) : f_ThumbCoreModel_field h 0 = (h &&& 7) := by
  have k0 : o_ishr h 0 = h := by
    unfold o_ishr
    simp
  rw [f_ThumbCoreModel_field, k0]
theorem w_bit (x : Int32) : (x &&& 1) = 0 ∨ (x &&& 1) = 1 := by
  obtain ⟨m, hm, e⟩ := vp_in_of (pk_andIn x (m := 1) 1 (by decide) (by decide)) (by decide)
  rw [e]
  have all : ∀ m : Fin 2, nI m.val = 0 ∨ nI m.val = 1 := by decide
  exact all ⟨m, hm⟩
theorem w_way (x : Int32) : (x &&& 3) = 0 ∨ (x &&& 3) = 1 ∨ (x &&& 3) = 2 ∨ (x &&& 3) = 3 := by
  obtain ⟨m, hm, e⟩ := vp_in_of (pk_andIn x (m := 3) 2 (by decide) (by decide)) (by decide)
  rw [e]
  have all : ∀ m : Fin 4, nI m.val = 0 ∨ nI m.val = 1 ∨ nI m.val = 2 ∨ nI m.val = 3 := by decide
  exact all ⟨m, hm⟩
theorem w_3n {q : Int32} {nw : Nat} (hm : tc_mem q nw) {h : Int32} (hh : isH h) (w r : Nat → Int32) (n z c v : Bool) (nx cu a : Int32) (ha : actOK a) (hcu : vp_in cu 16) (g : ((o_iushr h 8) &&& 3) = 3) (g7 : ¬ ((o_iushr h 7) &&& 1) = 1) : wdOK r n z c v a cu (f_ThumbCore_withHigh q w nx r n z c v a cu h) (f_ThumbCoreModel_wide q h (byt w) n z c v false nx cu r (bt a)) := by
  have e8 : o_ishr h 8 = o_iushr h 8 := i_sh hh 8 (by decide)
  have g0 : ¬ ((o_iushr h 8) &&& 3) = 0 := by rw [g]; decide
  have g1 : ¬ ((o_iushr h 8) &&& 3) = 1 := by rw [g]; decide
  have g2 : ¬ ((o_iushr h 8) &&& 3) = 2 := by rw [g]; decide
  rw [f_ThumbCore_withHigh, bd_eq, bd_eq, if_neg g0, if_neg g1, if_neg g2, w_wide hh, k_ThumbCoreModel_wide_78, bd_eq, e8, if_pos g0, if_pos g1, if_pos g2, bd_eq, w_field]
  by_cases d0 : (h &&& 7) = 0
  · have d0' : ¬ ¬ (h &&& 7) = 0 := fun k => k d0
    have dd : ((h &&& 7) ||| ((o_iushr h 4) &&& 8)) = 0 := by
      rw [w_D, d0]
      rcases w_bit (o_iushr h 7) with k | k
      · rw [k]; decide
      · exact absurd k g7
    rw [if_neg d0', if_neg d0', dd]
    generalize ((o_iushr h 3) &&& 15) = m
    by_cases m15 : m = 15
    · have m15' : ¬ ¬ m = 15 := fun k => k m15
      rw [if_neg m15', if_neg m15', w_f]
      exact Or.inr ⟨⟨nx, rfl⟩, rfl, rfl, rfl, hi_r r⟩
    · have l7 : (0 : Int32) ≤ 7 := by decide
      rw [if_pos m15, if_pos m15, if_pos g7, w_rh m15, k_ThumbCoreModel_wide_197, if_pos l7, k_ThumbCoreModel_wide_219, w_220f]
      exact w_br hm w r n z c v nx cu _ a ha hcu
  · rw [if_pos d0, if_pos d0, w_f]
    exact Or.inr ⟨⟨nx, rfl⟩, rfl, rfl, rfl, hi_r r⟩

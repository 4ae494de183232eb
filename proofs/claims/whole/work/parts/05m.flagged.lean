/-- a half: 0 .. 65535 -/
def isH (h : Int32) : Prop := ∃ k : Nat, k < 65536 ∧ h = nI k
theorem i_half (w : Nat → Int32) (a : Int32) : isH (f_Memory_read w a 2) := by
  have e : f_Memory_lowest 2 = 65535 := by decide
  have e2 : f_Memory_read w a 2 = ((o_iushr (w (o_iushr a 2).toNatClampNeg) (8 * (a &&& 3))) &&& 65535) := by
    unfold f_Memory_read
    rw [bd_eq, e]
  obtain ⟨k, hk, ek⟩ := pk_andE (o_iushr (w (o_iushr a 2).toNatClampNeg) (8 * (a &&& 3))) (m := 65535) 16 (by decide)
  exact ⟨k, hk, e2.trans ek⟩
theorem i_sh {h : Int32} (hh : isH h) (s : Nat) (hs : s < 32) : o_ishr h (nI s) = o_iushr h (nI s) := by
  obtain ⟨k, hk, rfl⟩ := hh
  have e1 : o_ishr (nI k) (nI s) = nI (k / 2 ^ s) := pk_shrN (by omega) (nI s &&& 31) s (s_l s hs)
  have e2 : o_iushr (nI k) (nI s) = nI (k / 2 ^ s) := pk_ushrN (by omega) (nI s) s (s_u s hs)
  rw [e1, e2]
theorem i_u {k s : Nat} (hk : k < 65536) (hs : s < 32) : o_iushr (nI k) (nI s) = nI (k / 2 ^ s) := pk_ushrN (by omega) (nI s) s (s_u s hs)
theorem i_0 (h : Int32) : o_ishr h 0 = h := by
  apply b_ext
  intro i hi
  have := s_sshr h (m := 0) (by decide) hi
  have e : min (0 + i) 31 = i := by omega
  rw [e] at this
  exact this
/-- registers and flags behind an instruction, as the reference has them -/
def flR (t : Bool × (Nat → Int32) × Bool × Bool × Bool × Bool) : Bool × Bool × Bool × Bool × (Nat → Int32) := (t.2.2.1, t.2.2.2.1, t.2.2.2.2.1, t.2.2.2.2.2, t.2.1)
theorem p_sum0 (n z c v : Bool) (x y : Int32) : f_ThumbCoreModel_sum n z c v x y 0 = f_Flags_add n z c v x y 0 := p_sum n z c v x y 0 (Or.inl rfl)
theorem p_sum1 (n z c v : Bool) (x y : Int32) : f_ThumbCoreModel_sum n z c v x y 1 = f_Flags_add n z c v x y 1 := p_sum n z c v x y 1 (Or.inr rfl)
theorem p_sumB (n z c v : Bool) (x y : Int32) (b : Bool) : f_ThumbCoreModel_sum n z c v x y (bI b) = f_Flags_add n z c v x y (bI b) := p_sum n z c v x y (bI b) (by cases b; exact Or.inl rfl; exact Or.inr rfl)
theorem p_bytes {h : Int32} (hh : isH h) (n z c v : Bool) (r : Nat → Int32) : f_ThumbCoreModel_bytes h n z c v r (o_iushr h 11) = flR (f_ThumbCore_withByte r n z c v h) ∧ (f_ThumbCore_withByte r n z c v h).1 = true := by
  have e8 : o_ishr h 8 = o_iushr h 8 := i_sh hh 8 (by decide)
  unfold f_ThumbCoreModel_bytes f_ThumbCore_withByte f_ThumbCoreModel_field k_ThumbCoreModel_bytes_99
  simp only [bd, p_sum0, p_sum1, p_shown, e8]
  by_cases g4 : o_iushr h 11 = 4
  · have n4 : ¬ ¬ o_iushr h 11 = 4 := fun k => k g4
    rw [if_pos g4, if_neg n4]
    exact ⟨rfl, rfl⟩
  rw [if_neg g4, if_pos g4]
  by_cases g5 : o_iushr h 11 = 5
  · have n5 : ¬ ¬ o_iushr h 11 = 5 := fun k => k g5
    rw [if_pos g5, if_neg n5]
    exact ⟨rfl, rfl⟩
  rw [if_neg g5, if_pos g5]
  by_cases g6 : o_iushr h 11 = 6
  · have n6 : ¬ ¬ o_iushr h 11 = 6 := fun k => k g6
    rw [if_pos g6, if_neg n6]
    exact ⟨rfl, rfl⟩
  · rw [if_neg g6, if_pos g6]
    exact ⟨rfl, rfl⟩
theorem p_threes {h : Int32} (hh : isH h) (n z c v : Bool) (r : Nat → Int32) : f_ThumbCoreModel_threes h n z c v r = flR (f_ThumbCore_addThree r n z c v h) ∧ (f_ThumbCore_addThree r n z c v h).1 = true := by
  have e3 : o_ishr h 3 = o_iushr h 3 := i_sh hh 3 (by decide)
  have e6 : o_ishr h 6 = o_iushr h 6 := i_sh hh 6 (by decide)
  have e9 : o_ishr h 9 = o_iushr h 9 := i_sh hh 9 (by decide)
  have h0 : o_ishr h 0 = h := i_0 h
  obtain ⟨k, hk, ek⟩ := hh
  have u9 : o_iushr h 9 = nI (k / 512) := by rw [ek]; exact i_u hk (s := 9) (by decide)
  have u10 : o_iushr h 10 = nI (k / 1024) := by rw [ek]; exact i_u hk (s := 10) (by decide)
  have w3 : o_iushr h 9 &&& 3 = nI (k / 512 % 4) := by rw [u9]; exact pk_andN (by omega) (m := 3) 2 (by decide)
  have w1 : o_iushr h 9 &&& 1 = nI (k / 512 % 2) := by rw [u9]; exact pk_andN (by omega) (m := 1) 1 (by decide)
  have w10 : o_iushr h 10 &&& 1 = nI (k / 1024 % 2) := by rw [u10]; exact pk_andN (by omega) (m := 1) 1 (by decide)
  have c1 : (2 : Int32) ≤ (o_iushr h 9 &&& 3) ↔ (o_iushr h 10 &&& 1) = 1 := by
    have e1 : (1 : Int32) = nI 1 := by decide
    have e2 : (2 : Int32) = nI 2 := by decide
    rw [w3, w10, e1, e2, nI_leI (by omega) (by omega), nI_eq (by omega) (by omega)]
    omega
  have c2 : o_irem (o_iushr h 9 &&& 3) 2 = 0 ↔ ¬ (o_iushr h 9 &&& 1) = 1 := by
    have e1 : (1 : Int32) = nI 1 := by decide
    have e0 : (0 : Int32) = nI 0 := by decide
    have er : o_irem (nI (k / 512 % 4)) 2 = nI (k / 512 % 4 % 2) := pk_rem (d := 2) (by omega) (by decide) (by decide)
    rw [w3, w1, er, e1, e0, nI_eq (by omega) (by omega), nI_eq (by omega) (by omega)]
    omega
  unfold f_ThumbCoreModel_threes f_ThumbCore_addThree f_ThumbCoreModel_field k_ThumbCoreModel_threes_43 k_ThumbCoreModel_threes_81 k_ThumbCore_addThree_23 k_ThumbCore_addThree_39 k_ThumbCore_addThree_68 k_ThumbCore_addThree_112 f_ThumbCoreModel_field
  simp only [bd, p_sum0, p_sum1, e3, e6, e9, h0]
  have b0 : bI false = 0 := by decide
  have b1 : ¬ bI true = 0 := by decide
  by_cases g10 : (o_iushr h 10 &&& 1) = 1
  · have n10 : ¬ ¬ (o_iushr h 10 &&& 1) = 1 := fun k => k g10
    rw [if_pos (c1.mpr g10), if_neg n10]
    by_cases g9 : (o_iushr h 9 &&& 1) = 1
    · have n9 : ¬ ¬ (o_iushr h 9 &&& 1) = 1 := fun k => k g9
      have m9 : ¬ o_irem (o_iushr h 9 &&& 3) 2 = 0 := fun k => c2.mp k g9
      rw [if_pos m9, if_neg n9, if_neg b1, if_neg b1]
      exact ⟨rfl, rfl⟩
    · have m9 : ¬ ¬ o_irem (o_iushr h 9 &&& 3) 2 = 0 := fun k => k (c2.mpr g9)
      rw [if_neg m9, if_pos g9, if_neg b1, if_pos b0]
      exact ⟨rfl, rfl⟩
  · rw [if_neg (fun k => g10 (c1.mp k)), if_pos g10]
    by_cases g9 : (o_iushr h 9 &&& 1) = 1
    · have n9 : ¬ ¬ (o_iushr h 9 &&& 1) = 1 := fun k => k g9
      have m9 : ¬ o_irem (o_iushr h 9 &&& 3) 2 = 0 := fun k => c2.mp k g9
      rw [if_pos m9, if_neg n9, if_pos b0, if_neg b1]
      exact ⟨rfl, rfl⟩
    · have m9 : ¬ ¬ o_irem (o_iushr h 9 &&& 3) 2 = 0 := fun k => k (c2.mpr g9)
      rw [if_neg m9, if_pos g9, if_pos b0, if_pos b0]
      exact ⟨rfl, rfl⟩
theorem i_by (y : Int32) : ∃ k : Nat, k ≤ 255 ∧ y &&& 255 = nI k := by
  obtain ⟨k, hk, e⟩ := pk_andE y (m := 255) 8 (by decide)
  have hk2 : k < 256 := hk
  exact ⟨k, by omega, e⟩
theorem p_upB (n z c : Bool) (x y : Int32) : f_ThumbCoreModel_moved n z c 0 x (y &&& 255) = f_Flags_moveUp n z c x (y &&& 255) := by
  obtain ⟨k, hk, e⟩ := i_by y
  rw [e]
  exact p_up n z c x hk
theorem p_downB (n z c : Bool) (x y : Int32) : f_ThumbCoreModel_moved n z c 1 x (y &&& 255) = f_Flags_moveDown n z c x (y &&& 255) := by
  obtain ⟨k, hk, e⟩ := i_by y
  rw [e]
  exact p_down n z c x hk
theorem p_sgnB (n z c : Bool) (x y : Int32) : f_ThumbCoreModel_moved n z c 2 x (y &&& 255) = f_Flags_moveDownSigned n z c x (y &&& 255) := by
  obtain ⟨k, hk, e⟩ := i_by y
  rw [e]
  exact p_sgn n z c x hk
theorem p_turnB (n z c : Bool) (x y : Int32) : f_Flags_turnRound n z c x (y &&& 255) = mk (trn x (y &&& 255)) (if (y &&& 255) = 0 then c else decide (trn x (y &&& 255) < 0)) := by
  obtain ⟨k, hk, e⟩ := i_by y
  rw [e, p_turn n z c x (by omega)]
  by_cases g : k = 0
  · rw [if_pos g, if_pos ((s_k0 hk).mpr g)]
  · rw [if_neg g, if_neg (fun q => g ((s_k0 hk).mp q))]
theorem p_worked {h : Int32} (hh : isH h) (n z c v : Bool) (r : Nat → Int32) : f_ThumbCoreModel_worked h n z c v r = flR (f_ThumbCore_combine r n z c v h) ∧ (f_ThumbCore_combine r n z c v h).1 = true := by
  have e3 : o_ishr h 3 = o_iushr h 3 := i_sh hh 3 (by decide)
  have e6 : o_ishr h 6 = o_iushr h 6 := i_sh hh 6 (by decide)
  have h0 : o_ishr h 0 = h := i_0 h
  have b0 : bI false = 0 := by decide
  have b1 : ¬ bI true = 0 := by decide
  have hc : f_ThumbCoreModel_worked h n z c v r = k_ThumbCoreModel_worked_36 h n z c v r (h &&& 7) (r (h &&& 7).toNatClampNeg) (r (o_iushr h 3 &&& 7).toNatClampNeg) c := by
    unfold f_ThumbCoreModel_worked f_ThumbCoreModel_field
    simp only [bd, e3, h0]
    cases c
    · rw [if_pos b0]
    · rw [if_neg b1]
  rw [hc]
  generalize hd : h &&& 7 = d
  generalize hx : r d.toNatClampNeg = x
  generalize hy : r (o_iushr h 3 &&& 7).toNatClampNeg = y
  have hk : f_ThumbCore_combine r n z c v h = un5 (f_ThumbCore_combined n z c v (o_iushr h 6 &&& 15) x y) (fun r3 s4 s5 s6 s7 => if (o_iushr h 6 &&& 15) = 8 then k_ThumbCore_combine_55 r s4 s5 s6 s7 d r3 else if (o_iushr h 6 &&& 15) = 10 then k_ThumbCore_combine_55 r s4 s5 s6 s7 d r3 else if ¬ (o_iushr h 6 &&& 15) = 11 then k_ThumbCore_combine_60 r s4 s5 s6 s7 d r3 false else k_ThumbCore_combine_55 r s4 s5 s6 s7 d r3) := by
    unfold f_ThumbCore_combine
    simp only [bd, hd, hx, hy]
  rw [hk]
  unfold k_ThumbCoreModel_worked_36
  simp only [bd, p_sum0, p_sum1, p_sumB, p_shown, p_upB, p_downB, p_sgnB, e6]
  generalize hki : (o_iushr h 6 &&& 15) = ki
  unfold f_ThumbCore_combined k_ThumbCore_combine_55 k_ThumbCore_combine_60 k_ThumbCore_combined_161 k_ThumbCore_combined_188 k_ThumbCoreModel_worked_302
  by_cases g0 : ki = 0
  · subst g0
    exact ⟨rfl, rfl⟩
  by_cases g1 : ki = 1
  · subst g1
    exact ⟨rfl, rfl⟩
  by_cases g2 : ki = 2
  · subst g2
    exact ⟨rfl, rfl⟩
  by_cases g3 : ki = 3
  · subst g3
    exact ⟨rfl, rfl⟩
  by_cases g4 : ki = 4
  · subst g4
    exact ⟨rfl, rfl⟩
  by_cases g5 : ki = 5
  · subst g5
    cases c
    · exact ⟨rfl, rfl⟩
    · exact ⟨rfl, rfl⟩
  by_cases g6 : ki = 6
  · subst g6
    cases c
    · exact ⟨rfl, rfl⟩
    · exact ⟨rfl, rfl⟩
  by_cases g7 : ki = 7
  · subst g7
    have c7 : ∀ i : Int32, i = 7 → ¬ i = 0 ∧ ¬ i = 1 ∧ ¬ i = 2 ∧ ¬ i = 3 ∧ ¬ i = 4 ∧ ¬ i = 5 ∧ ¬ i = 6 ∧ ¬ i = 8 ∧ ¬ i = 10 ∧ ¬ i = 11 := by
      intro i hi
      subst hi
      decide
    obtain ⟨d0, d1, d2, d3, d4, d5, d6, d8, d10, d11⟩ := c7 7 rfl
    have etrn : ((o_iushr x ((y &&& 255) &&& 31)) ||| (o_ishl x ((32 - (y &&& 255)) &&& 31))) = trn x (y &&& 255) := rfl
    have s7 : (7 : Int32) = 7 := rfl
    simp only [if_neg d0, if_neg d1, if_neg d2, if_neg d3, if_neg d4, if_neg d5, if_neg d6, if_neg d8, if_neg d10, if_pos d11, p_turnB, p_mark, etrn, ↓reduceIte]
    simp only [un3, un4, un5, mk, flR, tc_updS]
    by_cases gz : (y &&& 255) = 0
    · have nz : ¬ ¬ (y &&& 255) = 0 := fun k => k gz
      simp only [if_pos gz, if_neg nz, if_neg b1, if_pos b0]
      exact ⟨rfl, rfl⟩
    · simp only [if_neg gz, if_pos gz]
      by_cases gn : 0 ≤ trn x (y &&& 255)
      · have gl : ¬ trn x (y &&& 255) < 0 := Int32.not_lt.mpr gn
        simp only [if_pos gn, decide_eq_false gl]
        exact ⟨rfl, rfl⟩
      · have gl : trn x (y &&& 255) < 0 := Int32.not_le.mp gn
        simp only [if_neg gn, decide_eq_true gl]
        exact ⟨rfl, rfl⟩
  by_cases g8 : ki = 8
  · subst g8
    exact ⟨rfl, rfl⟩
  by_cases g9 : ki = 9
  · subst g9
    exact ⟨rfl, rfl⟩
  by_cases g10 : ki = 10
  · subst g10
    exact ⟨rfl, rfl⟩
  by_cases g11 : ki = 11
  · subst g11
    exact ⟨rfl, rfl⟩
  by_cases g12 : ki = 12
  · subst g12
    exact ⟨rfl, rfl⟩
  by_cases g13 : ki = 13
  · subst g13
    exact ⟨rfl, rfl⟩
  by_cases g14 : ki = 14
  · subst g14
    exact ⟨rfl, rfl⟩
  have n11 : ¬ ki = 11 := g11
  simp only [if_neg g0, if_neg g1, if_neg g2, if_neg g3, if_neg g4, if_neg g5, if_neg g6, if_neg g7, if_neg g8, if_neg g9, if_neg g10, if_neg g11, if_neg g12, if_neg g13, if_neg g14, if_pos n11]
  exact ⟨rfl, rfl⟩

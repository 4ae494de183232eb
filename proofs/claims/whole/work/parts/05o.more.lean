theorem p_meet : ∀ i : Fin 14, ∀ n z c v : Bool, f_ThumbCoreModel_meets n z c v (nI i.val) = f_Flags_meet n z c v (nI i.val) := by decide +kernel
theorem far_sx (X : Int32) {i : Nat} (hi : i < 32) : bt (o_ishr (o_ishl X 7) 7) i = bt X (min i 24) := by
  have e1 : bt (o_ishr (o_ishl X 7) 7) i = bt (o_ishl X 7) (min (7 + i) 31) := s_sshr (o_ishl X 7) (m := 7) (by decide) hi
  have e2 : bt (o_ishl X 7) (min (7 + i) 31) = (decide (7 ≤ min (7 + i) 31) && bt X (min (7 + i) 31 - 7)) := b_shl 7 (by decide) X (by omega)
  have e3 : decide (7 ≤ min (7 + i) 31) = true := decide_eq_true (by omega)
  have e4 : min (7 + i) 31 - 7 = min i 24 := by omega
  rw [e1, e2, e3, Bool.true_and, e4]
theorem far_ext {s B C D E : Int32} (hs : s = 0 ∨ s = 1) (hB : ∀ i : Nat, 24 ≤ i → i < 32 → bt B i = false) (hC : ∀ i : Nat, 24 ≤ i → i < 32 → bt C i = false) (hD : ∀ i : Nat, 24 ≤ i → i < 32 → bt D i = false) (hE : ∀ i : Nat, 24 ≤ i → i < 32 → bt E i = false) : o_ishr (o_ishl ((((o_ishl s 24 ||| B) ||| C) ||| D) ||| E) 7) 7 = ((((o_ishl (-s) 24 ||| B) ||| C) ||| D) ||| E) := by
  have S : ∀ y : Int32, ∀ i : Nat, i < 32 → bt (o_ishl y 24) i = (decide (24 ≤ i) && bt y (i - 24)) := fun y i hi => b_shl 24 (by decide) y hi
  apply b_ext
  intro i hi
  rw [far_sx _ hi]
  rw [b_or, b_or, b_or, b_or, b_or, b_or, b_or, b_or, S s _ (by omega), S (-s) i hi]
  by_cases h : 24 ≤ i
  · have e : min i 24 = 24 := by omega
    have d1 : decide (24 ≤ 24) = true := by decide
    have d2 : decide (24 ≤ i) = true := decide_eq_true h
    rw [e, hB 24 (by decide) (by decide), hC 24 (by decide) (by decide), hD 24 (by decide) (by decide), hE 24 (by decide) (by decide), hB i h hi, hC i h hi, hD i h hi, hE i h hi, d1, d2]
    rcases hs with rfl | rfl
    · have z1 : bt 0 (24 - 24) = false := b_0 _
      have z2 : bt (-0) (i - 24) = false := by
        have : (-0 : Int32) = 0 := by decide
        rw [this, b_0]
      rw [z1, z2]
    · have z1 : bt 1 (24 - 24) = true := by decide
      have z2 : bt (-1) (i - 24) = true := b_m1 _ (by omega)
      rw [z1, z2]
  · have e : min i 24 = i := by omega
    have d2 : decide (24 ≤ i) = false := decide_eq_false h
    rw [e, d2]
    simp
theorem far_B (b : Bool) {k : Nat} (hk : k < 24) : ∀ i : Nat, 24 ≤ i → i < 32 → bt (o_ishl (bI b) (nI k)) i = false := by
  intro i h hi
  have e : bt (o_ishl (bI b) (nI k)) i = (decide (k ≤ i) && bt (bI b) (i - k)) := b_shl k (by omega) _ hi
  have e2 : ∀ j : Nat, 0 < j → j < 32 → bt (bI b) j = false := by
    cases b
    · intro j _ _
      exact b_0 j
    · intro j h1 h2
      exact (by decide +kernel : ∀ j : Nat, j < 32 → 0 < j → bt (bI true) j = false) j h2 h1
  rw [e, e2 _ (by omega) (by omega), Bool.and_false]
theorem far_M (x m : Int32) (n k : Nat) (hm : ∀ i : Nat, i < 32 → bt m i = decide (i < n)) (hk : k + n ≤ 24) : ∀ i : Nat, 24 ≤ i → i < 32 → bt (o_ishl (x &&& m) (nI k)) i = false := by
  intro i h hi
  have e : bt (o_ishl (x &&& m) (nI k)) i = (decide (k ≤ i) && bt (x &&& m) (i - k)) := b_shl k (by omega) _ hi
  have d : decide (i - k < n) = false := decide_eq_false (by omega)
  rw [e, b_and, hm _ (by omega), d, Bool.and_false, Bool.and_false]
theorem far_off (h l s : Int32) (a b : Bool) (hs : s = 0 ∨ s = 1) : o_ishr (o_ishl (((((o_ishl s 24) ||| (o_ishl (bI a) 23)) ||| (o_ishl (bI b) 22)) ||| (o_ishl (h &&& 1023) 12)) ||| (o_ishl (l &&& 2047) 1)) 7) 7 = k_ThumbCore_farOffset_38 h l s a b := by
  have m1 : ∀ i : Nat, i < 32 → bt 1023 i = decide (i < 10) := by decide +kernel
  have m2 : ∀ i : Nat, i < 32 → bt 2047 i = decide (i < 11) := by decide +kernel
  exact far_ext hs (far_B a (k := 23) (by decide)) (far_B b (k := 22) (by decide)) (far_M h 1023 10 12 m1 (by decide)) (far_M l 2047 11 1 m2 (by decide))
/-- after and registers of a far branch: the class's answer against the reference's -/
theorem p_far {q : Int32} {nw : Nat} (hm : tc_mem q nw) {h : Int32} (hh : isH h) (w r : Nat → Int32) (nx : Int32) : ((f_ThumbCore_branchFar q w nx r h).1 = true ∧ f_ThumbCoreModel_far q h (byt w) false nx r = (false, (f_ThumbCore_branchFar q w nx r h).2.1, (f_ThumbCore_branchFar q w nx r h).2.2)) ∨ ((f_ThumbCore_branchFar q w nx r h) = (false, nx, r) ∧ (f_ThumbCoreModel_far q h (byt w) false nx r).1 = true ∧ (f_ThumbCoreModel_far q h (byt w) false nx r).2.2 = r) := by
  have b0 : ¬ ¬ bI false = 0 := by decide
  have b1 : ¬ bI true = 0 := by decide
  have e10 : o_ishr h 10 = o_iushr h 10 := i_sh hh 10 (by decide)
  have hbad : ∀ y af, (k_ThumbCoreModel_far_38 q h (byt w) true af r y).1 = true ∧ (k_ThumbCoreModel_far_38 q h (byt w) true af r y).2.2 = r := by
    intro y af
    unfold k_ThumbCoreModel_far_38 k_ThumbCoreModel_far_43 k_ThumbCoreModel_far_71 k_ThumbCoreModel_far_87
    simp only [bd]
    simp only [if_pos b1]
    repeat' split
    all_goals exact ⟨rfl, rfl⟩
  have hbad2 : ∀ y af, (k_ThumbCoreModel_far_38 q h (byt w) false af r y).1 = true ∧ (k_ThumbCoreModel_far_38 q h (byt w) false af r y).2.2 = r := hbad
  unfold f_ThumbCoreModel_far f_ThumbCore_branchFar
  simp only [bd]
  rw [p_read hm w false _ 2 (Or.inr (Or.inl rfl))]
  by_cases ht : f_Memory_isThere q (r (15 : Int32).toNatClampNeg + 2) 2 = true
  · rw [if_pos ht, ht, if_pos b1, z_un2, if_neg b0]
    have hl := i_half w (r (15 : Int32).toNatClampNeg + 2)
    generalize f_Memory_read w (r (15 : Int32).toNatClampNeg + 2) 2 = l at hl
    have e12 : o_ishr l 12 = o_iushr l 12 := i_sh hl 12 (by decide)
    have e13 : o_ishr l 13 = o_iushr l 13 := i_sh hl 13 (by decide)
    have e11 : o_ishr l 11 = o_iushr l 11 := i_sh hl 11 (by decide)
    by_cases g : l < 49152
    · rw [if_pos g, if_pos g]
      exact Or.inr ⟨rfl, hbad2 _ _⟩
    rw [if_neg g, if_neg g, e12]
    by_cases g2 : ¬ (o_iushr l 12 &&& 1) = 0
    · rw [if_pos g2, if_pos g2]
      refine Or.inl ⟨rfl, ?_⟩
      unfold k_ThumbCoreModel_far_43 k_ThumbCoreModel_far_71 k_ThumbCoreModel_far_87 f_ThumbCore_farOffset k_ThumbCore_farOffset_22 f_ThumbCore_here
      simp only [bd, e10, e11, e13, if_neg b0]
      have hs : (o_iushr h 10 &&& 1) = 0 ∨ (o_iushr h 10 &&& 1) = 1 := by
        rw [s_b1]
        split
        · exact Or.inr rfl
        · exact Or.inl rfl
      simp only [far_off h l _ _ _ hs]
      repeat' split
      all_goals rfl
    · rw [if_neg g2, if_neg g2]
      exact Or.inr ⟨rfl, hbad2 _ _⟩
  · have h2 : f_Memory_isThere q (r (15 : Int32).toNatClampNeg + 2) 2 = false := by simpa using ht
    rw [if_neg ht, h2, if_neg b0, z_un2, if_pos b1]
    exact Or.inr ⟨rfl, hbad _ _⟩
theorem p_moveC {h : Int32} (hh : isH h) (n z c : Bool) (r : Nat → Int32) (ht : o_iushr h 11 = 0 ∨ o_iushr h 11 = 1 ∨ o_iushr h 11 = 2) : un4 (f_ThumbCoreModel_moved n z c (o_iushr h 11) (r (o_iushr h 3 &&& 7).toNatClampNeg) (if ¬ (o_iushr h 6 &&& 31) = 0 then (o_iushr h 6 &&& 31) else if o_iushr h 11 ≤ 0 then (o_iushr h 6 &&& 31) else 32)) (fun r1 s2 s3 s4 => (s2, s3, s4, upd r (h &&& 7).toNatClampNeg r1)) = (fun t : Bool × (Nat → Int32) × Bool × Bool × Bool => (t.2.2.1, t.2.2.2.1, t.2.2.2.2, t.2.1)) (f_ThumbCore_moveByConstant r n z c h) ∧ (f_ThumbCore_moveByConstant r n z c h).1 = true := by
  obtain ⟨k, hk, ek⟩ := pk_andE (o_iushr h 6) (m := 31) 5 (by decide)
  have hk2 : k ≤ 255 := by
    have : k < 32 := hk
    omega
  have e32 : (32 : Int32) = nI 32 := by decide
  unfold f_ThumbCore_moveByConstant k_ThumbCore_moveByConstant_96 k_ThumbCore_moveByConstant_124
  simp only [bd, ek]
  rcases ht with e | e | e
  · rw [e, if_pos rfl]
    have c1 : (0 : Int32) ≤ 0 := by decide
    have e1 : (if ¬ nI k = 0 then nI k else if (0 : Int32) ≤ 0 then nI k else 32) = nI k := by
      rw [if_pos c1]
      split <;> rfl
    rw [e1, p_up n z c _ hk2]
    exact ⟨rfl, rfl⟩
  · have c0 : ¬ (1 : Int32) = 0 := by decide
    have c1 : ¬ (1 : Int32) ≤ 0 := by decide
    rw [e, if_neg c0, if_pos rfl, if_neg c1]
    by_cases g : nI k = 0
    · have ng : ¬ ¬ nI k = 0 := fun q => q g
      rw [if_neg ng, if_neg ng, e32, p_down n z c _ (by decide)]
      exact ⟨rfl, rfl⟩
    · rw [if_pos g, if_pos g, p_down n z c _ hk2]
      exact ⟨rfl, rfl⟩
  · have c0 : ¬ (2 : Int32) = 0 := by decide
    have c1 : ¬ (2 : Int32) = 1 := by decide
    have c2 : ¬ (2 : Int32) ≤ 0 := by decide
    rw [e, if_neg c0, if_neg c1, if_neg c2]
    by_cases g : nI k = 0
    · have ng : ¬ ¬ nI k = 0 := fun q => q g
      rw [if_neg ng, if_neg ng, e32, p_sgn n z c _ (by decide)]
      exact ⟨rfl, rfl⟩
    · rw [if_pos g, if_pos g, p_sgn n z c _ hk2]
      exact ⟨rfl, rfl⟩

theorem r_bit8 : ∀ k : Nat, k < 4 → ∀ i : Nat, i < 32 → bt (o_ishl 1 (nI k)) i = decide (i = k) := fun k hk i hi => x_1 k (by omega) i hi
theorem r_top (y : Int32) {k : Nat} (hk : k < 4) : ((o_ishr y 28 &&& 15) &&& o_ishl 1 (nI k)) = 0 ↔ ¬ bt y (28 + k) = true := by
  have e15 : ∀ i : Nat, i < 32 → bt 15 i = decide (i < 4) := by decide +kernel
  have hb : ∀ i : Nat, i < 32 → bt ((o_ishr y 28 &&& 15) &&& o_ishl 1 (nI k)) i = (decide (i = k) && bt y (28 + k)) := by
    intro i hi
    rw [b_and, b_and, e15 i hi, r_bit8 k hk i hi]
    by_cases g : i = k
    · subst g
      have e : bt (o_ishr y 28) i = bt y (28 + i) := by
        have := s_sshr y (m := 28) (by decide) hi
        have e2 : min (28 + i) 31 = 28 + i := by omega
        rw [e2] at this
        exact this
      rw [e]
      simp [hk]
    · simp [g]
  constructor
  · intro h g
    have h2 := hb k (by omega)
    rw [h, b_0, g] at h2
    simp at h2
  · intro g
    have g2 : bt y (28 + k) = false := by simpa using g
    apply b_ext
    intro i hi
    rw [hb i hi, g2, b_0, Bool.and_false]
theorem r_neg (y : Int32) : bt y 31 = true ↔ ¬ 0 ≤ y := by
  have e : bt y 31 = decide (y < 0) := by
    have h1 : y.toBitVec.msb = decide (y.toInt < 0) := BitVec.msb_eq_toInt
    have h2 : bt y 31 = y.toBitVec.msb := by
      rw [BitVec.msb_eq_getLsbD_last]
      rfl
    rw [h2, h1]
    congr 1
    rw [Int32.lt_iff_toInt_lt]
    rfl
  rw [e, decide_eq_true_iff, Int32.not_le]
theorem r_take (n z c v : Bool) (y : Int32) : f_Flags_take n z c v y = (bt y 31, bt y 30, bt y 29, bt y 28) := by
  have h28 := x_bit y (j := 28) (by decide)
  have h29 := x_bit y (j := 29) (by decide)
  have h30 := x_bit y (j := 30) (by decide)
  have h31 := r_neg y
  have e28 : (o_iushr y 28 &&& 1) = 1 ↔ bt y 28 = true := h28
  have e29 : (o_iushr y 29 &&& 1) = 1 ↔ bt y 29 = true := h29
  have e30 : (o_iushr y 30 &&& 1) = 1 ↔ bt y 30 = true := h30
  unfold f_Flags_take k_Flags_take_10 k_Flags_take_29 k_Flags_take_48 k_Flags_take_67
  cases g31 : bt y 31 <;> cases g30 : bt y 30 <;> cases g29 : bt y 29 <;> cases g28 : bt y 28 <;> rw [g31] at h31 <;> rw [g30] at e30 <;> rw [g29] at e29 <;> rw [g28] at e28 <;> simp at h31 e30 e29 e28 <;> simp [h31, e30, e29, e28]
theorem r_flags (n z c v : Bool) (y : Int32) : f_ThumbCoreModel_flags n z c v (o_ishr y 28 &&& 15) = (bt y 31, bt y 30, bt y 29, bt y 28) := by
  have h3 := r_top y (k := 3) (by decide)
  have h2 := r_top y (k := 2) (by decide)
  have h1 := r_top y (k := 1) (by decide)
  have h0 := r_top y (k := 0) (by decide)
  have e3 : ((o_ishr y 28 &&& 15) &&& 8) = 0 ↔ ¬ bt y 31 = true := h3
  have e2 : ((o_ishr y 28 &&& 15) &&& 4) = 0 ↔ ¬ bt y 30 = true := h2
  have e1 : ((o_ishr y 28 &&& 15) &&& 2) = 0 ↔ ¬ bt y 29 = true := h1
  have e0 : ((o_ishr y 28 &&& 15) &&& 1) = 0 ↔ ¬ bt y 28 = true := h0
  generalize (o_ishr y 28 &&& 15) = b at e3 e2 e1 e0 ⊢
  unfold f_ThumbCoreModel_flags k_ThumbCoreModel_flags_13 k_ThumbCoreModel_flags_28 k_ThumbCoreModel_flags_43 k_ThumbCoreModel_flags_58
  cases g31 : bt y 31 <;> cases g30 : bt y 30 <;> cases g29 : bt y 29 <;> cases g28 : bt y 28 <;> rw [g31] at e3 <;> rw [g30] at e2 <;> rw [g29] at e1 <;> rw [g28] at e0 <;> simp at e3 e2 e1 e0 <;> simp [e3, e2, e1, e0]
theorem p_take (n z c v : Bool) (y : Int32) : f_ThumbCoreModel_flags n z c v (o_ishr y 28 &&& 15) = f_Flags_take n z c v y := (r_flags n z c v y).trans (r_take n z c v y).symm
theorem p_returns {a : Int32} (ha : actOK a) (x : Int32) : f_ThumbCoreModel_returns (bt a) x = f_ThumbCore_isReturn a x := by
  unfold f_ThumbCoreModel_returns f_ThumbCore_isReturn
  simp only [bd]
  rw [p_actives ha]
  by_cases g : a = 0
  · rw [if_pos ((p_actle ha).mpr g), if_pos g]
  · rw [if_neg (fun q => g ((p_actle ha).mp q)), if_neg g]
theorem r_10 (q : Int32) (m : Nat → Int32) (n z c v : Bool) (af cu : Int32) (r : Nat → Int32) (a : Nat → Bool) (y1 y2 : Int32) : ∀ (f k : Nat) (b : Bool), k + f = 8 → k_ThumbCoreModel_comeBack_10 q m (f + 1) n z c v b af cu r a y1 y2 (nI k) = (if (!b && allF q y2 k f) = true then un2 (f_ThumbCoreModel_read q m false (y2 + 28) 4) (fun r1 s2 => k_ThumbCoreModel_comeBack_71 q m n z c v s2 af cu r a y1 y2 r1) else k_ThumbCoreModel_comeBack_71 q m n z c v true af cu r a y1 y2 0) := by
  intro f
  induction f with
  | zero =>
    intro k b h
    have h8 : k = 8 := by omega
    subst h8
    rw [k_ThumbCoreModel_comeBack_10, if_pos (by decide)]
    cases b
    · rw [if_pos (by decide)]
      rfl
    · rw [if_neg (by decide)]
      rfl
  | succ f ih =>
    intro k b h
    rw [k_ThumbCoreModel_comeBack_10]
    unfold k_ThumbCoreModel_comeBack_37 k_ThumbCoreModel_comeBack_42
    have g8 : ¬ (8 : Int32) ≤ nI k := nI_ge (a := k) (b := 8) (by omega) (by decide)
    rw [if_neg g8]
    simp only [bd]
    rw [p_there _ _ _ (Or.inr (Or.inr rfl)), y_4k k (by omega), nI_1]
    show _ = (if (!b && (f_Memory_isThere q (y2 + nI (4 * k)) 4 && allF q y2 (k + 1) f)) = true then _ else _)
    cases b
    · rw [if_neg (by decide)]
      cases f_Memory_isThere q (y2 + nI (4 * k)) 4
      · rw [if_neg (by decide), ih (k + 1) true (by omega)]
        simp
      · rw [if_pos (by decide), ih (k + 1) false (by omega)]
        simp
    · rw [if_pos (by decide), ih (k + 1) true (by omega)]
      simp
theorem r_un2 {A B X : Type} (a : A) (b : B) (k : A → B → X) : un2 (a, b) k = k a b := rfl
theorem r_rd {q : Int32} {nw : Nat} (hm : tc_mem q nw) (w : Nat → Int32) {j k : Nat} (hj : j % 4 = 0) (hl : j + 32 ≤ 4 * nw) (hk : k < 8) : f_ThumbCoreModel_read q (byt w) false (nI j + (4 * nI k)) 4 = (f_Memory_word w (nI j + (4 * nI k)), false) := by
  have hms := hm
  obtain ⟨m1, m2, m3⟩ := hms
  rw [y_4k k (by omega), nI_add, p_read hm w false _ 4 (Or.inr (Or.inr rfl)), if_pos ((y_is4 hm _).mpr ⟨j + 4 * k, rfl, by omega, by omega⟩), p_word w (by omega) (by omega)]
theorem r_step {q : Int32} {nw : Nat} (hm : tc_mem q nw) (w r : Nat → Int32) (n z c v : Bool) (af cu y3 y4 : Int32) (a : Nat → Bool) {j : Nat} (hj : j % 4 = 0) (hl : j + 32 ≤ 4 * nw) (f k : Nat) (hk : k < 4) : k_ThumbCoreModel_comeBack_183 q (byt w) (f + 1) n z c v false af cu r a (nI j) y3 y4 (nI k) = k_ThumbCoreModel_comeBack_183 q (byt w) f n z c v false af cu (upd r k (f_Memory_word w (nI j + (4 * nI k)))) a (nI j) y3 y4 (nI (k + 1)) := by
  have g4 : ¬ (4 : Int32) ≤ nI k := nI_ge (a := k) (b := 4) (by omega) (by decide)
  rw [k_ThumbCoreModel_comeBack_183, if_neg g4, r_rd hm w hj hl (by omega), nI_clamp (by omega), nI_1]
  rfl
theorem r_512 (y : Int32) : (y &&& 512) = 0 ↔ ¬ (o_iushr y 9 &&& 1) = 1 := by
  have e : (o_iushr y 9 &&& 1) = 1 ↔ bt y 9 = true := x_bit y (j := 9) (by decide)
  have e5 : ∀ i : Nat, i < 32 → bt 512 i = decide (i = 9) := by decide +kernel
  rw [e]
  constructor
  · intro h g
    have h2 := congrArg (fun y => bt y 9) h
    simp only [b_and, b_0] at h2
    rw [g, e5 9 (by decide)] at h2
    simp at h2
  · intro g
    have g2 : bt y 9 = false := by simpa using g
    apply b_ext
    intro i hi
    rw [b_and, e5 i hi, b_0]
    by_cases h : i = 9
    · rw [h, g2]
      rfl
    · simp [h]
/-- the class's state behind a return, seen as the reference's -/
def backR (t : Int32 × (Nat → Int32) × Bool × Bool × Bool × Bool × Int32 × Int32) : Bool × Bool × Bool × Bool × Bool × Int32 × Int32 × (Nat → Int32) × (Nat → Bool) := (t.2.2.1, t.2.2.2.1, t.2.2.2.2.1, t.2.2.2.2.2.1, false, t.1, t.2.2.2.2.2.2.2, t.2.1, bt t.2.2.2.2.2.2.1)
theorem r_c39 (w : Nat → Int32) (nx : Int32) (r : Nat → Int32) (n z c v : Bool) (a cu y2 y3 : Int32) : k_ThumbCore_goTo_39 w 7 nx r n z c v a cu y2 y3 0 = (if ¬ ((o_iushr y3 9) &&& 1) = 1 then k_ThumbCore_goTo_121 w (f_Memory_word w (y2 + 24) &&& (-2)) (upd (upd (upd (upd (upd (upd r 0 (f_Memory_word w (y2 + (4 * nI 0)))) 1 (f_Memory_word w (y2 + (4 * nI 1)))) 2 (f_Memory_word w (y2 + (4 * nI 2)))) 3 (f_Memory_word w (y2 + (4 * nI 3)))) (12 : Int32).toNatClampNeg (f_Memory_word w (y2 + (4 * nI 4)))) (14 : Int32).toNatClampNeg (f_Memory_word w (y2 + (4 * nI 5)))) n z c v a cu y3 (y2 + 32) 0 else k_ThumbCore_goTo_121 w (f_Memory_word w (y2 + 24) &&& (-2)) (upd (upd (upd (upd (upd (upd r 0 (f_Memory_word w (y2 + (4 * nI 0)))) 1 (f_Memory_word w (y2 + (4 * nI 1)))) 2 (f_Memory_word w (y2 + (4 * nI 2)))) 3 (f_Memory_word w (y2 + (4 * nI 3)))) (12 : Int32).toNatClampNeg (f_Memory_word w (y2 + (4 * nI 4)))) (14 : Int32).toNatClampNeg (f_Memory_word w (y2 + (4 * nI 5)))) n z c v a cu y3 (y2 + 32) 4) := rfl
theorem r_183 {q : Int32} {nw : Nat} (hm : tc_mem q nw) (w r : Nat → Int32) (n z c v : Bool) (af nx cu y3 : Int32) (a : Int32) {j : Nat} (hj : j % 4 = 0) (hl : j + 32 ≤ 4 * nw) (hcu : vp_in cu 16) : k_ThumbCoreModel_comeBack_183 q (byt w) 5 n z c v false af cu r (bt a) (nI j) y3 (y3 &&& 63) 0 = backR (k_ThumbCore_goTo_39 w 7 nx r n z c v a cu (nI j) y3 0) := by
  obtain ⟨i, hi, rfl⟩ := vp_in_of hcu (by decide)
  have e0 : (0 : Int32) = nI 0 := by decide
  have e16 : (16 : Int32) = 4 * nI 4 := by decide
  have e20 : (20 : Int32) = 4 * nI 5 := by decide
  have e24 : (24 : Int32) = 4 * nI 6 := by decide
  have s0 := r_step hm w r n z c v af (nI i) y3 (y3 &&& 63) (bt a) hj hl 4 0 (by decide)
  refine s0.trans ?_
  rw [r_step hm w _ n z c v af (nI i) y3 (y3 &&& 63) (bt a) hj hl 3 (0 + 1) (by decide), r_step hm w _ n z c v af (nI i) y3 (y3 &&& 63) (bt a) hj hl 2 (0 + 1 + 1) (by decide), r_step hm w _ n z c v af (nI i) y3 (y3 &&& 63) (bt a) hj hl 1 (0 + 1 + 1 + 1) (by decide)]
  rw [k_ThumbCoreModel_comeBack_183, if_pos (by decide), e16, e20, e24, r_rd hm w hj hl (k := 4) (by decide)]
  rw [r_un2, r_rd hm w hj hl (k := 5) (by decide), r_un2, r_rd hm w hj hl (k := 6) (by decide), r_un2, p_take, r_c39, e24]
  unfold k_ThumbCore_goTo_121 k_ThumbCoreModel_comeBack_310 f_Exceptions_endFor
  simp only [bd]
  have ec : (nI i).toNatClampNeg = i := nI_clamp (by omega)
  rw [ec]
  have h9 := r_512 y3
  have ex := x_clr a (e := i) (by omega)
  have e32 : nI j + 32 + 0 = nI j + 32 := Int32.add_zero _
  have e36 : nI j + 32 + 4 = nI j + 36 := by
    rw [Int32.add_assoc]
    rfl
  by_cases g : (y3 &&& 512) = 0
  · have c1 := h9.mp g
    simp only [if_pos g, if_pos c1, e32, backR, un4, un2, ex] <;> rfl
  · have c1 : ¬ ¬ (o_iushr y3 9 &&& 1) = 1 := fun k => g (h9.mpr k)
    simp only [if_neg g, if_neg c1, e36, backR, un4, un2, ex] <;> rfl
theorem r_bad (q : Int32) (m : Nat → Int32) (n z c v : Bool) (af cu : Int32) (r : Nat → Int32) (a : Nat → Bool) (y1 y2 z0 : Int32) : k_ThumbCoreModel_comeBack_71 q m n z c v true af cu r a y1 y2 z0 = (n, z, c, v, true, af, cu, r, a) := by
  have h149 : ∀ (y3 y4 : Int32) (b : Bool), k_ThumbCoreModel_comeBack_149 q m n z c v true af cu r a y2 y3 y4 b = (n, z, c, v, true, af, cu, r, a) := fun _ _ _ => rfl
  unfold k_ThumbCoreModel_comeBack_71 k_ThumbCoreModel_comeBack_148 k_ThumbCoreModel_comeBack_101
  simp only [bd, h149]
  repeat' split
  all_goals rfl
theorem r_last (a told : Int32) (ha : actOK a) (q : Int32) (m : Nat → Int32) (n z c v : Bool) (af cu : Int32) (r : Nat → Int32) (y2 z0 : Int32) (ht : (z0 &&& 63) = told) : k_ThumbCoreModel_comeBack_71 q m n z c v false af cu r (bt a) (-7) y2 z0 = k_ThumbCoreModel_comeBack_149 q m n z c v false af cu r (bt a) y2 z0 told (f_Exceptions_mayEndLast a told) := by
  unfold k_ThumbCoreModel_comeBack_71 k_ThumbCoreModel_comeBack_101 f_Exceptions_mayEndLast
  simp only [bd]
  rw [if_neg (by decide), ht, p_actives ha]
  by_cases g : told = 0
  · have c1 : ¬ ¬ told = 0 := fun k => k g
    rw [if_neg c1, if_neg c1]
    by_cases g1 : f_Integer_bitCount a = 1
    · have c2 : ¬ ¬ f_Integer_bitCount a = 1 := fun k => k g1
      rw [if_neg c2, if_neg c2]
    · rw [if_pos g1, if_pos g1]
  · rw [if_pos g, if_pos g]
theorem r_for (a told : Int32) (ha : actOK a) (q : Int32) (m : Nat → Int32) (n z c v : Bool) (af cu x : Int32) (hx : ¬ x = (-7)) (r : Nat → Int32) (y2 z0 : Int32) (ht : (z0 &&& 63) = told) : k_ThumbCoreModel_comeBack_71 q m n z c v false af cu r (bt a) x y2 z0 = k_ThumbCoreModel_comeBack_149 q m n z c v false af cu r (bt a) y2 z0 told (f_Exceptions_mayEndFor a cu told) := by
  obtain ⟨t, hlt, e⟩ := pk_andE z0 (m := 63) 6 (by decide)
  have ht2 : told = nI t := ht.symm.trans e
  have hlt2 : t < 64 := hlt
  unfold k_ThumbCoreModel_comeBack_71 k_ThumbCoreModel_comeBack_148 f_Exceptions_mayEndFor f_Exceptions_isActive
  simp only [bd]
  rw [if_pos hx, ht, p_actives ha, ht2]
  have h16 : (16 : Int32) ≤ nI t ↔ 16 ≤ t := nI_leI (a := 16) (by decide) (by omega)
  have h15 : (15 : Int32) < nI t ↔ 15 < t := nI_ltI (a := 15) (by decide) (by omega)
  have h0 : ¬ nI t < 0 := nI_pos (by omega)
  have hle : nI t ≤ 0 ↔ t = 0 := by
    have e0 : (0 : Int32) = nI 0 := by decide
    rw [e0, nI_leI (by omega) (by omega)]
    omega
  rw [nI_clamp (by omega)]
  by_cases g16 : 16 ≤ t
  · have gb : bt a t = bt a t := rfl
    rw [if_pos (h16.mpr g16), if_neg h0, if_pos (h15.mpr (by omega))]
    split <;> rfl
  · have n16 : ¬ (16 : Int32) ≤ nI t := fun k => g16 (h16.mp k)
    have n15 : ¬ (15 : Int32) < nI t := fun k => by
      have := h15.mp k
      omega
    rw [if_neg n16, if_neg h0, if_neg n15]
    have hb := x_bit a (j := t) (by omega)
    by_cases gc : nI t = cu
    · rw [if_pos gc, if_pos gc]
    · rw [if_neg gc, if_neg gc]
      by_cases gz : t = 0
      · have ba : bt a 0 = false := ha 0 (by decide) (by decide) (by decide) (by decide) (by decide)
        rw [if_pos (hle.mpr gz)]
        subst gz
        have cb : ¬ (o_iushr a (nI 0) &&& 1) = 1 := fun k => by
          rw [hb, ba] at k
          cases k
        rw [if_pos cb]
        rfl
      · have nle : ¬ nI t ≤ 0 := fun k => gz (hle.mp k)
        rw [if_neg nle]
        by_cases gb : bt a t = true
        · have c1 : ¬ bI (bt a t) = 0 := fun k => x_bI.mp k gb
          have c2 : ¬ ¬ (o_iushr a (nI t) &&& 1) = 1 := fun k => k (hb.mpr gb)
          have c3 : ¬ bI true = 0 := by decide
          rw [if_neg c1, if_neg c2, if_neg c3]
          by_cases g1 : f_Integer_bitCount a ≤ 1
          · rw [if_pos g1, if_pos g1]
          · rw [if_neg g1, if_neg g1]
        · have c1 : bI (bt a t) = 0 := x_bI.mpr gb
          have c2 : ¬ (o_iushr a (nI t) &&& 1) = 1 := fun k => gb (hb.mp k)
          have c3 : bI false = 0 := by decide
          rw [if_pos c1, if_pos c2, if_pos c3]
theorem bd_eq {A B : Type} (x : A) (k : A → B) : bd x k = k x := rfl
theorem r_go1 (w r : Nat → Int32) (n z c v : Bool) (nx cu x a : Int32) (hr : f_ThumbCore_isReturn a x = true) : f_ThumbCore_goTo w nx r n z c v a cu x = k_ThumbCore_goTo_39 w 7 nx r n z c v a cu (r (13 : Int32).toNatClampNeg) (f_Memory_word w (r (13 : Int32).toNatClampNeg + 28)) 0 := by
  have c1 : ¬ bI true = 0 := by decide
  rw [f_ThumbCore_goTo, bd_eq, hr, if_pos c1, bd_eq, bd_eq]
theorem r_go0 (w r : Nat → Int32) (n z c v : Bool) (nx cu x a : Int32) (hr : f_ThumbCore_isReturn a x = false) : f_ThumbCore_goTo w nx r n z c v a cu x = ((x - 1), r, n, z, c, v, a, cu) := by
  have c1 : ¬ ¬ bI false = 0 := by decide
  rw [f_ThumbCore_goTo, bd_eq, hr, if_neg c1]
theorem r_may1 (q : Int32) (w : Nat → Int32) (cu x a sp : Int32) (hr : f_ThumbCore_isReturn a x = true) (h : f_Memory_areThere q sp 8 = true) : f_ThumbCore_mayGoTo q w a cu x sp = if ¬ x = (-7) then f_Exceptions_mayEndFor a cu (f_Memory_word w (sp + 28) &&& 63) else f_Exceptions_mayEndLast a (f_Memory_word w (sp + 28) &&& 63) := by
  have c1 : ¬ bI true = 0 := by decide
  unfold f_ThumbCore_mayGoTo
  simp only [bd]
  rw [hr, if_pos c1, h, if_pos c1]
theorem r_may0 (q : Int32) (w : Nat → Int32) (cu x a sp : Int32) (hr : f_ThumbCore_isReturn a x = true) (h : f_Memory_areThere q sp 8 = false) : f_ThumbCore_mayGoTo q w a cu x sp = false := by
  have c1 : ¬ bI true = 0 := by decide
  have c2 : ¬ ¬ bI false = 0 := by decide
  unfold f_ThumbCore_mayGoTo
  simp only [bd]
  rw [hr, if_pos c1, h, if_neg c2]
theorem r_mayN (q : Int32) (w : Nat → Int32) (cu x a sp : Int32) (hr : f_ThumbCore_isReturn a x = false) : f_ThumbCore_mayGoTo q w a cu x sp = if ¬ (x &&& 1) = 1 then false else true := by
  have c2 : ¬ ¬ bI false = 0 := by decide
  unfold f_ThumbCore_mayGoTo
  simp only [bd]
  rw [hr, if_neg c2]
theorem p_back {q : Int32} {nw : Nat} (hm : tc_mem q nw) (w r : Nat → Int32) (n z c v : Bool) (af nx cu x a : Int32) (ha : actOK a) (hcu : vp_in cu 16) (hr : f_ThumbCore_isReturn a x = true) : f_ThumbCoreModel_comeBack q (byt w) n z c v false af cu r (bt a) x = if f_ThumbCore_mayGoTo q w a cu x (r (13 : Int32).toNatClampNeg) = true then backR (f_ThumbCore_goTo w nx r n z c v a cu x) else (n, z, c, v, true, af, cu, r, bt a) := by
  have hcb : f_ThumbCoreModel_comeBack q (byt w) n z c v false af cu r (bt a) x = k_ThumbCoreModel_comeBack_10 q (byt w) 9 n z c v false af cu r (bt a) x (r (13 : Int32).toNatClampNeg) 0 := rfl
  rw [hcb, r_go1 w r n z c v nx cu x a hr]
  generalize r (13 : Int32).toNatClampNeg = sp
  have hall : allF q sp 0 8 = f_Memory_areThere q sp 8 := by
    have e1 := y_NF q sp 8 0
    have e2 : allN q sp 0 = true := rfl
    rw [Nat.zero_add, e2, Bool.true_and] at e1
    rw [← e1]
    exact y_all hm sp (by decide) (by decide)
  have h10 := r_10 q (byt w) n z c v af cu r (bt a) x sp 8 0 false (by decide)
  rw [hall, Bool.not_false, Bool.true_and] at h10
  refine h10.trans ?_
  by_cases har : f_Memory_areThere q sp 8 = true
  · rw [if_pos har, r_may1 q w cu x a sp hr har]
    obtain ⟨j, rfl, hj, hl⟩ := (y_areI hm sp (n := 8) (by decide)).mp har
    have hl' : j + 32 ≤ 4 * nw := by omega
    have e28 : (28 : Int32) = 4 * nI 7 := by decide
    have hrd := r_rd hm w hj hl' (k := 7) (by decide)
    rw [← e28] at hrd
    rw [hrd, r_un2]
    generalize f_Memory_word w (nI j + 28) = last
    have h149 : ∀ b : Bool, k_ThumbCoreModel_comeBack_149 q (byt w) n z c v false af cu r (bt a) (nI j) last (last &&& 63) b = if b = true then backR (k_ThumbCore_goTo_39 w 7 nx r n z c v a cu (nI j) last 0) else (n, z, c, v, true, af, cu, r, bt a) := by
      intro b
      cases b
      · rfl
      · rw [if_pos rfl, ← r_183 hm w r n z c v af nx cu last a hj hl' hcu]
        rfl
    by_cases hx : x = (-7)
    · subst hx
      have c7 : ¬ ¬ (-7 : Int32) = -7 := by decide
      rw [r_last a (last &&& 63) ha q (byt w) n z c v af cu r (nI j) last rfl, h149, if_neg c7]
    · rw [r_for a (last &&& 63) ha q (byt w) n z c v af cu x hx r (nI j) last rfl, h149, if_pos hx]
  · have har2 : f_Memory_areThere q sp 8 = false := by simpa using har
    rw [if_neg har, r_may0 q w cu x a sp hr har2, r_bad]
    rfl
theorem p_goTo {q : Int32} {nw : Nat} (hm : tc_mem q nw) (w r : Nat → Int32) (n z c v : Bool) (af nx cu x a : Int32) (ha : actOK a) (hcu : vp_in cu 16) : f_ThumbCoreModel_goTo q (byt w) n z c v false af cu r (bt a) x = if f_ThumbCore_mayGoTo q w a cu x (r (13 : Int32).toNatClampNeg) = true then backR (f_ThumbCore_goTo w nx r n z c v a cu x) else (n, z, c, v, true, af, cu, r, bt a) := by
  by_cases hr : f_ThumbCore_isReturn a x = true
  · refine Eq.trans ?_ (p_back hm w r n z c v af nx cu x a ha hcu hr)
    have c1 : ¬ bI true = 0 := by decide
    unfold f_ThumbCoreModel_goTo
    simp only [bd]
    rw [p_returns ha, hr, if_neg c1]
    rfl
  · have hr2 : f_ThumbCore_isReturn a x = false := by simpa using hr
    have c1 : bI false = 0 := by decide
    rw [r_mayN q w cu x a _ hr2, r_go0 w r n z c v nx cu x a hr2]
    unfold f_ThumbCoreModel_goTo
    simp only [bd]
    rw [p_returns ha, hr2, if_pos c1]
    have e1 := s_b1 x
    by_cases g : bt x 0 = true
    · rw [if_pos g] at e1
      rw [e1]
      rfl
    · rw [if_neg g] at e1
      rw [e1]
      rfl

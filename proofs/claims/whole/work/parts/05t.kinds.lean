/-- the kinds by h / 256 mod 16: the class's answer against the reference's (awake, after = next = af ahead of it) -/
def kOK (w r : Nat → Int32) (a cu : Int32) (mk : Bool) (n z c v : Bool) (af : Int32) (t : Bool × Bool × Int32 × (Nat → Int32) × (Nat → Int32) × Bool × Bool × Bool × Bool × Int32 × Int32 × Bool) (m : Bool × Bool × Bool × Bool × Bool × Int32 × Bool × Bool × Int32 × (Nat → Int32) × (Nat → Int32) × (Nat → Bool)) : Prop :=
  (t.1 = true ∧ m = (t.2.2.2.2.2.1, t.2.2.2.2.2.2.1, t.2.2.2.2.2.2.2.1, t.2.2.2.2.2.2.2.2.1, false, t.2.2.1, t.2.2.2.2.2.2.2.2.2.2.2, t.2.1, t.2.2.2.2.2.2.2.2.2.2.1, byt t.2.2.2.1, t.2.2.2.2.1, bt t.2.2.2.2.2.2.2.2.2.1)) ∨
  (t = (false, false, af, w, r, n, z, c, v, a, cu, mk) ∧ m.2.2.2.2.1 = true ∧ m.2.2.2.2.2.2.1 = mk ∧ m.2.2.2.2.2.2.2.1 = false ∧ m.2.2.2.2.2.2.2.2.1 = cu ∧ m.2.2.2.2.2.2.2.2.2.1 = byt w ∧ m.2.2.2.2.2.2.2.2.2.2.2 = bt a ∧ hi16 m.2.2.2.2.2.2.2.2.2.2.1 r)
theorem k_415b (q h : Int32) (n z c v : Bool) (af : Int32) (mk as : Bool) (cu : Int32) (m r : Nat → Int32) (a : Nat → Bool) (y1 y2 y3 : Int32) : k_ThumbCoreModel_kinds_415 q h n z c v true af mk as cu m r a y1 y2 y3 = (n, z, c, v, true, af, mk, as, cu, m, r, a) := rfl
theorem k_415n (q h : Int32) (n z c v : Bool) (af : Int32) (mk as : Bool) (cu : Int32) (m r : Nat → Int32) (a : Nat → Bool) (y1 y2 y3 : Int32) (hk : ¬ (o_ishr h 8 &&& 15) = 10) : k_ThumbCoreModel_kinds_415 q h n z c v false af mk as cu m r a y1 y2 y3 = (n, z, c, v, false, af, mk, as, cu, m, r, a) := by
  have b0 : ¬ ¬ bI false = 0 := by decide
  unfold k_ThumbCoreModel_kinds_415
  rw [if_neg b0, if_pos hk]
theorem k_ls {q h : Int32} (n10 : ¬ (o_ishr h 8 &&& 15) = 10) (w r : Nat → Int32) (n z c v mk : Bool) (af cu a y1 y2 y3 : Int32) (t m : Bool × (Nat → Int32) × (Nat → Int32)) (hp : lsOK w r t m) : kOK w r a cu mk n z c v af (un3 t (fun r3 s4 s5 => (r3, false, af, s4, s5, n, z, c, v, a, cu, mk))) (un3 m (fun s5 s6 s7 => k_ThumbCoreModel_kinds_415 q h n z c v s5 af mk false cu s6 s7 (bt a) y1 y2 y3)) := by
  obtain ⟨t1, t2, t3⟩ := t
  obtain ⟨m1, m2, m3⟩ := m
  rcases hp with ⟨p1, p2⟩ | ⟨p1, p2, p3, p4, p5, p6⟩
  · cases p2
    exact Or.inl ⟨p1, k_415n q h n z c v af mk false cu (byt t2) t3 (bt a) y1 y2 y3 n10⟩
  · dsimp only at p1 p2 p3 p4 p5
    subst p1
    subst p2
    subst p3
    subst p4
    subst p5
    exact Or.inr ⟨rfl, rfl, rfl, rfl, rfl, rfl, rfl, p6⟩
theorem p_kinds {q : Int32} {nw : Nat} (hm : tc_mem q nw) {h : Int32} (hh : isH h) (w r : Nat → Int32) (n z c v mk : Bool) (af cu a : Int32) (ha : actOK a) (hcu : vp_in cu 16) : kOK w r a cu mk n z c v af (f_ThumbCore_miscellaneous q false af w r n z c v a cu mk h) (f_ThumbCoreModel_kinds q h n z c v false af mk false cu (byt w) r (bt a)) := by
  have b0 : ¬ ¬ bI false = 0 := by decide
  have b1 : ¬ bI true = 0 := by decide
  have b2 : bI false = 0 := by decide
  have e8 : o_ishr h 8 = o_iushr h 8 := i_sh hh 8 (by decide)
  have e6 : o_ishr h 6 = o_iushr h 6 := i_sh hh 6 (by decide)
  have e3 : o_ishr h 3 = o_iushr h 3 := i_sh hh 3 (by decide)
  have h0 : o_ishr h 0 = h := i_0 h
  obtain ⟨k, hk, ek⟩ := hh
  have u8 : o_iushr h 8 = nI (k / 256) := by rw [ek]; exact i_u hk (s := 8) (by decide)
  have w8 : o_iushr h 8 &&& 15 = nI (k / 256 % 16) := by rw [u8]; exact pk_andN (by omega) (m := 15) 4 (by decide)
  have eL : h &&& 255 = nI (k % 256) := by rw [ek]; exact pk_andN (by omega) (m := 255) 8 (by decide)
  have eM : h &&& 511 = nI (k % 512) := by rw [ek]; exact pk_andN (by omega) (m := 511) 9 (by decide)
  have hlt : k % 256 < 256 := Nat.mod_lt _ (by decide)
  unfold f_ThumbCore_miscellaneous f_ThumbCoreModel_kinds f_ThumbCoreModel_field
  simp only [bd, e8, e6, e3, h0]
  have h15 : ∀ i : Nat, i < 16 → ((o_iushr h 8 &&& 15) = nI i ↔ k / 256 % 16 = i) := by
    intro i hi
    rw [w8, nI_eq (by omega) (by omega)]
  by_cases g0 : (o_iushr h 8 &&& 15) = 0
  · rw [if_pos g0, if_pos g0]
    have n10 : ¬ (o_ishr h 8 &&& 15) = 10 := by rw [e8, g0]; decide
    refine Or.inl ⟨rfl, ?_⟩
    have hb : (h &&& 128) = 0 ↔ ¬ (o_iushr h 7 &&& 1) = 1 := by
      have hx : (o_iushr h 7 &&& 1) = 1 ↔ bt h 7 = true := x_bit h (j := 7) (by decide)
      have e5 : ∀ i : Nat, i < 32 → bt 128 i = decide (i = 7) := by decide +kernel
      rw [hx]
      constructor
      · intro q1 q2
        have q3 := congrArg (fun y => bt y 7) q1
        simp only [b_and, b_0] at q3
        rw [q2, e5 7 (by decide)] at q3
        simp at q3
      · intro q2
        have q3 : bt h 7 = false := by simpa using q2
        apply b_ext
        intro i hi
        rw [b_and, e5 i hi, b_0]
        by_cases g : i = 7
        · rw [g, q3]
          rfl
        · simp [g]
    unfold k_ThumbCoreModel_kinds_157 f_ThumbCore_moveStack k_ThumbCore_moveStack_31
    simp only [bd]
    by_cases gb : (h &&& 128) = 0
    · have nb : ¬ ¬ (h &&& 128) = 0 := fun q => q gb
      rw [if_neg nb, k_415n _ _ _ _ _ _ _ _ _ _ _ _ _ _ _ _ n10, if_pos (hb.mp gb)]
    · have nb : ¬ ¬ (o_iushr h 7 &&& 1) = 1 := fun q => gb (hb.mpr q)
      have en : (-4 : Int32) * (h &&& 127) = -(4 * (h &&& 127)) := Int32.neg_mul 4 (h &&& 127)
      rw [if_pos gb, k_415n _ _ _ _ _ _ _ _ _ _ _ _ _ _ _ _ n10, if_neg nb, en]
  rw [if_neg g0, if_neg g0]
  by_cases g2 : (o_iushr h 8 &&& 15) = 2
  · rw [if_pos g2, if_pos g2]
    have n10 : ¬ (o_ishr h 8 &&& 15) = 10 := by rw [e8, g2]; decide
    refine Or.inl ⟨rfl, ?_⟩
    unfold k_ThumbCoreModel_kinds_203 f_ThumbCore_extended
    simp only [k_415n _ _ _ _ _ _ _ _ _ _ _ _ _ _ _ _ n10]
    by_cases s0 : (o_iushr h 6 &&& 3) = 0
    · have m0 : ¬ ¬ (o_iushr h 6 &&& 3) = 0 := fun q => q s0
      rw [if_neg m0, if_pos s0]
    rw [if_pos s0, if_neg s0]
    by_cases s1 : (o_iushr h 6 &&& 3) = 1
    · have m0 : ¬ ¬ (o_iushr h 6 &&& 3) = 1 := fun q => q s1
      rw [if_neg m0, if_pos s1]
    rw [if_pos s1, if_neg s1]
    by_cases s2 : (o_iushr h 6 &&& 3) = 2
    · have m0 : ¬ ¬ (o_iushr h 6 &&& 3) = 2 := fun q => q s2
      rw [if_neg m0, if_pos s2]
    rw [if_pos s2, if_neg s2]
  rw [if_neg g2, if_neg g2]
  by_cases g4 : (o_iushr h 8 &&& 15) = 4
  · rw [if_pos g4, if_pos g4]
    have n10 : ¬ (o_ishr h 8 &&& 15) = 10 := by rw [e8, g4]; decide
    have hk4 : k / 256 % 16 = 4 := (h15 4 (by decide)).mp g4
    have e5 : k % 512 = k % 256 := by omega
    obtain ⟨d1, d2, d3, d4, d5⟩ := l_d4 ⟨k % 256, hlt⟩
    dsimp only at d1 d2 d3 d4 d5
    have hs : lsame (nI (k % 256)) (h &&& 511) (sel (nI (k % 256)) 0 9).length := by
      rw [eM, e5]
      exact ⟨d1, d2, d3, rfl, by omega, d5⟩
    rw [eL]
    exact k_ls n10 w r n z c v mk af cu a _ _ _ _ _ (p_push hm h w r hs)
  rw [if_neg g4, if_neg g4]
  by_cases g5 : (o_iushr h 8 &&& 15) = 5
  · rw [if_pos g5, if_pos g5]
    have n10 : ¬ (o_ishr h 8 &&& 15) = 10 := by rw [e8, g5]; decide
    have hk5 : k / 256 % 16 = 5 := (h15 5 (by decide)).mp g5
    have e5 : k % 512 = 256 + k % 256 := by omega
    obtain ⟨d1, d2, d3, d4, d5⟩ := l_d5 ⟨k % 256, hlt⟩
    dsimp only at d1 d2 d3 d4 d5
    have hs : lsame (nI (k % 256) ||| 16384) (h &&& 511) (sel (nI (256 + k % 256)) 0 9).length := by
      rw [eM, e5]
      exact ⟨d1, d2, d3, rfl, by omega, d5⟩
    rw [eL]
    exact k_ls n10 w r n z c v mk af cu a _ _ _ _ _ (p_push hm h w r hs)
  rw [if_neg g5, if_neg g5]
  by_cases g6 : (o_iushr h 8 &&& 15) = 6
  · rw [if_pos g6, if_pos g6]
    have n10 : ¬ (o_ishr h 8 &&& 15) = 10 := by rw [e8, g6]; decide
    unfold k_ThumbCoreModel_kinds_237 k_ThumbCoreModel_kinds_238 k_ThumbCoreModel_kinds_270 f_ThumbCore_changeMask k_ThumbCore_changeMask_16 k_ThumbCore_changeMask_32
    rw [if_pos b2, if_neg b1]
    simp only [k_415n _ _ _ _ _ _ _ _ _ _ _ _ _ _ _ _ n10, k_415b]
    by_cases s1 : h = 46690
    · have s2 : ¬ h = 46706 := by rw [s1]; decide
      rw [if_pos s1, if_pos s1, if_pos s2, if_pos s2]
      exact Or.inl ⟨rfl, rfl⟩
    rw [if_neg s1, if_neg s1]
    by_cases s2 : h = 46706
    · have s3 : ¬ ¬ h = 46706 := fun q => q s2
      rw [if_pos s2, if_pos s2, if_neg s3, if_neg s3]
      exact Or.inl ⟨rfl, rfl⟩
    · rw [if_neg s2, if_neg s2]
      exact Or.inr ⟨rfl, rfl, rfl, rfl, rfl, rfl, rfl, hi_r r⟩
  rw [if_neg g6, if_neg g6]
  by_cases g10 : (o_iushr h 8 &&& 15) = 10
  · rw [if_pos g10, if_pos g10]
    have n10 : ¬ ¬ (o_ishr h 8 &&& 15) = 10 := by
      rw [e8]
      exact fun q => q g10
    have eh : ((o_ishl (r (o_iushr h 3 &&& 7).toNatClampNeg &&& 16711935) 8) ||| ((o_iushr (r (o_iushr h 3 &&& 7).toNatClampNeg) 8) &&& 16711935)) = hsw (r (o_iushr h 3 &&& 7).toNatClampNeg) := rfl
    unfold k_ThumbCoreModel_kinds_287 k_ThumbCoreModel_kinds_350 k_ThumbCoreModel_kinds_415 f_ThumbCore_swapBytes
    simp only [bd, eh, if_neg b0, if_neg b1, if_pos b2, if_pos b1, if_neg n10]
    generalize r (o_iushr h 3 &&& 7).toNatClampNeg = x
    by_cases s2 : (o_iushr h 6 &&& 3) = 2
    · have m0 : ¬ (o_iushr h 6 &&& 3) = 0 := by rw [s2]; decide
      have m1 : ¬ (o_iushr h 6 &&& 3) = 1 := by rw [s2]; decide
      have m3 : ¬ (o_iushr h 6 &&& 3) = 3 := by rw [s2]; decide
      have m2 : ¬ ¬ (o_iushr h 6 &&& 3) = 2 := fun q => q s2
      rw [if_neg m2, if_neg m0, if_neg m1, if_neg m3]
      exact Or.inr ⟨rfl, rfl, rfl, rfl, rfl, rfl, rfl, hi_upd (hi_d7 h) (hi_r r)⟩
    rw [if_pos s2]
    by_cases s0 : (o_iushr h 6 &&& 3) = 0
    · have m0 : ¬ ¬ (o_iushr h 6 &&& 3) = 0 := fun q => q s0
      have m3 : ¬ (o_iushr h 6 &&& 3) = 3 := by rw [s0]; decide
      rw [if_neg m0, if_pos m3, if_pos s0, t_sw0]
      exact Or.inl ⟨rfl, rfl⟩
    rw [if_pos s0, if_neg s0]
    by_cases s1 : (o_iushr h 6 &&& 3) = 1
    · have m0 : ¬ ¬ (o_iushr h 6 &&& 3) = 1 := fun q => q s1
      have m3 : ¬ (o_iushr h 6 &&& 3) = 3 := by rw [s1]; decide
      rw [if_neg m0, if_pos m3, if_pos s1, t_sw1]
      exact Or.inl ⟨rfl, rfl⟩
    rw [if_pos s1, if_neg s1]
    have s3 : (o_iushr h 6 &&& 3) = 3 := by
      obtain ⟨i, hi, ei⟩ := pk_andE (o_iushr h 6) (m := 3) 2 (by decide)
      have hi4 : i < 4 := hi
      rw [ei] at s0 s1 s2 ⊢
      have z0 : i ≠ 0 := fun q => s0 (by rw [q]; decide)
      have z1 : i ≠ 1 := fun q => s1 (by rw [q]; decide)
      have z2 : i ≠ 2 := fun q => s2 (by rw [q]; decide)
      have z3 : i = 3 := by omega
      rw [z3]
      decide
    have m3 : ¬ ¬ (o_iushr h 6 &&& 3) = 3 := fun q => q s3
    rw [if_neg m3, if_pos s3, u_same2, t_sw3]
    exact Or.inl ⟨rfl, rfl⟩
  rw [if_neg g10, if_neg g10]
  have n10 : ¬ (o_ishr h 8 &&& 15) = 10 := by
    rw [e8]
    exact g10
  by_cases g12 : (o_iushr h 8 &&& 15) = 12
  · rw [if_pos g12, if_pos g12]
    have hk12 : k / 256 % 16 = 12 := (h15 12 (by decide)).mp g12
    have e5 : k % 512 = k % 256 := by omega
    have hp := p_pop hm h w r n z c v af cu (bt a) hlt (by rw [eM, e5])
    rw [eL]
    rcases hp with ⟨p1, p2⟩ | ⟨p1, r', p2, p3⟩
    · rw [p2]
      exact Or.inl ⟨p1, k_415n q h n z c v af mk false cu (byt w) _ (bt a) _ _ _ n10⟩
    · rw [p1, p2]
      exact Or.inr ⟨rfl, rfl, rfl, rfl, rfl, rfl, rfl, p3⟩
  rw [if_neg g12, if_neg g12]
  by_cases g13 : (o_iushr h 8 &&& 15) = 13
  · rw [if_pos g13, if_pos g13]
    have hk13 : k / 256 % 16 = 13 := (h15 13 (by decide)).mp g13
    have e5 : k % 512 = 256 + k % 256 := by omega
    have hp := p_popGo hm h w r n z c v af cu a ha hcu hlt (by rw [eM, e5])
    rw [eL]
    rcases hp with ⟨p1, p2⟩ | ⟨p1, r', p2, p3⟩
    · rw [p2]
      exact Or.inl ⟨p1, k_415n q h _ _ _ _ _ mk false _ (byt w) _ _ _ _ _ n10⟩
    · rw [p1, p2]
      exact Or.inr ⟨rfl, rfl, rfl, rfl, rfl, rfl, rfl, p3⟩
  rw [if_neg g13, if_neg g13]
  by_cases g15 : (o_iushr h 8 &&& 15) = 15
  · rw [if_pos g15, if_pos g15]
    have er : o_irem h 16 = nI (k % 16) := by rw [ek]; exact pk_rem (d := 16) (by omega) (by decide) (by decide)
    have ea : h &&& 15 = nI (k % 16) := by rw [ek]; exact pk_andN (by omega) (m := 15) 4 (by decide)
    unfold k_ThumbCoreModel_kinds_385 k_ThumbCoreModel_kinds_386 k_ThumbCoreModel_kinds_404 f_ThumbCore_hint k_ThumbCore_hint_22
    rw [er, ea]
    simp only [k_415n _ _ _ _ _ _ _ _ _ _ _ _ _ _ _ _ n10, k_415b]
    by_cases s1 : h = 48944
    · have s2 : ¬ ¬ h = 48944 := fun q => q s1
      have z : nI (k % 16) = 0 := by
        have e1 : nI k = nI 48944 := by rw [← ek, s1]; decide
        have e2 : k = 48944 := (nI_eq (by omega) (by decide)).mp e1
        rw [e2]
        decide
      simp only [if_pos s1, if_neg s2, if_pos z]
      exact Or.inl ⟨rfl, rfl⟩
    simp only [if_neg s1, if_pos s1]
    by_cases z : nI (k % 16) = 0
    · rw [if_pos z, if_pos z]
      exact Or.inl ⟨rfl, rfl⟩
    · rw [if_neg z, if_neg z]
      exact Or.inr ⟨rfl, rfl, rfl, rfl, rfl, rfl, rfl, hi_r r⟩
  rw [if_neg g15, if_neg g15]
  exact Or.inr ⟨rfl, rfl, rfl, rfl, rfl, rfl, rfl, hi_r r⟩

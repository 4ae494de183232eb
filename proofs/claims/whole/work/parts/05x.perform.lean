/-- register 8 and up: the class's answer against the reference's -/
def wdOK (r : Nat → Int32) (n z c v : Bool) (a cu : Int32) (t : Bool × Int32 × (Nat → Int32) × Bool × Bool × Bool × Bool × Int32 × Int32) (m : Bool × Bool × Bool × Bool × Bool × Int32 × Int32 × (Nat → Int32) × (Nat → Bool)) : Prop :=
  (t.1 = true ∧ m = backR t.2) ∨ ((∃ nx : Int32, t = (false, nx, r, n, z, c, v, a, cu)) ∧ m.2.2.2.2.1 = true ∧ m.2.2.2.2.2.2.1 = cu ∧ m.2.2.2.2.2.2.2.2 = bt a ∧ hi16 m.2.2.2.2.2.2.2.1 r)
theorem pf_8 {q : Int32} {nw : Nat} (hm : tc_mem q nw) {h : Int32} (hh : isH h) (lk : Bool) (pr w r : Nat → Int32) (n z c v : Bool) (p a cu nx : Int32) (mk : Bool) (ha : actOK a) (hcu : vp_in cu 16) (hsp : (r (13 : Int32).toNatClampNeg &&& 3) = 0) (hth : f_Memory_isThere q (r (15 : Int32).toNatClampNeg) 2 = true) (hrd : f_Memory_read w (r (15 : Int32).toNatClampNeg) 2 = h) (hT : o_iushr h 11 = 8) (hw : wdOK r n z c v a cu (f_ThumbCore_withHigh q w (r (15 : Int32).toNatClampNeg + 2) r n z c v a cu h) (f_ThumbCoreModel_wide q h (byt w) n z c v false (r (15 : Int32).toNatClampNeg + 2) cu r (bt a))) : pfOK lk w r n z c v p a cu mk (f_ThumbCore_perform q pr false lk nx w r n z c v p a cu mk) (f_ThumbCoreModel_perform q h pr n z c v false (r (15 : Int32).toNatClampNeg + 2) false mk false lk cu (byt w) r (bt p) (bt a)) := by
  have b1 : ¬ bI true = 0 := by decide
  have e11 : o_ishr h 11 = o_iushr h 11 := i_sh hh 11 (by decide)
  have e10 : o_ishr h 10 = o_iushr h 10 := i_sh hh 10 (by decide)
  have hp := p_worked hh n z c v r
  unfold f_ThumbCore_perform f_ThumbCoreModel_perform
  rw [bd_eq, bd_eq, hth, if_pos b1, bd_eq, hrd]
  simp only [bd, e11, e10]
  rw [hT]
  rw [if_neg (show ¬ (8 : Int32) = 0 by decide), if_neg (show ¬ (8 : Int32) = 1 by decide), if_neg (show ¬ (8 : Int32) = 2 by decide), if_neg (show ¬ (8 : Int32) = 3 by decide), if_neg (show ¬ (8 : Int32) = 4 by decide), if_neg (show ¬ (8 : Int32) = 5 by decide), if_neg (show ¬ (8 : Int32) = 6 by decide), if_neg (show ¬ (8 : Int32) = 7 by decide), if_pos rfl]
  rw [if_pos (show (3 : Int32) ≤ 8 by decide), if_pos (show ¬ (8 : Int32) = 3 by decide), if_pos (show (8 : Int32) ≤ 8 by decide), if_neg (show ¬ ¬ (8 : Int32) = 8 by decide)]
  by_cases g : o_iushr h 10 = 16
  · have n1 : ¬ ¬ o_iushr h 10 = 16 := fun k => k g
    rw [if_neg n1, if_neg n1, hp.1]
    exact Or.inl ⟨hp.2, _, false, rfl, Or.inl ⟨rfl, rfl⟩⟩
  · rw [if_pos g, if_pos g]
    rcases hw with ⟨p1, p2⟩ | ⟨⟨nx2, p1⟩, p2, p3, p4, p5⟩
    · rw [p2]
      exact Or.inl ⟨p1, _, false, rfl, Or.inl ⟨rfl, rfl⟩⟩
    · rw [p1]
      exact Or.inr ⟨⟨nx2, rfl⟩, p2, rfl, rfl, rfl, p3, rfl, rfl, p4, p5⟩
theorem p_perform {q : Int32} {nw : Nat} (hm : tc_mem q nw) {h : Int32} (hh : isH h) (lk : Bool) (pr w r : Nat → Int32) (n z c v : Bool) (p a cu nx : Int32) (mk : Bool) (ha : actOK a) (hcu : vp_in cu 16) (hsp : (r (13 : Int32).toNatClampNeg &&& 3) = 0) (hth : f_Memory_isThere q (r (15 : Int32).toNatClampNeg) 2 = true) (hrd : f_Memory_read w (r (15 : Int32).toNatClampNeg) 2 = h) (hw : wdOK r n z c v a cu (f_ThumbCore_withHigh q w (r (15 : Int32).toNatClampNeg + 2) r n z c v a cu h) (f_ThumbCoreModel_wide q h (byt w) n z c v false (r (15 : Int32).toNatClampNeg + 2) cu r (bt a))) : pfOK lk w r n z c v p a cu mk (f_ThumbCore_perform q pr false lk nx w r n z c v p a cu mk) (f_ThumbCoreModel_perform q h pr n z c v false (r (15 : Int32).toNatClampNeg + 2) false mk false lk cu (byt w) r (bt p) (bt a)) := by
  obtain ⟨k, hk, ek⟩ := id hh
  have eT : o_iushr h 11 = nI (k / 2048) := by rw [ek]; exact i_u hk (s := 11) (by decide)
  have hlt : k / 2048 < 32 := by omega
  generalize k / 2048 = T at eT hlt
  have hc : T = 0 ∨ T = 1 ∨ T = 2 ∨ T = 3 ∨ T = 4 ∨ T = 5 ∨ T = 6 ∨ T = 7 ∨ T = 8 ∨ T = 9 ∨ T = 10 ∨ T = 11 ∨ T = 12 ∨ T = 13 ∨ T = 14 ∨ T = 15 ∨ T = 16 ∨ T = 17 ∨ T = 18 ∨ T = 19 ∨ T = 20 ∨ T = 21 ∨ T = 22 ∨ T = 23 ∨ T = 24 ∨ T = 25 ∨ T = 26 ∨ T = 27 ∨ T = 28 ∨ T = 29 ∨ T = 30 ∨ T = 31 := by omega
  rcases hc with rfl | rfl | rfl | rfl | rfl | rfl | rfl | rfl | rfl | rfl | rfl | rfl | rfl | rfl | rfl | rfl | rfl | rfl | rfl | rfl | rfl | rfl | rfl | rfl | rfl | rfl | rfl | rfl | rfl | rfl | rfl | rfl
  · exact pf_0 hm hh lk pr w r n z c v p a cu nx mk ha hcu hsp hth hrd eT
  · exact pf_1 hm hh lk pr w r n z c v p a cu nx mk ha hcu hsp hth hrd eT
  · exact pf_2 hm hh lk pr w r n z c v p a cu nx mk ha hcu hsp hth hrd eT
  · exact pf_3 hm hh lk pr w r n z c v p a cu nx mk ha hcu hsp hth hrd eT
  · exact pf_4 hm hh lk pr w r n z c v p a cu nx mk ha hcu hsp hth hrd eT
  · exact pf_5 hm hh lk pr w r n z c v p a cu nx mk ha hcu hsp hth hrd eT
  · exact pf_6 hm hh lk pr w r n z c v p a cu nx mk ha hcu hsp hth hrd eT
  · exact pf_7 hm hh lk pr w r n z c v p a cu nx mk ha hcu hsp hth hrd eT
  · exact pf_8 hm hh lk pr w r n z c v p a cu nx mk ha hcu hsp hth hrd eT hw
  · exact pf_9 hm hh lk pr w r n z c v p a cu nx mk ha hcu hsp hth hrd eT
  · exact pf_10 hm hh lk pr w r n z c v p a cu nx mk ha hcu hsp hth hrd eT
  · exact pf_11 hm hh lk pr w r n z c v p a cu nx mk ha hcu hsp hth hrd eT
  · exact pf_12 hm hh lk pr w r n z c v p a cu nx mk ha hcu hsp hth hrd eT
  · exact pf_13 hm hh lk pr w r n z c v p a cu nx mk ha hcu hsp hth hrd eT
  · exact pf_14 hm hh lk pr w r n z c v p a cu nx mk ha hcu hsp hth hrd eT
  · exact pf_15 hm hh lk pr w r n z c v p a cu nx mk ha hcu hsp hth hrd eT
  · exact pf_16 hm hh lk pr w r n z c v p a cu nx mk ha hcu hsp hth hrd eT
  · exact pf_17 hm hh lk pr w r n z c v p a cu nx mk ha hcu hsp hth hrd eT
  · exact pf_18 hm hh lk pr w r n z c v p a cu nx mk ha hcu hsp hth hrd eT
  · exact pf_19 hm hh lk pr w r n z c v p a cu nx mk ha hcu hsp hth hrd eT
  · exact pf_20 hm hh lk pr w r n z c v p a cu nx mk ha hcu hsp hth hrd eT
  · exact pf_21 hm hh lk pr w r n z c v p a cu nx mk ha hcu hsp hth hrd eT
  · exact pf_22 hm hh lk pr w r n z c v p a cu nx mk ha hcu hsp hth hrd eT
  · exact pf_23 hm hh lk pr w r n z c v p a cu nx mk ha hcu hsp hth hrd eT
  · exact pf_24 hm hh lk pr w r n z c v p a cu nx mk ha hcu hsp hth hrd eT
  · exact pf_25 hm hh lk pr w r n z c v p a cu nx mk ha hcu hsp hth hrd eT
  · exact pf_26 hm hh lk pr w r n z c v p a cu nx mk ha hcu hsp hth hrd eT
  · exact pf_27 hm hh lk pr w r n z c v p a cu nx mk ha hcu hsp hth hrd eT
  · exact pf_28 hm hh lk pr w r n z c v p a cu nx mk ha hcu hsp hth hrd eT
  · exact pf_29 hm hh lk pr w r n z c v p a cu nx mk ha hcu hsp hth hrd eT
  · exact pf_30 hm hh lk pr w r n z c v p a cu nx mk ha hcu hsp hth hrd eT
  · exact pf_31 hm hh lk pr w r n z c v p a cu nx mk ha hcu hsp hth hrd eT

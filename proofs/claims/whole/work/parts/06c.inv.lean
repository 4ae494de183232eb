def ivP (t : Bool × Bool × Bool × Int32 × (Nat → Int32) × (Nat → Int32) × Bool × Bool × Bool × Bool × Int32 × Int32 × Int32 × Bool) : Prop := ivS t.2.2.2.2.2.1 t.2.2.2.2.2.2.2.2.2.2.1 t.2.2.2.2.2.2.2.2.2.2.2.1 t.2.2.2.2.2.2.2.2.2.2.2.2.1
theorem iv_perform {r : Nat → Int32} {p a cu : Int32} (hs : ivS r p a cu) (q : Int32) (pr : Nat → Int32) (as lk : Bool) (nx : Int32) (w : Nat → Int32) (n z c v mk : Bool) : ivP (f_ThumbCore_perform q pr as lk nx w r n z c v p a cu mk) := by
  obtain ⟨hsp, hp, ha, hcu⟩ := hs
  unfold f_ThumbCore_perform
  rw [bd_eq, bd_eq]
  refine iv_ite (P := ivP) ?_ ⟨hsp, hp, ha, hcu⟩
  rw [bd_eq]
  generalize f_Memory_read w (r (15 : Int32).toNatClampNeg) 2 = h
  refine iv_ite (P := ivP) ⟨iv_moveByConstant hsp n z c h, hp, ha, hcu⟩ ?_
  refine iv_ite (P := ivP) ⟨iv_moveByConstant hsp n z c h, hp, ha, hcu⟩ ?_
  refine iv_ite (P := ivP) ⟨iv_moveByConstant hsp n z c h, hp, ha, hcu⟩ ?_
  refine iv_ite (P := ivP) ⟨iv_addThree hsp n z c v h, hp, ha, hcu⟩ ?_
  refine iv_ite (P := ivP) ⟨iv_withByte hsp n z c v h, hp, ha, hcu⟩ ?_
  refine iv_ite (P := ivP) ⟨iv_withByte hsp n z c v h, hp, ha, hcu⟩ ?_
  refine iv_ite (P := ivP) ⟨iv_withByte hsp n z c v h, hp, ha, hcu⟩ ?_
  refine iv_ite (P := ivP) ⟨iv_withByte hsp n z c v h, hp, ha, hcu⟩ ?_
  refine iv_ite (P := ivP) (iv_ite (P := ivP) ?_ ⟨iv_combine hsp n z c v h, hp, ha, hcu⟩) ?_
  · have hW := iv_withHigh hsp ha hcu q w (r (15 : Int32).toNatClampNeg + 2) n z c v h
    exact ⟨hW.1, hp, hW.2.1, hW.2.2⟩
  refine iv_ite (P := ivP) ⟨iv_fromBase hsp q w h, hp, ha, hcu⟩ ?_
  refine iv_ite (P := ivP) ⟨iv_atSum hsp q w h, hp, ha, hcu⟩ ?_
  refine iv_ite (P := ivP) ⟨iv_atSum hsp q w h, hp, ha, hcu⟩ ?_
  refine iv_ite (P := ivP) ⟨iv_atOffset hsp q w h, hp, ha, hcu⟩ ?_
  refine iv_ite (P := ivP) ⟨iv_atOffset hsp q w h, hp, ha, hcu⟩ ?_
  refine iv_ite (P := ivP) ⟨iv_atOffset hsp q w h, hp, ha, hcu⟩ ?_
  refine iv_ite (P := ivP) ⟨iv_atOffset hsp q w h, hp, ha, hcu⟩ ?_
  refine iv_ite (P := ivP) ⟨iv_atOffset hsp q w h, hp, ha, hcu⟩ ?_
  refine iv_ite (P := ivP) ⟨iv_atOffset hsp q w h, hp, ha, hcu⟩ ?_
  refine iv_ite (P := ivP) ⟨iv_fromBase hsp q w h, hp, ha, hcu⟩ ?_
  refine iv_ite (P := ivP) ⟨iv_fromBase hsp q w h, hp, ha, hcu⟩ ?_
  refine iv_ite (P := ivP) ⟨iv_fromBase hsp q w h, hp, ha, hcu⟩ ?_
  refine iv_ite (P := ivP) ⟨iv_fromBase hsp q w h, hp, ha, hcu⟩ ?_
  have hM := iv_misc hsp ha hcu q as (r (15 : Int32).toNatClampNeg + 2) w n z c v mk h
  refine iv_ite (P := ivP) ⟨hM.1, hp, hM.2.1, hM.2.2⟩ ?_
  refine iv_ite (P := ivP) ⟨hM.1, hp, hM.2.1, hM.2.2⟩ ?_
  refine iv_ite (P := ivP) ⟨iv_storeMany hsp q w _ _, hp, ha, hcu⟩ ?_
  refine iv_ite (P := ivP) ⟨iv_loadMany hsp q w _ _, hp, ha, hcu⟩ ?_
  have hB := iv_branchOrCall hsp hp ha hcu q n z c v mk lk pr w (r (15 : Int32).toNatClampNeg + 2) ((o_iushr h 8) &&& 15) h.toInt8.toInt32
  refine iv_ite (P := ivP) hB ?_
  refine iv_ite (P := ivP) hB ?_
  refine iv_ite (P := ivP) ⟨hsp, hp, ha, hcu⟩ ?_
  refine iv_ite (P := ivP) ⟨iv_branchFar hsp q w _ h, hp, ha, hcu⟩ ⟨hsp, hp, ha, hcu⟩
/-- what a step leaves, and its answer -/
def ivT (t : Int32 × Bool × Bool × Int32 × (Nat → Int32) × (Nat → Int32) × Bool × Bool × Bool × Bool × Int32 × Int32 × Int32 × Bool × Int32) : Prop := ivS t.2.2.2.2.2.1 t.2.2.2.2.2.2.2.2.2.2.1 t.2.2.2.2.2.2.2.2.2.2.2.1 t.2.2.2.2.2.2.2.2.2.2.2.2.1
def ivK (t : Int32 × Bool × Bool × Int32 × (Nat → Int32) × (Nat → Int32) × Bool × Bool × Bool × Bool × Int32 × Int32 × Int32 × Bool × Int32) : Prop := ivT t ∧ (t.1 = 0 ∨ t.1 = 1 ∨ t.1 = 2 ∨ t.1 = 3)
theorem iv_118 {r : Nat → Int32} {p a cu : Int32} (hs : ivS r p a cu) (q : Int32) (pr : Nat → Int32) (rl : Int32) (on as lk : Bool) (nx : Int32) (w : Nat → Int32) (n z c v mk : Bool) (co y : Int32) : ivK (k_ThumbCore_step_118 q pr rl on as lk nx w r n z c v p a cu mk co y) := by
  unfold k_ThumbCore_step_118
  refine iv_ite (P := ivK) (iv_ite (P := ivK) ?_ ?_) ?_
  · exact ⟨hs, Or.inl rfl⟩
  · exact ⟨hs, Or.inr (Or.inl rfl)⟩
  · exact ⟨hs, Or.inr (Or.inr (Or.inr rfl))⟩
theorem iv_54 {r : Nat → Int32} {p a cu : Int32} (hs : ivS r p a cu) (q : Int32) (pr : Nat → Int32) (rl : Int32) (on as lk : Bool) (nx : Int32) (w : Nat → Int32) (n z c v mk : Bool) (co : Int32) : ivK (k_ThumbCore_step_54 q pr rl on as lk nx w r n z c v p a cu mk co) := by
  rw [k_ThumbCore_step_54, bd_eq, bd_eq]
  refine iv_itc (P := ivK) ?_ ?_
  · intro g
    have hP := iv_perform hs q pr false lk nx w n z c v mk
    generalize f_ThumbCore_perform q pr false lk nx w r n z c v p a cu mk = T at hP ⊢
    unfold un14
    refine iv_ite (P := ivK) ?_ ?_
    · unfold un6
      exact iv_118 (iv_fault hP.1 hP.2.1 hP.2.2.1 hP.2.2.2 q _ _ _ _ _ _ _ _) q pr rl on _ _ _ _ _ _ _ _ _ _ _
    · exact iv_118 ⟨sp15 hP.1 _, hP.2⟩ q pr rl on _ _ _ _ _ _ _ _ _ _ _
  · intro g
    unfold un6
    obtain ⟨hsp, hp, ha, hcu⟩ := hs
    exact iv_118 (iv_enter hsp hp ha hcu (exc_mu hp g) q n z c v lk w _) q pr rl on _ _ _ _ _ _ _ _ _ _ _
theorem iv_28 {r : Nat → Int32} {p a cu : Int32} (hs : ivS r p a cu) (q : Int32) (pr : Nat → Int32) (rl : Int32) (on as lk : Bool) (nx : Int32) (w : Nat → Int32) (n z c v mk : Bool) (co : Int32) : ivK (k_ThumbCore_step_28 q pr rl on as lk nx w r n z c v p a cu mk co) := by
  unfold k_ThumbCore_step_28
  refine iv_ite (P := ivK) (iv_54 hs q pr rl on as lk nx w n z c v mk co) ?_
  rw [bd_eq, bd_eq]
  exact iv_ite (P := ivK) (iv_54 hs q pr rl on as lk nx w n z c v mk co) ⟨hs, Or.inr (Or.inr (Or.inl rfl))⟩
theorem iv_step {r : Nat → Int32} {p a cu : Int32} (hs : ivS r p a cu) (q : Int32) (pr : Nat → Int32) (rl : Int32) (on as lk : Bool) (nx : Int32) (w : Nat → Int32) (n z c v mk : Bool) (co : Int32) : ivK (f_ThumbCore_step q pr rl on as lk nx w r n z c v p a cu mk co) := by
  unfold f_ThumbCore_step
  refine iv_ite (P := ivK) ?_ ⟨hs, Or.inr (Or.inr (Or.inr rfl))⟩
  unfold un2
  refine iv_ite (P := ivK) (iv_28 hs q pr rl on as lk nx w n z c v mk _) ?_
  rw [bd_eq]
  exact iv_28 ⟨hs.1, pen_await hs.2.1, hs.2.2⟩ q pr rl on as lk nx w n z c v mk _

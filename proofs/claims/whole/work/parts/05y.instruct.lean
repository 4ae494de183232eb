/-- m places from k on copied from r into f -/
def cpy (f r : Nat → Int32) (k m : Nat) : Nat → Int32 := fun i => if k ≤ i ∧ i < k + m then r i else f i
theorem cpy_0 (f r : Nat → Int32) (k : Nat) : cpy f r k 0 = f := by
  funext i
  unfold cpy
  rw [if_neg (by omega)]
theorem cpy_s (f r : Nat → Int32) (k m : Nat) : cpy (upd f k (r k)) r (k + 1) m = cpy f r k (m + 1) := by
  funext i
  unfold cpy upd
  by_cases h : i = k
  · subst h
    rw [if_neg (by omega), if_pos rfl, if_pos (by omega)]
  · rw [if_neg h]
    by_cases g : k + 1 ≤ i ∧ i < k + 1 + m
    · rw [if_pos g, if_pos (by omega)]
    · rw [if_neg g, if_neg (by omega)]
theorem cpy_back {f r k0 : Nat → Int32} (h : hi16 f r) : cpy f (cpy k0 r 0 16) 0 16 = r := by
  funext i
  unfold cpy
  by_cases g : 0 ≤ i ∧ i < 0 + 16
  · rw [if_pos g, if_pos g]
  · rw [if_neg g]
    exact h i (by omega)
theorem in_keep (q : Int32) (pr : Nat → Int32) (n z c v : Bool) (kf : Int32) (bad : Bool) (h af : Int32) (en mk as lk : Bool) (cu : Int32) (m r : Nat → Int32) (p a : Nat → Bool) : ∀ (f k : Nat) (kp : Nat → Int32), k + f = 16 → k_ThumbCoreModel_instruct_2 q pr (f + 1) n z c v kf bad h af en mk as lk cu m r kp p a (nI k) = k_ThumbCoreModel_instruct_2 q pr 1 n z c v kf bad h af en mk as lk cu m r (cpy kp r k f) p a (nI 16) := by
  intro f
  induction f with
  | zero =>
    intro k kp h16
    have e : k = 16 := by omega
    subst e
    rw [cpy_0]
  | succ f ih =>
    intro k kp h16
    have g : ¬ (16 : Int32) ≤ nI k := nI_ge (a := k) (b := 16) (by omega) (by decide)
    rw [k_ThumbCoreModel_instruct_2, if_neg g, nI_clamp (by omega), nI_1, ih (k + 1) _ (by omega), cpy_s]
theorem in_rest (q : Int32) (pr : Nat → Int32) (n z c v : Bool) (kf : Int32) (bad : Bool) (h af : Int32) (en mk as lk : Bool) (cu : Int32) (m kp : Nat → Int32) (p a : Nat → Bool) : ∀ (f k : Nat) (r : Nat → Int32), k + f = 16 → k_ThumbCoreModel_instruct_93 q pr (f + 1) n z c v kf bad h af en mk as lk cu m r kp p a (nI k) = k_ThumbCoreModel_instruct_93 q pr 1 n z c v kf bad h af en mk as lk cu m (cpy r kp k f) kp p a (nI 16) := by
  intro f
  induction f with
  | zero =>
    intro k r h16
    have e : k = 16 := by omega
    subst e
    rw [cpy_0]
  | succ f ih =>
    intro k r h16
    have g : ¬ (16 : Int32) ≤ nI k := nI_ge (a := k) (b := 16) (by omega) (by decide)
    rw [k_ThumbCoreModel_instruct_93, if_neg g, nI_clamp (by omega), nI_1, ih (k + 1) _ (by omega), cpy_s]
/-- a faulted instruction: registers and flags as before, then the fault -/
theorem in_bad {q : Int32} {nw : Nat} (hm : tc_mem q nw) (pr w r : Nat → Int32) (n z c v n1 z1 c1 v1 : Bool) (h af : Int32) (en mk as lk : Bool) (p a cu : Int32) (r' k0 : Nat → Int32) (hr : hi16 r' r) (hsp : (r (13 : Int32).toNatClampNeg &&& 3) = 0) (ha : actOK a) : k_ThumbCoreModel_instruct_84 q pr n1 z1 c1 v1 (f_ThumbCoreModel_bits n z c v) true h af en mk as lk cu (byt w) r' (cpy k0 r 0 16) (bt p) (bt a) = (fun t : Bool × (Nat → Int32) × (Nat → Int32) × Int32 × Int32 × Int32 => (n, z, c, v, f_ThumbCoreModel_bits n z c v, true, h, af, en, mk, as, t.1, t.2.2.2.2.2, byt t.2.1, t.2.2.1, cpy k0 r 0 16, bt t.2.2.2.1, bt t.2.2.2.2.1)) (f_ThumbCore_fault q n z c v mk pr lk w r p a cu) := by
  have b1 : ¬ bI true = 0 := by decide
  have g : (16 : Int32) ≤ nI 16 := by decide
  have e := in_rest q pr n1 z1 c1 v1 (f_ThumbCoreModel_bits n z c v) true h af en mk as lk cu (byt w) (cpy k0 r 0 16) (bt p) (bt a) 16 0 r' (by decide)
  rw [k_ThumbCoreModel_instruct_84, if_neg b1]
  refine e.trans ?_
  rw [cpy_back hr, k_ThumbCoreModel_instruct_93, if_pos g, p_fbits, z_un4, p_fault hm n z c v mk true lk pr w r p a cu hsp ha]
  rfl
/-- what the class does with an instruction -/
def insOK (lk : Bool) (pr w r : Nat → Int32) (n z c v : Bool) (p a cu : Int32) (mk : Bool) (q : Int32) (t : Bool × Bool × Bool × Int32 × (Nat → Int32) × (Nat → Int32) × Bool × Bool × Bool × Bool × Int32 × Int32 × Int32 × Bool) (m : Bool × Bool × Bool × Bool × Int32 × Bool × Int32 × Int32 × Bool × Bool × Bool × Bool × Int32 × (Nat → Int32) × (Nat → Int32) × (Nat → Int32) × (Nat → Bool) × (Nat → Bool)) : Prop :=
  (t.1 = true ∧ ∃ (kf h af : Int32) (bad en : Bool) (kp : Nat → Int32), m = (t.2.2.2.2.2.2.1, t.2.2.2.2.2.2.2.1, t.2.2.2.2.2.2.2.2.1, t.2.2.2.2.2.2.2.2.2.1, kf, bad, h, af, en, t.2.2.2.2.2.2.2.2.2.2.2.2.2, t.2.1, t.2.2.1, t.2.2.2.2.2.2.2.2.2.2.2.2.1, byt t.2.2.2.2.1, upd t.2.2.2.2.2.1 (15 : Int32).toNatClampNeg t.2.2.2.1, kp, bt t.2.2.2.2.2.2.2.2.2.2.1, bt t.2.2.2.2.2.2.2.2.2.2.2.1)) ∨
  ((∃ nx : Int32, t = (false, false, lk, nx, w, r, n, z, c, v, p, a, cu, mk)) ∧ ∃ (kf h af : Int32) (bad en : Bool) (kp : Nat → Int32), m = (fun F : Bool × (Nat → Int32) × (Nat → Int32) × Int32 × Int32 × Int32 => (n, z, c, v, kf, bad, h, af, en, mk, false, F.1, F.2.2.2.2.2, byt F.2.1, F.2.2.1, kp, bt F.2.2.2.1, bt F.2.2.2.2.1)) (f_ThumbCore_fault q n z c v mk pr lk w r p a cu))
theorem p_instruct {q : Int32} {nw : Nat} (hm : tc_mem q nw) (lk : Bool) (pr w r kp : Nat → Int32) (n z c v : Bool) (kf : Int32) (bad : Bool) (h0 af : Int32) (en : Bool) (p a cu nx : Int32) (mk : Bool) (ha : actOK a) (hcu : vp_in cu 16) (hsp : (r (13 : Int32).toNatClampNeg &&& 3) = 0)
    (hw : ∀ h : Int32, isH h → wdOK r n z c v a cu (f_ThumbCore_withHigh q w (r (15 : Int32).toNatClampNeg + 2) r n z c v a cu h) (f_ThumbCoreModel_wide q h (byt w) n z c v false (r (15 : Int32).toNatClampNeg + 2) cu r (bt a))) :
    insOK lk pr w r n z c v p a cu mk q (f_ThumbCore_perform q pr false lk nx w r n z c v p a cu mk) (f_ThumbCoreModel_instruct q pr n z c v kf bad h0 af en mk false lk cu (byt w) r kp (bt p) (bt a)) := by
  have b0 : ¬ ¬ bI false = 0 := by decide
  have b1 : ¬ bI true = 0 := by decide
  have b2 : bI false = 0 := by decide
  have g : (16 : Int32) ≤ nI 16 := by decide
  have e := in_keep q pr n z c v kf bad h0 af en mk false lk cu (byt w) r (bt p) (bt a) 16 0 kp (by decide)
  have e2 : f_ThumbCoreModel_instruct q pr n z c v kf bad h0 af en mk false lk cu (byt w) r kp (bt p) (bt a) = k_ThumbCoreModel_instruct_2 q pr 1 n z c v kf bad h0 af en mk false lk cu (byt w) r (cpy kp r 0 16) (bt p) (bt a) (nI 16) := by
    rw [f_ThumbCoreModel_instruct]
    exact e
  rw [e2, k_ThumbCoreModel_instruct_2, if_pos g, bd_eq, p_read hm w false _ 2 (Or.inr (Or.inl rfl))]
  by_cases hth : f_Memory_isThere q (r (15 : Int32).toNatClampNeg) 2 = true
  · rw [if_pos hth, z_un2, bd_eq, if_neg b0]
    have hP := p_perform hm (i_half w (r (15 : Int32).toNatClampNeg)) lk pr w r n z c v p a cu nx mk ha hcu hsp hth rfl (hw _ (i_half w _))
    rcases hP with ⟨p1, af2, en2, p2, p3⟩ | ⟨⟨nx2, p1⟩, p2, p3, p4, p5, p6, p7, p8, p9, p10⟩
    · rw [p2]
      refine Or.inl ⟨p1, f_ThumbCoreModel_bits n z c v, f_Memory_read w (r (15 : Int32).toNatClampNeg) 2, af2, false, en2, cpy kp r 0 16, ?_⟩
      show k_ThumbCoreModel_instruct_84 q pr _ _ _ _ (f_ThumbCoreModel_bits n z c v) false _ af2 en2 _ _ _ _ _ _ (cpy kp r 0 16) _ _ = _
      rw [k_ThumbCoreModel_instruct_84, if_pos b2]
      rcases p3 with ⟨q1, q2⟩ | ⟨q1, q2⟩
      · rw [q1, if_neg b0, q2]
      · rw [q1, if_pos b1, q2, u_self]
    · refine Or.inr ⟨⟨nx2, p1⟩, ?_⟩
      generalize f_ThumbCoreModel_perform q (f_Memory_read w (r (15 : Int32).toNatClampNeg) 2) pr n z c v false (r (15 : Int32).toNatClampNeg + 2) false mk false lk cu (byt w) r (bt p) (bt a) = M at p2 p3 p4 p5 p6 p7 p8 p9 p10 ⊢
      obtain ⟨a1, a2, a3, a4, a5, a6, a7, a8, a9, a10, a11, a12, a13, a14, a15⟩ := M
      dsimp only at p2 p3 p4 p5 p6 p7 p8 p9 p10
      subst p2
      subst p3
      subst p4
      subst p5
      subst p6
      subst p7
      subst p8
      subst p9
      exact ⟨_, _, _, _, _, _, in_bad hm pr w r n z c v a1 a2 a3 a4 _ a6 a7 a8 false a10 p a a11 a13 kp p10 hsp ha⟩
  · have hth2 : f_Memory_isThere q (r (15 : Int32).toNatClampNeg) 2 = false := by simpa using hth
    rw [if_neg hth, z_un2, bd_eq, if_pos b1]
    refine Or.inr ⟨⟨r (15 : Int32).toNatClampNeg + 2, ?_⟩, ?_⟩
    · rw [f_ThumbCore_perform, bd_eq, bd_eq, hth2, if_neg b0]
    · exact ⟨_, _, _, _, _, _, in_bad hm pr w r n z c v n z c v _ _ false mk false lk p a cu r kp (hi_r r) hsp ha⟩

def stOK (t : Int32 × Bool × Bool × Int32 × (Nat → Int32) × (Nat → Int32) × Bool × Bool × Bool × Bool × Int32 × Int32 × Int32 × Bool × Int32) (m : Int32 × Bool × Bool × Bool × Bool × Int32 × Bool × Int32 × Int32 × Bool × Bool × Bool × Bool × Int32 × Int32 × (Nat → Int32) × (Nat → Int32) × (Nat → Int32) × (Nat → Bool) × (Nat → Bool)) : Prop :=
  ∃ (kf h af : Int32) (bad en : Bool) (kp : Nat → Int32), m = (t.1, t.2.2.2.2.2.2.1, t.2.2.2.2.2.2.2.1, t.2.2.2.2.2.2.2.2.1, t.2.2.2.2.2.2.2.2.2.1, kf, bad, h, af, en, t.2.2.2.2.2.2.2.2.2.2.2.2.2.1, t.2.1, t.2.2.1, t.2.2.2.2.2.2.2.2.2.2.2.2.2.2, t.2.2.2.2.2.2.2.2.2.2.2.2.1, byt t.2.2.2.2.1, t.2.2.2.2.2.1, kp, bt t.2.2.2.2.2.2.2.2.2.2.1, bt t.2.2.2.2.2.2.2.2.2.2.2.1)
theorem st_118 (q : Int32) (pr : Nat → Int32) (rl : Int32) (on as lk : Bool) (nx : Int32) (w r : Nat → Int32) (n z c v : Bool) (p a cu : Int32) (mk : Bool) (co y : Int32) (kf : Int32) (bad : Bool) (h af : Int32) (en : Bool) (kp : Nat → Int32) (hy : vp_in y 16) : stOK (k_ThumbCore_step_118 q pr rl on as lk nx w r n z c v p a cu mk co y) (k_ThumbCoreModel_step_72 q on rl pr n z c v kf bad h af en mk as lk co cu (byt w) r kp (bt p) (bt a) y) := by
  have hy2 : y = 0 ↔ y ≤ 0 := by
    obtain ⟨h1, h2⟩ := vp_in_iff.mp hy
    have e0 : (0 : Int32).toInt = 0 := by decide
    rw [Int32.le_iff_toInt_le, e0, ← Int32.toInt_inj, e0]
    omega
  unfold k_ThumbCore_step_118 k_ThumbCoreModel_step_72
  by_cases g : bI lk = 0
  · rw [if_pos g, if_pos g]
    by_cases gy : y = 0
    · rw [if_pos gy, if_pos (hy2.mp gy)]
      exact ⟨kf, h, af, bad, en, kp, rfl⟩
    · rw [if_neg gy, if_neg (fun k => gy (hy2.mpr k))]
      exact ⟨kf, h, af, bad, en, kp, rfl⟩
  · rw [if_neg g, if_neg g]
    exact ⟨kf, h, af, bad, en, kp, rfl⟩
theorem z_un14 {A0 A1 A2 A3 A4 A5 A6 A7 A8 A9 A10 A11 A12 A13 X : Type} (a0 : A0) (a1 : A1) (a2 : A2) (a3 : A3) (a4 : A4) (a5 : A5) (a6 : A6) (a7 : A7) (a8 : A8) (a9 : A9) (a10 : A10) (a11 : A11) (a12 : A12) (a13 : A13) (k : A0 → A1 → A2 → A3 → A4 → A5 → A6 → A7 → A8 → A9 → A10 → A11 → A12 → A13 → X) : un14 (a0, a1, a2, a3, a4, a5, a6, a7, a8, a9, a10, a11, a12, a13) k = k a0 a1 a2 a3 a4 a5 a6 a7 a8 a9 a10 a11 a12 a13 := rfl
theorem st_54 {q : Int32} {nw : Nat} (hm : tc_mem q nw) (pr : Nat → Int32) (rl : Int32) (on as lk : Bool) (nx : Int32) (w r : Nat → Int32) (n z c v : Bool) (p a cu : Int32) (mk : Bool) (co : Int32) (kf : Int32) (bad : Bool) (h af : Int32) (en : Bool) (kp : Nat → Int32) (hp : penOK p) (ha : actOK a) (hcu : vp_in cu 16) (hsp : (r (13 : Int32).toNatClampNeg &&& 3) = 0)
    (hw : ∀ h : Int32, isH h → wdOK r n z c v a cu (f_ThumbCore_withHigh q w (r (15 : Int32).toNatClampNeg + 2) r n z c v a cu h) (f_ThumbCoreModel_wide q h (byt w) n z c v false (r (15 : Int32).toNatClampNeg + 2) cu r (bt a))) :
    stOK (k_ThumbCore_step_54 q pr rl on as lk nx w r n z c v p a cu mk co) (k_ThumbCoreModel_step_34 q on rl pr n z c v kf bad h af en mk as lk co cu (byt w) r kp (bt p) (bt a)) := by
  have b0 : ¬ bI true = 0 := by decide
  have b2 : bI false = 0 := by decide
  rw [k_ThumbCore_step_54, k_ThumbCoreModel_step_34, bd_eq, bd_eq, bd_eq, bd_eq, p_pres, p_wait hp]
  generalize hu : f_Exceptions_mostUrgent p pr (f_Exceptions_present a mk pr) = u
  have hy : vp_in u 16 := tc_muIn hu.symm
  have hy2 : u = 0 ↔ u ≤ 0 := by
    obtain ⟨h1, h2⟩ := vp_in_iff.mp hy
    have e0 : (0 : Int32).toInt = 0 := by decide
    rw [Int32.le_iff_toInt_le, e0, ← Int32.toInt_inj, e0]
    omega
  by_cases g : u = 0
  · rw [if_pos g, if_pos (hy2.mp g)]
    have hI := p_instruct hm lk pr w r kp n z c v kf bad h af en p a cu nx mk ha hcu hsp hw
    rcases hI with ⟨p1, kf2, h2, af2, bad2, en2, kp2, p2⟩ | ⟨⟨nx2, p1⟩, kf2, h2, af2, bad2, en2, kp2, p2⟩
    · rw [p2]
      generalize f_ThumbCore_perform q pr false lk nx w r n z c v p a cu mk = t at p1 ⊢
      obtain ⟨t1, t2, t3, t4, t5, t6, t7, t8, t9, t10, t11, t12, t13, t14⟩ := t
      dsimp only at p1
      subst p1
      rw [z_un14, if_neg b0]
      exact st_118 q pr rl on t2 t3 t4 t5 _ t7 t8 t9 t10 t11 t12 t13 t14 co u kf2 bad2 h2 af2 en2 kp2 hy
    · rw [p1, p2]
      rw [z_un14, if_pos b2]
      generalize f_ThumbCore_fault q n z c v mk pr lk w r p a cu = F
      exact st_118 q pr rl on false F.1 nx2 F.2.1 F.2.2.1 n z c v F.2.2.2.1 F.2.2.2.2.1 F.2.2.2.2.2 mk co u kf2 bad2 h2 af2 en2 kp2 hy
  · rw [if_neg g, if_neg (fun k => g (hy2.mpr k)), p_enter hm n z c v bad lk w r p a cu u _ hsp hy ha]
    generalize f_ThumbCore_enter q n z c v lk w r p a cu u (r (15 : Int32).toNatClampNeg) = F
    exact st_118 q pr rl on false F.1 nx F.2.1 F.2.2.1 n z c v F.2.2.2.1 F.2.2.2.2.1 F.2.2.2.2.2 mk co u kf bad h af en kp hy
theorem pen_await {p : Int32} (hp : penOK p) : penOK (f_Exceptions_await p 15) := by
  intro j h2 h14 h15
  have e15 : (15 : Int32).toNatClampNeg = 15 := by decide
  rw [q_await p 15 (by show ¬ (_ ∨ _); decide), e15]
  unfold va_up
  rw [if_neg h15]
  exact hp j h2 h14 h15
theorem p_step {q : Int32} {nw : Nat} (hm : tc_mem q nw) (pr : Nat → Int32) (rl : Int32) (on as lk : Bool) (nx : Int32) (w r : Nat → Int32) (n z c v : Bool) (p a cu : Int32) (mk : Bool) (co : Int32) (kf : Int32) (bad : Bool) (h af : Int32) (en : Bool) (kp : Nat → Int32) (hp : penOK p) (ha : actOK a) (hcu : vp_in cu 16) (hsp : (r (13 : Int32).toNatClampNeg &&& 3) = 0)
    (hw : ∀ h : Int32, isH h → wdOK r n z c v a cu (f_ThumbCore_withHigh q w (r (15 : Int32).toNatClampNeg + 2) r n z c v a cu h) (f_ThumbCoreModel_wide q h (byt w) n z c v false (r (15 : Int32).toNatClampNeg + 2) cu r (bt a))) :
    stOK (f_ThumbCore_step q pr rl on as lk nx w r n z c v p a cu mk co) (f_ThumbCoreModel_step q on rl pr n z c v kf bad h af en mk as lk co cu (byt w) r kp (bt p) (bt a)) := by
  rw [f_ThumbCore_step, f_ThumbCoreModel_step]
  by_cases g : bI lk = 0
  · rw [if_pos g, if_pos g, p_tickOnce]
    generalize f_Counter_moves rl on co = M
    obtain ⟨mv, co2⟩ := M
    rw [z_un2, z_un2]
    have key : ∀ p2 : Int32, penOK p2 → stOK (k_ThumbCore_step_28 q pr rl on as lk nx w r n z c v p2 a cu mk co2) (if bI as = 0 then k_ThumbCoreModel_step_34 q on rl pr n z c v kf bad h af en mk as lk co2 cu (byt w) r kp (bt p2) (bt a) else bd (f_ThumbCoreModel_present mk (bt a) pr false) (fun v3 => bd (f_ThumbCoreModel_waiting (bt p2) pr v3) (fun v4 => if ¬ v4 = 0 then k_ThumbCoreModel_step_34 q on rl pr n z c v kf bad h af en mk as lk co2 cu (byt w) r kp (bt p2) (bt a) else (2, n, z, c, v, kf, bad, h, af, en, mk, as, lk, co2, cu, byt w, r, kp, bt p2, bt a)))) := by
      intro p2 hp2
      have h54 := st_54 hm pr rl on as lk nx w r n z c v p2 a cu mk co2 kf bad h af en kp hp2 ha hcu hsp hw
      rw [k_ThumbCore_step_28]
      by_cases ga : bI as = 0
      · rw [if_pos ga, if_pos ga]
        exact h54
      · rw [if_neg ga, if_neg ga, bd_eq, bd_eq, bd_eq, bd_eq, p_presU, p_wait hp2]
        by_cases gu : f_Exceptions_mostUrgent p2 pr (f_Exceptions_presentUnmasked a pr) = 0
        · have ng : ¬ ¬ f_Exceptions_mostUrgent p2 pr (f_Exceptions_presentUnmasked a pr) = 0 := fun k => k gu
          rw [if_neg ng, if_neg ng]
          exact ⟨kf, h, af, bad, en, kp, rfl⟩
        · rw [if_pos gu, if_pos gu]
          exact h54
    by_cases gm : bI mv = 0
    · rw [if_pos gm]
      dsimp only
      rw [if_pos gm]
      exact key p hp
    · rw [if_neg gm]
      dsimp only
      rw [if_neg gm, bd_eq]
      exact key _ (pen_await hp)
  · rw [if_neg g, if_neg g]
    exact ⟨kf, h, af, bad, en, kp, rfl⟩

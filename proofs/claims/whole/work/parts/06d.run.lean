/-- a step, without a premise on wide -/
theorem p_stepW {q : Int32} {nw : Nat} (hm : tc_mem q nw) {r : Nat → Int32} {p a cu : Int32} (hs : ivS r p a cu) (pr : Nat → Int32) (rl : Int32) (on as lk : Bool) (nx : Int32) (w : Nat → Int32) (n z c v : Bool) (mk : Bool) (co : Int32) (kf : Int32) (bad : Bool) (h af : Int32) (en : Bool) (kp : Nat → Int32) : stOK (f_ThumbCore_step q pr rl on as lk nx w r n z c v p a cu mk co) (f_ThumbCoreModel_step q on rl pr n z c v kf bad h af en mk as lk co cu (byt w) r kp (bt p) (bt a)) :=
  p_step hm pr rl on as lk nx w r n z c v p a cu mk co kf bad h af en kp hs.2.1 hs.2.2.1 hs.2.2.2 hs.1 (fun h hh => p_wide hm hh w r n z c v _ cu a hs.2.2.1 hs.2.2.2)
/-- the reference's state is that of a good state of the class -/
def mdOK (q cu : Int32) (m r : Nat → Int32) (P A : Nat → Bool) : Prop := (∃ nw : Nat, tc_mem q nw) ∧ ∃ (w : Nat → Int32) (p a : Int32), m = byt w ∧ P = bt p ∧ A = bt a ∧ ivS r p a cu
theorem md_in {q cu : Int32} {m r : Nat → Int32} {P A : Nat → Bool} (h : mdOK q cu m r P A) : vp_in cu 16 := by
  obtain ⟨_, w, p, a, _, _, _, hs⟩ := h
  exact hs.2.2.2
theorem md_step {q cu : Int32} {m r : Nat → Int32} {P A : Nat → Bool} (h : mdOK q cu m r P A) (on : Bool) (rl : Int32) (pr : Nat → Int32) (n z c v : Bool) (kf : Int32) (bad : Bool) (hh af : Int32) (en mk as lk : Bool) (co : Int32) (kp : Nat → Int32) : (fun u : Int32 × Bool × Bool × Bool × Bool × Int32 × Bool × Int32 × Int32 × Bool × Bool × Bool × Bool × Int32 × Int32 × (Nat → Int32) × (Nat → Int32) × (Nat → Int32) × (Nat → Bool) × (Nat → Bool) => mdOK q u.2.2.2.2.2.2.2.2.2.2.2.2.2.2.1 u.2.2.2.2.2.2.2.2.2.2.2.2.2.2.2.1 u.2.2.2.2.2.2.2.2.2.2.2.2.2.2.2.2.1 u.2.2.2.2.2.2.2.2.2.2.2.2.2.2.2.2.2.2.1 u.2.2.2.2.2.2.2.2.2.2.2.2.2.2.2.2.2.2.2) (f_ThumbCoreModel_step q on rl pr n z c v kf bad hh af en mk as lk co cu m r kp P A) := by
  obtain ⟨⟨nw, hm⟩, w, p, a, rfl, rfl, rfl, hs⟩ := h
  obtain ⟨kf2, h2, af2, bad2, en2, kp2, e⟩ := p_stepW hm hs pr rl on as lk 0 w n z c v mk co kf bad hh af en kp
  have hI := iv_step hs q pr rl on as lk 0 w n z c v mk co
  rw [e]
  exact ⟨⟨nw, hm⟩, _, _, _, rfl, rfl, rfl, hI.1⟩
theorem md_stepE {q cu : Int32} {m r : Nat → Int32} {P A : Nat → Bool} {on : Bool} {rl : Int32} {pr : Nat → Int32} {n z c v : Bool} {kf : Int32} {bad : Bool} {hh af : Int32} {en mk as lk : Bool} {co : Int32} {kp : Nat → Int32} {r1 : Int32} {s2 s3 s4 s5 : Bool} {s6 : Int32} {s7 : Bool} {s8 s9 : Int32} {s10 s11 s12 s13 : Bool} {s14 s15 : Int32} {s16 s17 s18 : Nat → Int32} {s19 s20 : Nat → Bool} (e : (r1, s2, s3, s4, s5, s6, s7, s8, s9, s10, s11, s12, s13, s14, s15, s16, s17, s18, s19, s20) = f_ThumbCoreModel_step q on rl pr n z c v kf bad hh af en mk as lk co cu m r kp P A) (h : mdOK q cu m r P A) : mdOK q s15 s16 s17 s19 s20 := by
  have h2 := md_step h on rl pr n z c v kf bad hh af en mk as lk co kp
  rw [← e] at h2
  exact h2
theorem z_un15 {A0 A1 A2 A3 A4 A5 A6 A7 A8 A9 A10 A11 A12 A13 A14 X : Type} (a0 : A0) (a1 : A1) (a2 : A2) (a3 : A3) (a4 : A4) (a5 : A5) (a6 : A6) (a7 : A7) (a8 : A8) (a9 : A9) (a10 : A10) (a11 : A11) (a12 : A12) (a13 : A13) (a14 : A14) (k : A0 → A1 → A2 → A3 → A4 → A5 → A6 → A7 → A8 → A9 → A10 → A11 → A12 → A13 → A14 → X) : un15 (a0, a1, a2, a3, a4, a5, a6, a7, a8, a9, a10, a11, a12, a13, a14) k = k a0 a1 a2 a3 a4 a5 a6 a7 a8 a9 a10 a11 a12 a13 a14 := rfl
theorem rn_stop (q : Int32) (on : Bool) (rl : Int32) (pr : Nat → Int32) (n z c v : Bool) (kf : Int32) (bad : Bool) (h af : Int32) (en mk as lk : Bool) (co cu : Int32) (m r kp : Nat → Int32) (P A : Nat → Bool) (x y k : Int32) {N f : Nat} (hk : tc_lp k N f) : k_ThumbCoreModel_run_19 q on rl pr f n z c v kf bad h af en mk as lk co cu m r kp P A x y false k = (y, n, z, c, v, kf, bad, h, af, en, mk, as, lk, co, cu, m, r, kp, P, A) := by
  have b0 : bI false = 0 := by decide
  cases f with
  | zero => exact (tc_lp0 hk).elim
  | succ f =>
    rw [k_ThumbCoreModel_run_19]
    by_cases g : x ≤ k
    · rw [if_pos g]
    · rw [if_neg g, if_pos b0]
theorem p_run14 {q : Int32} {nw : Nat} (hm : tc_mem q nw) (pr : Nat → Int32) (rl : Int32) (on : Bool) (x : Int32) (hx0 : ¬ x < 0) : ∀ (f : Nat) (as lk : Bool) (nx : Int32) (w r : Nat → Int32) (n z c v : Bool) (p a cu : Int32) (mk : Bool) (co : Int32) (kf : Int32) (bad : Bool) (h af : Int32) (en : Bool) (kp : Nat → Int32) (k : Int32), tc_lp k x.toInt.toNat f → ivS r p a cu → stOK (k_ThumbCore_run_14 q pr rl on f as lk nx w r n z c v p a cu mk co x k) (k_ThumbCoreModel_run_19 q on rl pr f n z c v kf bad h af en mk as lk co cu (byt w) r kp (bt p) (bt a) x k true k) ∧ ivT (k_ThumbCore_run_14 q pr rl on f as lk nx w r n z c v p a cu mk co x k) := by
  have b1 : ¬ bI true = 0 := by decide
  have b0 : bI false = 0 := by decide
  intro f
  induction f with
  | zero =>
    intro as lk nx w r n z c v p a cu mk co kf bad h af en kp k hk hs
    exact (tc_lp0 hk).elim
  | succ f ih =>
    intro as lk nx w r n z c v p a cu mk co kf bad h af en kp k hk hs
    rw [k_ThumbCore_run_14, k_ThumbCoreModel_run_19]
    by_cases g : x ≤ k
    · have ek : x = k := by
        have h0 := tc_glt hx0
        obtain ⟨h1, h2, h3⟩ := hk
        rw [Int32.le_iff_toInt_le] at g
        rw [← Int32.toInt_inj]
        omega
      rw [if_pos g, if_pos g, ← ek]
      exact ⟨⟨kf, h, af, bad, en, kp, rfl⟩, hs⟩
    · rw [if_neg g, if_neg g, if_neg b1]
      have hk2 := tc_lpS hk (tc_ggl hk g) (tc_tn _)
      obtain ⟨kf2, h2, af2, bad2, en2, kp2, e⟩ := p_stepW hm hs pr rl on as lk nx w n z c v mk co kf bad h af en kp
      have hI := iv_step hs q pr rl on as lk nx w n z c v mk co
      rw [e]
      generalize f_ThumbCore_step q pr rl on as lk nx w r n z c v p a cu mk co = t at hI ⊢
      obtain ⟨t1, t2, t3, t4, t5, t6, t7, t8, t9, t10, t11, t12, t13, t14, t15⟩ := t
      obtain ⟨hI1, hc⟩ := hI
      have hI2 : ivS t6 t11 t12 t13 := hI1
      have hc2 : t1 = 0 ∨ t1 = 1 ∨ t1 = 2 ∨ t1 = 3 := hc
      rw [z_un15]
      unfold un20
      dsimp only
      rcases hc2 with rfl | rfl | rfl | rfl
      · rw [if_neg (show ¬ (0 : Int32) = 2 by decide), if_pos (show ¬ (0 : Int32) = 3 by decide), if_neg (show ¬ (2 : Int32) ≤ 0 by decide), k_ThumbCoreModel_run_42, if_neg b1, k_ThumbCoreModel_run_54]
        exact ih t2 t3 t4 t5 t6 t7 t8 t9 t10 t11 t12 t13 t14 t15 kf2 bad2 h2 af2 en2 kp2 (k + 1) hk2 hI2
      · rw [if_neg (show ¬ (1 : Int32) = 2 by decide), if_pos (show ¬ (1 : Int32) = 3 by decide), if_neg (show ¬ (2 : Int32) ≤ 1 by decide), k_ThumbCoreModel_run_42, if_neg b1, k_ThumbCoreModel_run_54]
        exact ih t2 t3 t4 t5 t6 t7 t8 t9 t10 t11 t12 t13 t14 t15 kf2 bad2 h2 af2 en2 kp2 (k + 1) hk2 hI2
      · rw [if_pos (show (2 : Int32) = 2 from rfl), if_pos (show (2 : Int32) ≤ 2 by decide), k_ThumbCoreModel_run_42, if_pos b0, k_ThumbCoreModel_run_54, rn_stop q on rl pr _ _ _ _ _ _ _ _ _ _ _ _ _ _ _ _ _ _ _ x k _ hk2]
        exact ⟨⟨kf2, h2, af2, bad2, en2, kp2, rfl⟩, hI2⟩
      · rw [if_neg (show ¬ (3 : Int32) = 2 by decide), if_neg (show ¬ ¬ (3 : Int32) = 3 by decide), if_pos (show (2 : Int32) ≤ 3 by decide), k_ThumbCoreModel_run_42, if_pos b0, k_ThumbCoreModel_run_54, rn_stop q on rl pr _ _ _ _ _ _ _ _ _ _ _ _ _ _ _ _ _ _ _ x k _ hk2]
        exact ⟨⟨kf2, h2, af2, bad2, en2, kp2, rfl⟩, hI2⟩
theorem p_run {q : Int32} {nw : Nat} (hm : tc_mem q nw) {r : Nat → Int32} {p a cu : Int32} (hs : ivS r p a cu) (pr : Nat → Int32) (rl : Int32) (on as lk : Bool) (nx : Int32) (w : Nat → Int32) (n z c v : Bool) (mk : Bool) (co : Int32) (kf : Int32) (bad : Bool) (h af : Int32) (en : Bool) (kp : Nat → Int32) (x : Int32) : stOK (f_ThumbCore_run q pr rl on as lk nx w r n z c v p a cu mk co x) (f_ThumbCoreModel_run q on rl pr n z c v kf bad h af en mk as lk co cu (byt w) r kp (bt p) (bt a) x) ∧ ivT (f_ThumbCore_run q pr rl on as lk nx w r n z c v p a cu mk co x) := by
  rw [f_ThumbCore_run, f_ThumbCoreModel_run]
  by_cases g : x < 0
  · rw [if_pos g, if_pos g]
    exact ⟨⟨kf, h, af, bad, en, kp, rfl⟩, hs⟩
  · rw [if_neg g, if_neg g]
    by_cases g2 : x ≤ 100
    · rw [if_pos g2, if_pos g2]
      exact p_run14 hm pr rl on x g _ as lk nx w r n z c v p a cu mk co kf bad h af en kp 0 (tc_lpE _) hs
    · rw [if_neg g2, if_neg g2]
      exact ⟨⟨kf, h, af, bad, en, kp, rfl⟩, hs⟩

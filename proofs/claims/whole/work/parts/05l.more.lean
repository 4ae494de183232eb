theorem p_peek {q : Int32} {nw : Nat} (hm : tc_mem q nw) (w : Nat → Int32) (x : Int32) : f_ThumbCoreModel_peek q (byt w) x = f_ThumbCore_peek q w x := by
  unfold f_ThumbCoreModel_peek f_ThumbCore_peek f_Memory_holds
  simp only [bd]
  have c0 : bI false = 0 := by decide
  have c1 : ¬ bI true = 0 := by decide
  obtain ⟨m1, m2, m3⟩ := hm
  have e1 : (1 : Int32).toInt = 1 := by decide
  have hq : (q - 1) < x ↔ q ≤ x := by
    rw [Int32.lt_iff_toInt_lt, Int32.le_iff_toInt_le, tc_sub (by omega) (by omega), e1]
    omega
  by_cases g0 : x < 0
  · rw [if_pos g0, if_pos g0, if_pos c0]
  · rw [if_neg g0, if_neg g0]
    by_cases g1 : q ≤ x
    · rw [if_pos g1, if_pos (hq.mpr g1), if_pos c0]
    · have g2 : ¬ (q - 1) < x := fun k => g1 (hq.mp k)
      rw [if_neg g1, if_neg g2, if_neg c1]
      obtain ⟨j, hj, rfl⟩ := nI_of g0
      have e : (1 : Int32) = nI 1 := by decide
      rw [nI_clamp hj, e]
      apply b_ext
      intro i hi
      rw [m_rbit w hj (Or.inl rfl) hi, b_and, b_255, m_bb _ _ hi]
      by_cases h : i < 8
      · have e7 : min i 7 = i := by omega
        have h8 : i < 8 * 1 := by omega
        rw [e7]
        simp [h]
      · simp [h]
theorem z_same (f : Nat → Bool) (k : Nat) : va_up f k (f k) = f := by
  funext i
  unfold va_up
  by_cases h : i = k
  · rw [if_pos h, h]
  · rw [if_neg h]
theorem p_tickOnce (on : Bool) (rl co p : Int32) : f_ThumbCoreModel_tickOnce on rl co (bt p) = ((f_Counter_moves rl on co).2, bt (if bI (f_Counter_moves rl on co).1 = 0 then p else f_Exceptions_await p 15)) := by
  have e15 : (15 : Int32).toNatClampNeg = 15 := by decide
  have ha : bt (f_Exceptions_await p 15) = va_up (bt p) (15 : Int32).toNatClampNeg true := q_await p 15 (by show ¬ (_ ∨ _); decide)
  have c0 : bI false = 0 := by decide
  have c1 : ¬ bI true = 0 := by decide
  unfold f_ThumbCoreModel_tickOnce f_Counter_moves k_ThumbCoreModel_tickOnce_20 k_ThumbCoreModel_tickOnce_39 k_ThumbCoreModel_tickOnce_69 k_ThumbCoreModel_tickOnce_73 k_ThumbCoreModel_tickOnce_74
  cases on
  · rw [if_neg (fun k => k c0), if_neg (fun k => k c0)]
    rfl
  · rw [if_pos c1, if_pos c1]
    by_cases g : co = 0
    · have n1 : ¬ ¬ co = 0 := fun k => k g
      rw [if_neg n1, if_neg n1, if_neg c1]
      show _ = (rl, bt p)
      cases hb : bt p (15 : Int32).toNatClampNeg
      · rw [if_neg (fun k => k c0), if_pos c1, ← hb, z_same]
      · rw [if_pos c1, ← hb, z_same]
    · rw [if_pos g, if_pos g, if_pos c0]
      by_cases g1 : (co - 1) = 0
      · have n1 : ¬ ¬ (co - 1) = 0 := fun k => k g1
        rw [if_neg n1, if_neg n1]
        show _ = (co - 1, bt (f_Exceptions_await p 15))
        rw [ha]
        cases hb : bt p (15 : Int32).toNatClampNeg
        · rw [if_neg (fun k => k c0), if_neg (fun k => k c0)]
        · rw [if_pos c1]
      · rw [if_pos g1, if_pos g1]
        show _ = (co - 1, bt p)
        cases hb : bt p (15 : Int32).toNatClampNeg
        · rw [if_neg (fun k => k c0), if_neg (fun k => k c0), ← hb, z_same]
        · rw [if_pos c1, ← hb, z_same]
/-- zeros from k on, m of them -/
def zr {A : Type} (x : A) (f : Nat → A) (k m : Nat) : Nat → A := fun i => if k ≤ i ∧ i < k + m then x else f i
theorem z_step {A : Type} (x : A) (f : Nat → A) (k m : Nat) : zr x (va_up f k x) (k + 1) m = zr x f k (m + 1) := by
  funext i
  unfold zr va_up
  by_cases h : i = k
  · subst h
    rw [if_neg (by omega), if_pos rfl, if_pos (by omega)]
  · rw [if_neg h]
    by_cases g : k + 1 ≤ i ∧ i < k + 1 + m
    · rw [if_pos g, if_pos (by omega)]
    · rw [if_neg g, if_neg (by omega)]
theorem z_zero {A : Type} (x : A) (f : Nat → A) (k : Nat) : zr x f k 0 = f := by
  funext i
  unfold zr
  rw [if_neg (by omega)]
theorem z_stepU (x : Int32) (f : Nat → Int32) (k m : Nat) : zr x (upd f k x) (k + 1) m = zr x f k (m + 1) := z_step x f k m
theorem z_bits {p : Int32} (h : ∀ j : Nat, 16 ≤ j → bt p j = false) : zr false (bt p) 0 16 = bt 0 := by
  funext i
  unfold zr
  rw [b_0]
  by_cases g : 0 ≤ i ∧ i < 0 + 16
  · rw [if_pos g]
  · rw [if_neg g]
    exact h i (by omega)
theorem z_fl (n z c v : Bool) : f_ThumbCoreModel_flags n z c v 0 = (false, false, false, false) := rfl
theorem z_tk (n z c v : Bool) : f_Flags_take n z c v 0 = (false, false, false, false) := rfl
theorem z_un2 {A B X : Type} (a : A) (b : B) (k : A → B → X) : un2 (a, b) k = k a b := rfl
theorem z_un4 {A B C D X : Type} (a : A) (b : B) (c : C) (d : D) (k : A → B → C → D → X) : un4 (a, b, c, d) k = k a b c d := rfl
theorem z_read {q : Int32} {nw : Nat} (hm : tc_mem q nw) (w : Nat → Int32) (bad : Bool) {j : Nat} (hj : j % 4 = 0) (hl : j < 128) : f_ThumbCoreModel_read q (byt w) bad (nI j) 4 = (f_Memory_word w (nI j), bad) := by
  have hms := hm
  obtain ⟨m1, m2, m3⟩ := hms
  rw [p_read hm w bad _ 4 (Or.inr (Or.inr rfl)), if_pos ((y_is4 hm _).mpr ⟨j, rfl, hj, by omega⟩), p_word w (by omega) hj]
theorem z_mreset {q : Int32} {nw : Nat} (hm : tc_mem q nw) (w : Nat → Int32) (n z c v bad mk as lk cs : Bool) (co rl cu : Int32) : ∀ (f k : Nat) (r : Nat → Int32) (p a : Nat → Bool), k + f = 16 → k_ThumbCoreModel_reset_2 q (byt w) (f + 1) n z c v bad mk as lk cs co rl cu r p a (nI k) = (false, false, false, false, bad, false, false, false, false, 0, 0, 0, (upd (upd (upd (zr 0 r k f) (13 : Int32).toNatClampNeg (f_Memory_word w 0 &&& (-4))) (15 : Int32).toNatClampNeg (f_Memory_word w 4 &&& (-2))) (14 : Int32).toNatClampNeg (-1)), zr false p k f, zr false a k f) := by
  intro f
  induction f with
  | zero =>
    intro k r p a h
    have h16 : k = 16 := by omega
    subst h16
    have g : (16 : Int32) ≤ nI 16 := by decide
    have e0 := z_read hm w bad (j := 0) (by decide) (by decide)
    have e4 := z_read hm w bad (j := 4) (by decide) (by decide)
    have e0' : f_ThumbCoreModel_read q (byt w) bad 0 4 = (f_Memory_word w 0, bad) := e0
    have e4' : f_ThumbCoreModel_read q (byt w) bad 4 4 = (f_Memory_word w 4, bad) := e4
    rw [k_ThumbCoreModel_reset_2, if_pos g, e0', z_un2, e4', z_un2, z_fl, z_un4, z_zero, z_zero, z_zero]
  | succ f ih =>
    intro k r p a h
    have g : ¬ (16 : Int32) ≤ nI k := nI_ge (a := k) (b := 16) (by omega) (by decide)
    rw [k_ThumbCoreModel_reset_2, if_neg g, nI_clamp (by omega), nI_1, ih (k + 1) _ _ _ (by omega), z_stepU, z_step, z_step]
theorem z_creset (w : Nat → Int32) (as lk : Bool) (n z c v : Bool) (p a cu : Int32) (mk : Bool) (co rl : Int32) (on : Bool) : ∀ (f k : Nat) (r : Nat → Int32), k + f = 13 → k_ThumbCore_reset_2 w (f + 1) as lk r n z c v p a cu mk co rl on (nI k) = (false, false, (upd (upd (upd (zr 0 r k f) (13 : Int32).toNatClampNeg (f_Memory_word w 0 &&& (-4))) (14 : Int32).toNatClampNeg (-1)) (15 : Int32).toNatClampNeg (f_Memory_word w 4 &&& (-2))), false, false, false, false, 0, 0, 0, false, 0, 0, false) := by
  intro f
  induction f with
  | zero =>
    intro k r h
    have h13 : k = 13 := by omega
    subst h13
    have g : (13 : Int32) ≤ nI 13 := by decide
    rw [k_ThumbCore_reset_2, if_pos g, bd_eq, bd_eq, z_tk, z_un4, z_zero]
    rfl
  | succ f ih =>
    intro k r h
    have g : ¬ (13 : Int32) ≤ nI k := nI_ge (a := k) (b := 13) (by omega) (by decide)
    rw [k_ThumbCore_reset_2, if_neg g, nI_clamp (by omega), nI_1, ih (k + 1) _ (by omega), z_stepU]
theorem z_regs (r : Nat → Int32) (x y z : Int32) : upd (upd (upd (zr 0 r 0 16) (13 : Int32).toNatClampNeg x) (15 : Int32).toNatClampNeg y) (14 : Int32).toNatClampNeg z = upd (upd (upd (zr 0 r 0 13) (13 : Int32).toNatClampNeg x) (14 : Int32).toNatClampNeg z) (15 : Int32).toNatClampNeg y := by
  have e13 : (13 : Int32).toNatClampNeg = 13 := by decide
  have e14 : (14 : Int32).toNatClampNeg = 14 := by decide
  have e15 : (15 : Int32).toNatClampNeg = 15 := by decide
  rw [e13, e14, e15]
  funext i
  unfold upd zr
  by_cases h13 : i = 13
  · subst h13
    rfl
  by_cases h14 : i = 14
  · subst h14
    rfl
  by_cases h15 : i = 15
  · subst h15
    rfl
  rw [if_neg h14, if_neg h15, if_neg h13, if_neg h15, if_neg h14, if_neg h13]
  by_cases g : 0 ≤ i ∧ i < 0 + 13
  · rw [if_pos g, if_pos (by omega)]
  · rw [if_neg g, if_neg (by omega)]
theorem p_reset {q : Int32} {nw : Nat} (hm : tc_mem q nw) (w r : Nat → Int32) (n z c v bad mk as lk on : Bool) (co rl cu p a : Int32) (hp : penOK p) (ha : actOK a) : f_ThumbCoreModel_reset q (byt w) n z c v bad mk as lk on co rl cu r (bt p) (bt a) = (fun t : Bool × Bool × (Nat → Int32) × Bool × Bool × Bool × Bool × Int32 × Int32 × Int32 × Bool × Int32 × Int32 × Bool => (t.2.2.2.1, t.2.2.2.2.1, t.2.2.2.2.2.1, t.2.2.2.2.2.2.1, bad, t.2.2.2.2.2.2.2.2.2.2.1, t.1, t.2.1, t.2.2.2.2.2.2.2.2.2.2.2.2.2, t.2.2.2.2.2.2.2.2.2.2.2.1, t.2.2.2.2.2.2.2.2.2.2.2.2.1, t.2.2.2.2.2.2.2.2.2.1, t.2.2.1, bt t.2.2.2.2.2.2.2.1, bt t.2.2.2.2.2.2.2.2.1)) (f_ThumbCore_reset w as lk r n z c v p a cu mk co rl on) := by
  have e1 : f_ThumbCoreModel_reset q (byt w) n z c v bad mk as lk on co rl cu r (bt p) (bt a) = k_ThumbCoreModel_reset_2 q (byt w) (16 + 1) n z c v bad mk as lk on co rl cu r (bt p) (bt a) (nI 0) := by
    rw [f_ThumbCoreModel_reset]
    rfl
  have e2 : f_ThumbCore_reset w as lk r n z c v p a cu mk co rl on = k_ThumbCore_reset_2 w (13 + 1) as lk r n z c v p a cu mk co rl on (nI 0) := by
    rw [f_ThumbCore_reset]
    rfl
  rw [e1, e2, z_mreset hm w n z c v bad mk as lk on co rl cu 16 0 r _ _ (by decide), z_creset w as lk n z c v p a cu mk co rl on 13 0 r (by decide), z_regs, z_bits (fun j h => hp j (by omega) (by omega) (by omega)), z_bits (fun j h => ha j (by omega) (by omega) (by omega) (by omega) (by omega))]

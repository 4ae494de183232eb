theorem iv_clr {a e : Int32} (he : vp_in e 16) {j : Nat} (h : bt a j = false) : bt (a &&& ((o_ishl 1 e) ^^^ (-1))) j = false := by
  obtain ⟨k, hk, ek⟩ := vp_in_of he (by decide)
  subst ek
  rw [x_clr a (e := k) (by omega)]
  unfold va_up
  by_cases g : j = k
  · rw [if_pos g]
  · rw [if_neg g]
    exact h
theorem act_end {a cu : Int32} (ha : actOK a) (hcu : vp_in cu 16) : actOK (a &&& ((o_ishl 1 cu) ^^^ (-1))) := fun j h2 h3 h11 h14 h15 => iv_clr hcu (ha j h2 h3 h11 h14 h15)
theorem pen_begin {p e : Int32} (hp : penOK p) (he : vp_in e 16) : penOK (p &&& ((o_ishl 1 e) ^^^ (-1))) := fun j h2 h14 h15 => iv_clr he (hp j h2 h14 h15)
/-- the numbers that an exception can have -/
def excOK (e : Int32) : Prop := e = 2 ∨ e = 3 ∨ e = 11 ∨ e = 14 ∨ e = 15
theorem exc_in {e : Int32} (h : excOK e) : vp_in e 16 := by
  rcases h with h | h | h | h | h <;> subst h <;> exact vp_in_iff.mpr (by decide)
theorem act_begin {a e : Int32} (ha : actOK a) (he : excOK e) : actOK (a ||| o_ishl 1 e) := by
  intro j h2 h3 h11 h14 h15
  have key : ∀ k : Nat, k < 32 → j ≠ k → bt (a ||| o_ishl 1 (nI k)) j = false := by
    intro k hk hj
    rw [x_set a hk]
    unfold va_up
    rw [if_neg hj]
    exact ha j h2 h3 h11 h14 h15
  rcases he with h | h | h | h | h <;> subst h
  · exact key 2 (by decide) h2
  · exact key 3 (by decide) h3
  · exact key 11 (by decide) h11
  · exact key 14 (by decide) h14
  · exact key 15 (by decide) h15
/-- what an instruction or an entry leaves -/
def ivS (r : Nat → Int32) (p a cu : Int32) : Prop := spOK r ∧ penOK p ∧ actOK a ∧ vp_in cu 16
def ivR (a cu y3 : Int32) (t : Int32 × (Nat → Int32) × Bool × Bool × Bool × Bool × Int32 × Int32) : Prop := spOK t.2.1 ∧ t.2.2.2.2.2.2.1 = (a &&& ((o_ishl 1 cu) ^^^ (-1))) ∧ t.2.2.2.2.2.2.2 = (y3 &&& 63)
def ivH (t : Int32 × (Nat → Int32) × Bool × Bool × Bool × Bool × Int32 × Int32) : Prop := spOK t.2.1 ∧ actOK t.2.2.2.2.2.2.1 ∧ vp_in t.2.2.2.2.2.2.2 16
theorem iv_go39 (w : Nat → Int32) {y2 : Int32} (hy : (y2 &&& 3) = 0) (n z c v : Bool) (a cu y3 : Int32) : ∀ (f : Nat) (nx : Int32) (r : Nat → Int32) (y4 : Int32), tc_lp y4 6 f → ivR a cu y3 (k_ThumbCore_goTo_39 w f nx r n z c v a cu y2 y3 y4) := by
  intro f
  induction f with
  | zero =>
    intro nx r y4 h
    exact (tc_lp0 h).elim
  | succ f ih =>
    intro nx r y4 h
    rw [k_ThumbCore_goTo_39]
    by_cases g : 6 ≤ y4
    · rw [if_pos g, bd_eq]
      refine iv_ite (P := ivR a cu y3) ?_ ?_
      · exact ⟨sp_set (m4_add (m4_add hy (by decide)) (by decide)), rfl, rfl⟩
      · exact ⟨sp_set (m4_add (m4_add hy (by decide)) (by decide)), rfl, rfl⟩
    · rw [if_neg g, bd_eq]
      exact ih _ _ _ (tc_lpS h (tc_gge g (by decide)) (by decide))
theorem iv_last {a x : Int32} (h : f_Exceptions_mayEndLast a x = true) : vp_in x 16 := by
  unfold f_Exceptions_mayEndLast at h
  by_cases g : x = 0
  · rw [g]
    exact vp_in_iff.mpr (by decide)
  · rw [if_pos g] at h
    cases h
theorem iv_for {a cu x : Int32} (h : f_Exceptions_mayEndFor a cu x = true) : vp_in x 16 := by
  unfold f_Exceptions_mayEndFor at h
  by_cases g : x = cu
  · rw [if_pos g] at h
    cases h
  · rw [if_neg g, bd_eq] at h
    by_cases g2 : bI (f_Exceptions_isActive a x) = 0
    · rw [if_pos g2] at h
      cases h
    · have h2 : f_Exceptions_isActive a x = true := tc_bT rfl g2
      unfold f_Exceptions_isActive at h2
      by_cases h0 : x < 0
      · rw [if_pos h0] at h2
        cases h2
      · rw [if_neg h0] at h2
        by_cases h1 : 15 < x
        · rw [if_pos h1] at h2
          cases h2
        · exact tc_gin h0 h1
theorem iv_may {q : Int32} {w : Nat → Int32} {a cu x sp : Int32} (hr : f_ThumbCore_isReturn a x = true) (h : f_ThumbCore_mayGoTo q w a cu x sp = true) : vp_in (f_Memory_word w (sp + 28) &&& 63) 16 := by
  cases har : f_Memory_areThere q sp 8
  · rw [r_may0 q w cu x a sp hr har] at h
    cases h
  · rw [r_may1 q w cu x a sp hr har] at h
    by_cases hx : x = -7
    · have hx' : ¬ ¬ x = -7 := fun k => k hx
      rw [if_neg hx'] at h
      exact iv_last h
    · rw [if_pos hx] at h
      exact iv_for h
/-- where mayGoTo holds, going there keeps the state good -/
theorem iv_goTo {q : Int32} {w r : Nat → Int32} {a cu x sp : Int32} (hsp : spOK r) (ha : actOK a) (hcu : vp_in cu 16) (e : r (13 : Int32).toNatClampNeg = sp) (h : f_ThumbCore_mayGoTo q w a cu x sp = true) (nx : Int32) (n z c v : Bool) : ivH (f_ThumbCore_goTo w nx r n z c v a cu x) := by
  cases hr : f_ThumbCore_isReturn a x
  · rw [r_go0 w r n z c v nx cu x a hr]
    exact ⟨hsp, ha, hcu⟩
  · rw [r_go1 w r n z c v nx cu x a hr, e]
    have hsp2 : (sp &&& 3) = 0 := by
      rw [← e]
      exact hsp
    have h39 := iv_go39 w hsp2 n z c v a cu (f_Memory_word w (sp + 28)) 7 nx r 0 (tc_lpE 6)
    obtain ⟨k1, k2, k3⟩ := h39
    refine ⟨k1, ?_, ?_⟩
    · rw [k2]
      exact act_end ha hcu
    · rw [k3]
      exact iv_may hr h
def ivG (t : Bool × Int32 × (Nat → Int32) × Bool × Bool × Bool × Bool × Int32 × Int32) : Prop := spOK t.2.2.1 ∧ actOK t.2.2.2.2.2.2.2.1 ∧ vp_in t.2.2.2.2.2.2.2.2 16
theorem iv_popAndGo {r : Nat → Int32} (hsp : spOK r) {a cu : Int32} (ha : actOK a) (hcu : vp_in cu 16) (q : Int32) (w : Nat → Int32) (nx : Int32) (n z c v : Bool) (l : Int32) : ivG (f_ThumbCore_popAndGo q w nx r n z c v a cu l) := by
  unfold f_ThumbCore_popAndGo
  rw [bd_eq, bd_eq, bd_eq, bd_eq]
  refine iv_ite (P := ivG) ?_ ⟨hsp, ha, hcu⟩
  rw [bd_eq, bd_eq]
  refine iv_itc (P := ivG) ?_ (fun _ => ⟨hsp, ha, hcu⟩)
  intro g
  have g2 := tc_bT rfl g
  rw [bd_eq]
  exact iv_goTo (sp_set (m4_add (iv_behind hsp l) (by decide))) ha hcu (tc_updS _ _ _) g2 nx n z c v
def ivE (t : Bool × (Nat → Int32) × (Nat → Int32) × Int32 × Int32 × Int32) : Prop := ivS t.2.2.1 t.2.2.2.1 t.2.2.2.2.1 t.2.2.2.2.2
theorem iv_en66 (q : Int32) (n z c v : Bool) {e : Int32} (he : excOK e) {y4 : Int32} (hy : (y4 &&& 3) = 0) (y2 y3 y5 : Int32) (r : Nat → Int32) {p a cu : Int32} (hp : penOK p) (ha : actOK a) : ∀ (f : Nat) (lk : Bool) (w : Nat → Int32) (y6 : Int32), tc_lp y6 6 f → ivE (k_ThumbCore_enter_66 q n z c v f lk w r p a cu e y2 y3 y4 y5 y6) := by
  intro f
  induction f with
  | zero =>
    intro lk w y6 h
    exact (tc_lp0 h).elim
  | succ f ih =>
    intro lk w y6 h
    have e179 : ∀ (w : Nat → Int32) (z2 : Int32), ivE (k_ThumbCore_enter_179 q n z c v lk w (upd r (13 : Int32).toNatClampNeg y4) p a cu e y5 z2) := by
      intro w z2
      exact ⟨sp15 (sp14 (sp_set hy) _) _, pen_begin hp (exc_in he), act_begin ha he, exc_in he⟩
    have e143 : ∀ (w : Nat → Int32) (z1 z2 z3 : Int32), ivE (k_ThumbCore_enter_143 q n z c v lk w r p a cu e y4 y5 z1 z2 z3) := by
      intro w z1 z2 z3
      unfold k_ThumbCore_enter_143
      rw [bd_eq]
      exact iv_ite (P := ivE) (e179 _ _) (e179 _ _)
    rw [k_ThumbCore_enter_66]
    by_cases g : 6 ≤ y6
    · rw [if_pos g, bd_eq, bd_eq]
      exact iv_ite (P := ivE) (e143 _ _ _ _) (e143 _ _ _ _)
    · rw [if_neg g, bd_eq]
      exact ih _ _ _ (tc_lpS h (tc_gge g (by decide)) (by decide))
theorem iv_enter {r : Nat → Int32} (hsp : spOK r) {p a cu e : Int32} (hp : penOK p) (ha : actOK a) (hcu : vp_in cu 16) (he : excOK e) (q : Int32) (n z c v lk : Bool) (w : Nat → Int32) (fr : Int32) : ivE (f_ThumbCore_enter q n z c v lk w r p a cu e fr) := by
  unfold f_ThumbCore_enter
  rw [bd_eq, bd_eq, bd_eq, bd_eq]
  refine iv_ite (P := ivE) ⟨hsp, hp, ha, hcu⟩ (iv_ite (P := ivE) ?_ ⟨hsp, hp, ha, hcu⟩)
  exact iv_en66 q n z c v he (m4_sub (m4_sub hsp (by decide)) (m4_and (by decide))) fr _ _ r hp ha 7 lk w 0 (tc_lpE 6)
theorem iv_fault {r : Nat → Int32} (hsp : spOK r) {p a cu : Int32} (hp : penOK p) (ha : actOK a) (hcu : vp_in cu 16) (q : Int32) (n z c v mk lk : Bool) (pr w : Nat → Int32) : ivE (f_ThumbCore_fault q n z c v mk pr lk w r p a cu) := by
  unfold f_ThumbCore_fault
  rw [bd_eq]
  refine iv_ite (P := ivE) ?_ ⟨hsp, hp, ha, hcu⟩
  exact iv_enter hsp hp ha hcu (Or.inr (Or.inl rfl)) q n z c v lk w _
def ivB (t : Bool × Bool × Int32 × (Nat → Int32) × (Nat → Int32) × Int32 × Int32 × Int32) : Prop := ivS t.2.2.2.2.1 t.2.2.2.2.2.1 t.2.2.2.2.2.2.1 t.2.2.2.2.2.2.2
theorem iv_call {r : Nat → Int32} (hsp : spOK r) {p a cu : Int32} (hp : penOK p) (ha : actOK a) (hcu : vp_in cu 16) (q : Int32) (n z c v mk lk : Bool) (pr w : Nat → Int32) (nx : Int32) : ivB (f_ThumbCore_call q n z c v mk pr lk nx w r p a cu) := by
  unfold f_ThumbCore_call
  rw [bd_eq]
  refine iv_ite (P := ivB) ?_ ⟨hsp, hp, ha, hcu⟩
  exact iv_enter hsp hp ha hcu (Or.inr (Or.inr (Or.inl rfl))) q n z c v lk w nx
theorem iv_branchOrCall {r : Nat → Int32} (hsp : spOK r) {p a cu : Int32} (hp : penOK p) (ha : actOK a) (hcu : vp_in cu 16) (q : Int32) (n z c v mk lk : Bool) (pr w : Nat → Int32) (nx x y : Int32) : ivB (f_ThumbCore_branchOrCall q n z c v mk pr lk nx w r p a cu x y) := by
  unfold f_ThumbCore_branchOrCall
  refine iv_ite (P := ivB) (iv_ite (P := ivB) ?_ ?_) ⟨hsp, hp, ha, hcu⟩
  · rw [bd_eq]
    exact iv_ite (P := ivB) ⟨hsp, hp, ha, hcu⟩ ⟨hsp, hp, ha, hcu⟩
  · exact iv_call hsp hp ha hcu q n z c v mk lk pr w nx
def ivM (t : Bool × Bool × Int32 × (Nat → Int32) × (Nat → Int32) × Bool × Bool × Bool × Bool × Int32 × Int32 × Bool) : Prop := spOK t.2.2.2.2.1 ∧ actOK t.2.2.2.2.2.2.2.2.2.1 ∧ vp_in t.2.2.2.2.2.2.2.2.2.2.1 16
theorem iv_misc {r : Nat → Int32} (hsp : spOK r) {a cu : Int32} (ha : actOK a) (hcu : vp_in cu 16) (q : Int32) (as : Bool) (nx : Int32) (w : Nat → Int32) (n z c v mk : Bool) (x : Int32) : ivM (f_ThumbCore_miscellaneous q as nx w r n z c v a cu mk x) := by
  unfold f_ThumbCore_miscellaneous
  refine iv_ite (P := ivM) ?_ (iv_ite (P := ivM) ?_ (iv_ite (P := ivM) ?_ (iv_ite (P := ivM) ?_ (iv_ite (P := ivM) ?_ (iv_ite (P := ivM) ?_ (iv_ite (P := ivM) ?_ (iv_ite (P := ivM) ?_ (iv_ite (P := ivM) ?_ ?_))))))))
  · exact ⟨iv_moveStack hsp x, ha, hcu⟩
  · exact ⟨sp7 hsp x _, ha, hcu⟩
  · exact ⟨iv_push hsp q w _, ha, hcu⟩
  · exact ⟨iv_push hsp q w _, ha, hcu⟩
  · exact ⟨hsp, ha, hcu⟩
  · exact ⟨iv_swapBytes hsp x, ha, hcu⟩
  · exact ⟨iv_pop hsp q w _, ha, hcu⟩
  · exact iv_popAndGo hsp ha hcu q w nx n z c v _
  · exact ⟨hsp, ha, hcu⟩
  · exact ⟨hsp, ha, hcu⟩
def ivU (p t : Int32) : Prop := t = 0 ∨ ∃ j : Nat, j < 16 ∧ t = nI j ∧ bt p j = true
theorem iv_mu (p : Int32) (pr : Nat → Int32) : ∀ (n : Nat) (b u k : Int32), (b = 0 ∨ ∃ j : Nat, j < 16 ∧ b = nI j ∧ bt p j = true) → tc_lp k 16 n → ivU p (k_Exceptions_mostUrgent_7 p pr n b u k) := by
  intro n
  induction n with
  | zero =>
    intro b u k hb hk
    exact (tc_lp0 hk).elim
  | succ n ih =>
    intro b u k hb hk
    unfold k_Exceptions_mostUrgent_7
    by_cases g : 15 < k
    · rw [if_pos g]
      exact hb
    · rw [if_neg g]
      have hgd : k.toInt < ((16 : Nat) : Int) := tc_ggt g (by decide)
      have hk2 := tc_lpS hk hgd (by decide)
      obtain ⟨j, hj, ej⟩ := vp_in_of (tc_lpI hk hgd (j := 16) (by decide)) (by decide)
      have hbit : ((o_iushr p k) &&& 1) = 1 → bt p j = true := by
        intro h
        rw [ej] at h
        exact (x_bit p (j := j) (by omega)).mp h
      unfold k_Exceptions_mostUrgent_49 bd
      refine iv_itc (P := ivU p) ?_ ?_
      · intro _
        exact ih _ _ _ hb hk2
      · intro h
        have h2 := Classical.not_not.mp h
        refine iv_ite (P := ivU p) ?_ ?_
        · exact ih _ _ _ hb hk2
        · exact ih _ _ _ (Or.inr ⟨j, hj, ej, hbit h2⟩) hk2
theorem exc_mu {p u : Int32} {pr : Nat → Int32} (hp : penOK p) (h : ¬ f_Exceptions_mostUrgent p pr u = 0) : excOK (f_Exceptions_mostUrgent p pr u) := by
  have hk : f_Exceptions_mostUrgent p pr u = 0 ∨ ∃ j : Nat, j < 16 ∧ f_Exceptions_mostUrgent p pr u = nI j ∧ bt p j = true := iv_mu p pr 17 0 u 0 (Or.inl rfl) (tc_lpE 16)
  rcases hk with hk | ⟨j, hj, e, hb⟩
  · exact (h hk).elim
  · rw [e]
    by_cases g2 : j = 2
    · rw [g2]
      exact Or.inl rfl
    by_cases g14 : j = 14
    · rw [g14]
      exact Or.inr (Or.inr (Or.inr (Or.inl rfl)))
    by_cases g15 : j = 15
    · rw [g15]
      exact Or.inr (Or.inr (Or.inr (Or.inr rfl)))
    rw [hp j g2 g14 g15] at hb
    cases hb
theorem iv_branchTo {r : Nat → Int32} (hsp : spOK r) {a cu : Int32} (ha : actOK a) (hcu : vp_in cu 16) (q : Int32) (w : Nat → Int32) (nx : Int32) (n z c v : Bool) (x : Int32) (b : Bool) : ivG (f_ThumbCore_branchTo q w nx r n z c v a cu x b) := by
  unfold f_ThumbCore_branchTo
  rw [bd_eq]
  refine iv_itc (P := ivG) ?_ (fun _ => ⟨hsp, ha, hcu⟩)
  intro g
  have g2 := tc_bT rfl g
  have e14 : ∀ y : Int32, upd r (14 : Int32).toNatClampNeg y (13 : Int32).toNatClampNeg = r (13 : Int32).toNatClampNeg := fun y => if_neg (by decide)
  refine iv_ite (P := ivG) ?_ ?_
  · exact iv_goTo hsp ha hcu rfl g2 nx n z c v
  · rw [bd_eq]
    refine iv_ite (P := ivG) ?_ ?_
    · exact iv_goTo hsp ha hcu rfl g2 nx n z c v
    · exact iv_goTo (sp14 hsp _) ha hcu (e14 _) g2 nx n z c v
theorem iv_withHigh {r : Nat → Int32} (hsp : spOK r) {a cu : Int32} (ha : actOK a) (hcu : vp_in cu 16) (q : Int32) (w : Nat → Int32) (nx : Int32) (n z c v : Bool) (x : Int32) : ivG (f_ThumbCore_withHigh q w nx r n z c v a cu x) := by
  have e82 : ∀ y2 y3 : Int32, ivG (k_ThumbCore_withHigh_82 q w nx r n z c v a cu y2 y3) := by
    intro y2 y3
    unfold k_ThumbCore_withHigh_82
    exact iv_ite (P := ivG) ⟨hsp, ha, hcu⟩ (iv_ite (P := ivG) ⟨hsp, ha, hcu⟩ ⟨hsp, ha, hcu⟩)
  have e170 : ∀ (y : Int32) (b : Bool), ivG (k_ThumbCore_withHigh_170 q w nx r n z c v a cu y b) := fun y b => iv_branchTo hsp ha hcu q w nx n z c v y b
  unfold f_ThumbCore_withHigh
  rw [bd_eq, bd_eq]
  refine iv_ite (P := ivG) ?_ (iv_ite (P := ivG) ?_ (iv_ite (P := ivG) ?_ (iv_ite (P := ivG) ⟨hsp, ha, hcu⟩ (iv_ite (P := ivG) ?_ ⟨hsp, ha, hcu⟩))))
  · rw [bd_eq, bd_eq]
    exact ⟨iv_put hsp _ _ _, ha, hcu⟩
  · exact iv_ite (P := ivG) (e82 _ _) (iv_ite (P := ivG) ⟨hsp, ha, hcu⟩ (e82 _ _))
  · rw [bd_eq]
    exact ⟨iv_put hsp _ _ _, ha, hcu⟩
  · exact iv_ite (P := ivG) (e170 _ _) (e170 _ _)

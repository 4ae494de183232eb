/-- only 2, 3, 11, 14 and 15 can be active -/
def actOK (a : Int32) : Prop := ∀ j : Nat, j ≠ 2 → j ≠ 3 → j ≠ 11 → j ≠ 14 → j ≠ 15 → bt a j = false
def mkA (b2 b3 b11 b14 b15 : Bool) : Int32 := ((((if b2 then 4 else 0) ||| (if b3 then 8 else 0)) ||| (if b11 then 2048 else 0)) ||| (if b14 then 16384 else 0)) ||| (if b15 then 32768 else 0)
theorem e_mkA : ∀ b2 b3 b11 b14 b15 : Bool, ∀ i : Fin 32, bt (mkA b2 b3 b11 b14 b15) i.val = (if i.val = 2 then b2 else if i.val = 3 then b3 else if i.val = 11 then b11 else if i.val = 14 then b14 else if i.val = 15 then b15 else false) := by decide +kernel
theorem e_act {a : Int32} (h : actOK a) : a = mkA (bt a 2) (bt a 3) (bt a 11) (bt a 14) (bt a 15) := by
  apply b_ext
  intro i hi
  rw [e_mkA _ _ _ _ _ ⟨i, hi⟩]
  show bt a i = (if i = 2 then bt a 2 else if i = 3 then bt a 3 else if i = 11 then bt a 11 else if i = 14 then bt a 14 else if i = 15 then bt a 15 else false)
  by_cases h2 : i = 2
  · rw [if_pos h2, h2]
  rw [if_neg h2]
  by_cases h3 : i = 3
  · rw [if_pos h3, h3]
  rw [if_neg h3]
  by_cases h11 : i = 11
  · rw [if_pos h11, h11]
  rw [if_neg h11]
  by_cases h14 : i = 14
  · rw [if_pos h14, h14]
  rw [if_neg h14]
  by_cases h15 : i = 15
  · rw [if_pos h15, h15]
  rw [if_neg h15]
  exact h i h2 h3 h11 h14 h15
theorem e_cnt : ∀ b2 b3 b11 b14 b15 : Bool, f_ThumbCoreModel_actives (bt (mkA b2 b3 b11 b14 b15)) = f_Integer_bitCount (mkA b2 b3 b11 b14 b15) := by decide +kernel
theorem e_zero : ∀ b2 b3 b11 b14 b15 : Bool, (f_Integer_bitCount (mkA b2 b3 b11 b14 b15) = 0 ↔ mkA b2 b3 b11 b14 b15 = 0) := by decide +kernel
theorem e_pos : ∀ b2 b3 b11 b14 b15 : Bool, (f_Integer_bitCount (mkA b2 b3 b11 b14 b15) ≤ 0 ↔ mkA b2 b3 b11 b14 b15 = 0) := by decide +kernel
theorem p_actives {a : Int32} (h : actOK a) : f_ThumbCoreModel_actives (bt a) = f_Integer_bitCount a := by
  rw [e_act h]
  exact e_cnt _ _ _ _ _
theorem p_act0 {a : Int32} (h : actOK a) : f_Integer_bitCount a = 0 ↔ a = 0 := by
  rw [e_act h]
  exact e_zero _ _ _ _ _
theorem p_actle {a : Int32} (h : actOK a) : f_Integer_bitCount a ≤ 0 ↔ a = 0 := by
  rw [e_act h]
  exact e_pos _ _ _ _ _
theorem e_more (x : Int32) (h : (x &&& 3) = 0) : (if (x &&& 7) = 0 then (0 : Int32) else 4) = (x &&& 4) := by
  have h0 : bt x 0 = false := by
    have := congrArg (fun y => bt y 0) h
    simp only [b_and, b_0] at this
    have e : bt 3 0 = true := by decide
    rw [e, Bool.and_true] at this
    exact this
  have h1 : bt x 1 = false := by
    have := congrArg (fun y => bt y 1) h
    simp only [b_and, b_0] at this
    have e : bt 3 1 = true := by decide
    rw [e, Bool.and_true] at this
    exact this
  have e7 : ∀ i : Nat, i < 32 → bt 7 i = (decide (i = 0) || decide (i = 1) || decide (i = 2)) := by decide +kernel
  have e4 : ∀ i : Nat, i < 32 → bt 4 i = decide (i = 2) := by decide +kernel
  have e : x &&& 7 = x &&& 4 := by
    apply b_ext
    intro i hi
    rw [b_and, b_and, e7 i hi, e4 i hi]
    by_cases g0 : i = 0
    · subst g0
      rw [h0]
      rfl
    by_cases g1 : i = 1
    · subst g1
      rw [h1]
      rfl
    simp [g0, g1]
  rw [e]
  cases hb : bt x 2
  · have e5 : x &&& 4 = 0 := by
      apply b_ext
      intro i hi
      rw [b_and, e4 i hi, b_0]
      by_cases g : i = 2
      · rw [g, hb]
        rfl
      · simp [g]
    rw [e5]
    rfl
  · have e5 : x &&& 4 = 4 := by
      apply b_ext
      intro i hi
      rw [b_and, e4 i hi]
      by_cases g : i = 2
      · rw [g, hb]
        rfl
      · simp [g]
    rw [e5]
    rfl
/-- the k-th word that is laid down -/
def lw8 (r : Nat → Int32) (fr st mo : Int32) : Nat → Int32
  | 0 => r 0
  | 1 => r 1
  | 2 => r 2
  | 3 => r 3
  | 4 => r 12
  | 5 => r 14
  | 6 => fr
  | _ => st ||| (if mo ≤ 0 then 0 else 512)
theorem e_ms (q : Int32) (n z c v bad lk : Bool) (cu : Int32) (m m' r : Nat → Int32) (p a : Nat → Bool) (y1 y2 y3 y4 y6 : Int32) (f k : Nat) (hk : k < 8) (hw : f_ThumbCoreModel_write q bad m (y4 + (4 * nI k)) (lw8 r y2 (f_ThumbCoreModel_status n z c v cu) y3 k) 4 = (bad, m')) : k_ThumbCoreModel_enter_121 q n z c v (f + 1) bad lk cu m r p a y1 y2 y3 y4 y6 (nI k) = k_ThumbCoreModel_enter_121 q n z c v f bad lk cu m' r p a y1 y2 y3 y4 y6 (nI (k + 1)) := by
  have hk8 : k = 0 ∨ k = 1 ∨ k = 2 ∨ k = 3 ∨ k = 4 ∨ k = 5 ∨ k = 6 ∨ k = 7 := by omega
  rw [k_ThumbCoreModel_enter_121]
  unfold k_ThumbCoreModel_enter_202 k_ThumbCoreModel_enter_203
  simp only [bd]
  rw [← nI_1]
  rcases hk8 with rfl | rfl | rfl | rfl | rfl | rfl | rfl | rfl
  · rw [if_neg (by decide), if_neg (by decide)]
    exact congrArg (fun z => un2 z _) hw
  · rw [if_neg (by decide), if_neg (by decide)]
    exact congrArg (fun z => un2 z _) hw
  · rw [if_neg (by decide), if_neg (by decide)]
    exact congrArg (fun z => un2 z _) hw
  · rw [if_neg (by decide), if_neg (by decide)]
    exact congrArg (fun z => un2 z _) hw
  · rw [if_neg (by decide), if_pos (by decide), if_neg (by decide)]
    exact congrArg (fun z => un2 z _) hw
  · rw [if_neg (by decide), if_pos (by decide), if_pos (by decide), if_neg (by decide)]
    exact congrArg (fun z => un2 z _) hw
  · rw [if_neg (by decide), if_pos (by decide), if_pos (by decide), if_pos (by decide), if_neg (by decide)]
    exact congrArg (fun z => un2 z _) hw
  · rw [if_neg (by decide), if_pos (by decide), if_pos (by decide), if_pos (by decide), if_pos (by decide)]
    by_cases g : y3 ≤ 0
    · rw [if_pos g]
      have e : lw8 r y2 (f_ThumbCoreModel_status n z c v cu) y3 7 = (f_ThumbCoreModel_status n z c v cu ||| 0) := by
        show (_ ||| (if y3 ≤ 0 then 0 else 512)) = _
        rw [if_pos g]
      rw [e] at hw
      exact congrArg (fun z => un2 z _) hw
    · rw [if_neg g]
      have e : lw8 r y2 (f_ThumbCoreModel_status n z c v cu) y3 7 = (f_ThumbCoreModel_status n z c v cu ||| 512) := by
        show (_ ||| (if y3 ≤ 0 then 0 else 512)) = _
        rw [if_neg g]
      rw [e] at hw
      exact congrArg (fun z => un2 z _) hw
theorem e_w {q : Int32} {nw : Nat} (hm : tc_mem q nw) (w : Nat → Int32) (bad : Bool) {j k : Nat} (hj : j % 4 = 0) (hl : j + 32 ≤ 4 * nw) (hk : k < 8) (x : Int32) : f_ThumbCoreModel_write q bad (byt w) (nI j + (4 * nI k)) x 4 = (bad, byt (f_Memory_putWord w (nI j + (4 * nI k)) x)) := by
  have hms := hm
  obtain ⟨m1, m2, m3⟩ := hms
  rw [y_4k k (by omega), nI_add, p_write hm w bad _ x 4 (Or.inr (Or.inr rfl)), if_pos ((y_is4 hm _).mpr ⟨j + 4 * k, rfl, by omega, by omega⟩), p_put w x (by omega) (by omega)]
/-- eight words laid down from at on -/
def lay8 (w : Nat → Int32) (at0 : Int32) (x : Nat → Int32) : Nat → Nat → Int32
  | 0 => w
  | k + 1 => f_Memory_putWord (lay8 w at0 x k) (at0 + (4 * nI k)) (x k)
theorem e_loop {q : Int32} {nw : Nat} (hm : tc_mem q nw) (n z c v bad lk : Bool) (cu : Int32) (w r : Nat → Int32) (p a : Nat → Bool) (y1 y2 y3 y6 : Int32) {j : Nat} (hj : j % 4 = 0) (hl : j + 32 ≤ 4 * nw) : ∀ k : Nat, k ≤ 8 → k_ThumbCoreModel_enter_121 q n z c v 9 bad lk cu (byt w) r p a y1 y2 y3 (nI j) y6 (nI 0) = k_ThumbCoreModel_enter_121 q n z c v (9 - k) bad lk cu (byt (lay8 w (nI j) (lw8 r y2 (f_ThumbCoreModel_status n z c v cu) y3) k)) r p a y1 y2 y3 (nI j) y6 (nI k) := by
  intro k
  induction k with
  | zero =>
    intro _
    rfl
  | succ k ih =>
    intro hk
    rw [ih (by omega)]
    have e : 9 - k = (9 - (k + 1)) + 1 := by omega
    rw [e]
    exact e_ms q n z c v bad lk cu _ _ r p a y1 y2 y3 (nI j) y6 _ k (by omega) (e_w hm _ bad hj hl (by omega) _)
theorem e_c66 (q : Int32) (n z c v lk : Bool) (w r : Nat → Int32) (p a cu y1 y2 y3 y4 y5 : Int32) : k_ThumbCore_enter_66 q n z c v 7 lk w r p a cu y1 y2 y3 y4 y5 0 = (if y3 = 0 then k_ThumbCore_enter_143 q n z c v lk (lay8 w y4 (lw8 r y2 (f_ThumbCore_status n z c v cu) y3) 7) r p a cu y1 y4 y5 (y4 + 28) (f_ThumbCore_status n z c v cu) 0 else k_ThumbCore_enter_143 q n z c v lk (lay8 w y4 (lw8 r y2 (f_ThumbCore_status n z c v cu) y3) 7) r p a cu y1 y4 y5 (y4 + 28) (f_ThumbCore_status n z c v cu) 512) := rfl
theorem e_46 (q : Int32) (n z c v : Bool) (bad lk : Bool) (cu : Int32) (m r : Nat → Int32) (p a : Nat → Bool) (y1 y2 y3 y4 : Int32) : ∀ (f k : Nat) (b : Bool), k + f = 8 → k_ThumbCoreModel_enter_46 q n z c v (f + 1) bad lk cu m r p a y1 y2 y3 y4 b (nI k) = (if (b && allF q y4 k f) = true then un2 (f_ThumbCoreModel_read q m bad (4 * y1) 4) (fun r1 s2 => k_ThumbCoreModel_enter_103 q n z c v s2 lk cu m r p a y1 y2 y3 y4 r1) else k_ThumbCoreModel_enter_103 q n z c v bad lk cu m r p a y1 y2 y3 y4 0) := by
  intro f
  induction f with
  | zero =>
    intro k b h
    have h8 : k = 8 := by omega
    subst h8
    rw [k_ThumbCoreModel_enter_46, if_pos (by decide)]
    cases b
    · rw [if_pos (by decide)]
      rfl
    · rw [if_neg (by decide)]
      rfl
  | succ f ih =>
    intro k b h
    rw [k_ThumbCoreModel_enter_46]
    unfold k_ThumbCoreModel_enter_77 k_ThumbCoreModel_enter_78
    have g8 : ¬ (8 : Int32) ≤ nI k := nI_ge (a := k) (b := 8) (by omega) (by decide)
    rw [if_neg g8]
    simp only [bd]
    rw [p_there _ _ _ (Or.inr (Or.inr rfl)), y_4k k (by omega), nI_1]
    show _ = (if (b && (f_Memory_isThere q (y4 + nI (4 * k)) 4 && allF q y4 (k + 1) f)) = true then _ else _)
    cases b
    · rw [if_pos (by decide), ih (k + 1) false (by omega)]
      simp
    · rw [if_neg (by decide)]
      cases f_Memory_isThere q (y4 + nI (4 * k)) 4
      · rw [if_pos (by decide), ih (k + 1) false (by omega)]
        simp
      · rw [if_neg (by decide), ih (k + 1) true (by omega)]
        simp
theorem e_comm (r : Nat → Int32) (x y : Int32) : upd (upd r (14 : Int32).toNatClampNeg x) (13 : Int32).toNatClampNeg y = upd (upd r (13 : Int32).toNatClampNeg y) (14 : Int32).toNatClampNeg x := by
  have e13 : (13 : Int32).toNatClampNeg = 13 := by decide
  have e14 : (14 : Int32).toNatClampNeg = 14 := by decide
  rw [e13, e14]
  funext i
  unfold upd
  by_cases h : i = 13
  · subst h
    rfl
  · rw [if_neg h, if_neg h]
/-- the class's state behind entering, seen as the reference's -/
def entR (bad : Bool) (t : Bool × (Nat → Int32) × (Nat → Int32) × Int32 × Int32 × Int32) : Bool × Bool × Int32 × (Nat → Int32) × (Nat → Int32) × (Nat → Bool) × (Nat → Bool) := (bad, t.1, t.2.2.2.2.2, byt t.2.1, t.2.2.1, bt t.2.2.2.1, bt t.2.2.2.2.1)
theorem p_enter {q : Int32} {nw : Nat} (hm : tc_mem q nw) (n z c v bad lk : Bool) (w r : Nat → Int32) (p a cu e fr : Int32) (hsp : (r (13 : Int32).toNatClampNeg &&& 3) = 0) (he : vp_in e 16) (ha : actOK a) : f_ThumbCoreModel_enter q n z c v bad lk cu (byt w) r (bt p) (bt a) e fr = entR bad (f_ThumbCore_enter q n z c v lk w r p a cu e fr) := by
  obtain ⟨i, hi, rfl⟩ := vp_in_of he (by decide)
  have hms := hm
  obtain ⟨m1, m2, m3⟩ := hms
  have hst : f_ThumbCoreModel_status n z c v cu = f_ThumbCore_status n z c v cu := p_status n z c v cu
  have hmo := e_more _ hsp
  have ht : f_Memory_isThere q (4 * nI i) 4 = true := by
    rw [y_4k i (by omega)]
    exact (y_is4 hm _).mpr ⟨4 * i, rfl, by omega, by omega⟩
  have hword : f_Memory_read w (4 * nI i) 4 = f_Memory_word w (4 * nI i) := by
    rw [y_4k i (by omega)]
    exact (p_word w (by omega) (by omega)).symm
  have hmodel : f_ThumbCoreModel_enter q n z c v bad lk cu (byt w) r (bt p) (bt a) (nI i) fr = k_ThumbCoreModel_enter_18 q n z c v bad lk cu (byt w) r (bt p) (bt a) (nI i) fr (r (13 : Int32).toNatClampNeg &&& 4) := by
    unfold f_ThumbCoreModel_enter
    rw [← hmo]
    split <;> rfl
  rw [hmodel]
  unfold k_ThumbCoreModel_enter_18 f_ThumbCore_enter
  simp only [bd]
  generalize hat : ((r (13 : Int32).toNatClampNeg - 32) - (r (13 : Int32).toNatClampNeg &&& 4)) = at0
  generalize hmoe : (r (13 : Int32).toNatClampNeg &&& 4) = mo at hmo
  have hmo2 : mo = 0 ∨ mo = 4 := by
    rw [← hmo]
    split
    · exact Or.inl rfl
    · exact Or.inr rfl
  have e0 : (0 : Int32) = nI 0 := by decide
  have hall : allF q at0 0 8 = f_Memory_areThere q at0 8 := by
    have e1 := y_NF q at0 8 0
    have e2 : allN q at0 0 = true := rfl
    rw [Nat.zero_add, e2, Bool.true_and] at e1
    rw [← e1]
    exact y_all hm at0 (by decide) (by decide)
  rw [p_there _ _ _ (Or.inr (Or.inr rfl)), ht]
  have h46 := e_46 q n z c v bad lk cu (byt w) r (bt p) (bt a) (nI i) fr mo at0 8 0 true (by decide)
  rw [Bool.true_and, hall, p_read hm w bad (4 * nI i) 4 (Or.inr (Or.inr rfl)), if_pos ht, hword] at h46
  refine h46.trans ?_
  by_cases har : f_Memory_areThere q at0 8 = true
  · rw [if_pos har, har, if_neg (by decide)]
    show k_ThumbCoreModel_enter_103 q n z c v bad lk cu (byt w) r (bt p) (bt a) (nI i) fr mo at0 (f_Memory_word w (4 * nI i)) = _
    unfold k_ThumbCoreModel_enter_103
    by_cases hod : ¬ (f_Memory_word w (4 * nI i) &&& 1) = 0
    · rw [if_pos hod, if_pos hod]
      obtain ⟨j, rfl, hj, hl⟩ := (y_areI hm at0 (n := 8) (by decide)).mp har
      have hl' : j + 32 ≤ 4 * nw := by omega
      have h121 := e_loop hm n z c v bad lk cu w r (bt p) (bt a) (nI i) fr mo (f_Memory_word w (4 * nI i)) hj hl' 8 (by decide)
      refine h121.trans ?_
      rw [e_c66, hst]
      have e28 : (28 : Int32) = 4 * nI 7 := by decide
      have hlast : ∀ x : Int32, ((mo = 0 ∧ x = 0) ∨ (¬ mo = 0 ∧ x = 512)) → f_Memory_putWord (lay8 w (nI j) (lw8 r fr (f_ThumbCore_status n z c v cu) mo) 7) (nI j + 28) (f_ThumbCore_status n z c v cu ||| x) = lay8 w (nI j) (lw8 r fr (f_ThumbCore_status n z c v cu) mo) 8 := by
        intro x hx
        have ex : (if mo ≤ 0 then (0 : Int32) else 512) = x := by
          rcases hx with ⟨h1, h2⟩ | ⟨h1, h2⟩
          · rw [h1, h2]
            rfl
          · have h4 : mo = 4 := hmo2.resolve_left h1
            rw [h4, h2]
            rfl
        rw [e28]
        show _ = f_Memory_putWord (lay8 w (nI j) (lw8 r fr (f_ThumbCore_status n z c v cu) mo) 7) (nI j + (4 * nI 7)) (f_ThumbCore_status n z c v cu ||| (if mo ≤ 0 then 0 else 512))
        rw [ex]
      have hcls : (if mo = 0 then k_ThumbCore_enter_143 q n z c v lk (lay8 w (nI j) (lw8 r fr (f_ThumbCore_status n z c v cu) mo) 7) r p a cu (nI i) (nI j) (f_Memory_word w (4 * nI i)) (nI j + 28) (f_ThumbCore_status n z c v cu) 0 else k_ThumbCore_enter_143 q n z c v lk (lay8 w (nI j) (lw8 r fr (f_ThumbCore_status n z c v cu) mo) 7) r p a cu (nI i) (nI j) (f_Memory_word w (4 * nI i)) (nI j + 28) (f_ThumbCore_status n z c v cu) 512) = (if ¬ a = 0 then k_ThumbCore_enter_179 q n z c v lk (lay8 w (nI j) (lw8 r fr (f_ThumbCore_status n z c v cu) mo) 8) (upd r (13 : Int32).toNatClampNeg (nI j)) p a cu (nI i) (f_Memory_word w (4 * nI i)) (-15) else k_ThumbCore_enter_179 q n z c v lk (lay8 w (nI j) (lw8 r fr (f_ThumbCore_status n z c v cu) mo) 8) (upd r (13 : Int32).toNatClampNeg (nI j)) p a cu (nI i) (f_Memory_word w (4 * nI i)) (-7)) := by
        unfold k_ThumbCore_enter_143
        simp only [bd]
        by_cases g : mo = 0
        · rw [if_pos g, hlast 0 (Or.inl ⟨g, rfl⟩)]
        · rw [if_neg g, hlast 512 (Or.inr ⟨g, rfl⟩)]
      rw [hcls]
      rw [show (9 - 8 : Nat) = 0 + 1 from rfl, k_ThumbCoreModel_enter_121, if_pos (by decide)]
      simp only [bd]
      rw [p_actives ha]
      unfold k_ThumbCoreModel_enter_245 k_ThumbCore_enter_179 f_Exceptions_begin entR
      simp only [bd]
      have ec : (nI i).toNatClampNeg = i := nI_clamp (by omega)
      rw [ec, e_comm, e_comm, ← x_set a (e := i) (by omega), ← x_clr p (e := i) (by omega)]
      by_cases g : a = 0
      · have g2 := (p_act0 ha).mpr g
        rw [if_neg (fun q => q g2), if_neg (fun q => q g)]
        rfl
      · have g2 : ¬ f_Integer_bitCount a = 0 := fun q => g ((p_act0 ha).mp q)
        rw [if_pos g2, if_pos g]
        rfl
    · rw [if_neg hod, if_neg hod]
      rfl
  · have har2 : f_Memory_areThere q at0 8 = false := by simpa using har
    rw [if_neg har, har2, if_pos (by decide)]
    rfl

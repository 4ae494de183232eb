/-- SP is a multiple of four -/
def spOK (r : Nat → Int32) : Prop := (r (13 : Int32).toNatClampNeg &&& 3) = 0
theorem iv_ite {α : Type} {P : α → Prop} {c : Prop} [Decidable c] {a b : α} (ha : P a) (hb : P b) : P (if c then a else b) := by
  by_cases h : c
  · rw [if_pos h]
    exact ha
  · rw [if_neg h]
    exact hb
theorem iv_itc {α : Type} {P : α → Prop} {c : Prop} [Decidable c] {a b : α} (ha : c → P a) (hb : ¬ c → P b) : P (if c then a else b) := by
  by_cases h : c
  · rw [if_pos h]
    exact ha h
  · rw [if_neg h]
    exact hb h
theorem iv_c13 : (13 : Int32).toNatClampNeg = 13 := by decide
theorem sp_upd {r : Nat → Int32} {k : Nat} {v : Int32} (h : spOK r) (hk : k ≠ 13) : spOK (upd r k v) := by
  unfold spOK upd
  rw [if_neg (by rw [iv_c13]; exact fun e => hk e.symm)]
  exact h
theorem sp_set {r : Nat → Int32} {v : Int32} (h : (v &&& 3) = 0) : spOK (upd r (13 : Int32).toNatClampNeg v) := by
  unfold spOK
  rw [tc_updS]
  exact h
theorem iv_7 (x : Int32) : (x &&& 7).toNatClampNeg ≠ 13 := by
  obtain ⟨m, hm, e⟩ := vp_in_of (pk_andIn x (m := 7) 3 (by decide) (by decide)) (by decide)
  rw [e, nI_clamp (by omega)]
  omega
theorem sp7 {r : Nat → Int32} (h : spOK r) (x v : Int32) : spOK (upd r (x &&& 7).toNatClampNeg v) := sp_upd h (iv_7 x)
theorem sp14 {r : Nat → Int32} (h : spOK r) (v : Int32) : spOK (upd r (14 : Int32).toNatClampNeg v) := sp_upd h (by decide)
theorem sp15 {r : Nat → Int32} (h : spOK r) (v : Int32) : spOK (upd r (15 : Int32).toNatClampNeg v) := sp_upd h (by decide)
theorem m4_iff (x : Int32) : (x &&& 3) = 0 ↔ x.toBitVec.toNat % 4 = 0 := by
  have e3 : (3 : Int32).toBitVec.toNat = 2 ^ 2 - 1 := by decide
  have e0 : (0 : Int32).toBitVec.toNat = 0 := by decide
  rw [← Int32.toBitVec_inj, Int32.toBitVec_and, ← BitVec.toNat_inj, BitVec.toNat_and, e3, e0, Nat.and_two_pow_sub_one_eq_mod]
theorem m4_add {x y : Int32} (hx : (x &&& 3) = 0) (hy : (y &&& 3) = 0) : ((x + y) &&& 3) = 0 := by
  rw [m4_iff] at hx hy ⊢
  rw [Int32.toBitVec_add, BitVec.toNat_add]
  omega
theorem m4_sub {x y : Int32} (hx : (x &&& 3) = 0) (hy : (y &&& 3) = 0) : ((x - y) &&& 3) = 0 := by
  rw [m4_iff] at hx hy ⊢
  rw [Int32.toBitVec_sub, BitVec.toNat_sub]
  omega
theorem m4_neg {x : Int32} (hx : (x &&& 3) = 0) : ((-x) &&& 3) = 0 := by
  rw [m4_iff] at hx ⊢
  rw [Int32.toBitVec_neg, BitVec.toNat_neg]
  omega
theorem m4_mul (y : Int32) : ((4 * y) &&& 3) = 0 := by
  have e4 : (4 : Int32).toBitVec.toNat = 4 := by decide
  rw [m4_iff, Int32.toBitVec_mul, BitVec.toNat_mul, e4]
  omega
theorem m4_and {x y : Int32} (hy : (y &&& 3) = 0) : ((x &&& y) &&& 3) = 0 := by
  rw [Int32.and_assoc, hy, Int32.and_zero]
def P5 (t : Bool × (Nat → Int32) × Bool × Bool × Bool) : Prop := spOK t.2.1
def P6 (t : Bool × (Nat → Int32) × Bool × Bool × Bool × Bool) : Prop := spOK t.2.1
def P3 (t : Bool × (Nat → Int32) × (Nat → Int32)) : Prop := spOK t.2.2
def P2 (t : Bool × (Nat → Int32)) : Prop := spOK t.2
theorem iv_moveByConstant {r : Nat → Int32} (h : spOK r) (n z c : Bool) (x : Int32) : spOK (f_ThumbCore_moveByConstant r n z c x).2.1 := by
  unfold f_ThumbCore_moveByConstant
  rw [bd_eq, bd_eq, bd_eq]
  refine iv_ite (P := P5) ?_ (iv_ite (P := P5) (iv_ite (P := P5) ?_ ?_) (iv_ite (P := P5) ?_ ?_))
  all_goals exact sp7 h x _
theorem iv_addThree {r : Nat → Int32} (h : spOK r) (n z c v : Bool) (x : Int32) : spOK (f_ThumbCore_addThree r n z c v x).2.1 := by
  have e68 : ∀ (y4 : Bool) (y5 z0 : Int32), spOK (k_ThumbCore_addThree_68 r n z c v x y4 y5 z0).2.1 := by
    intro y4 y5 z0
    unfold k_ThumbCore_addThree_68
    refine iv_ite (P := P6) ?_ ?_
    all_goals exact sp7 h x _
  have e39 : ∀ (y2 : Int32) (y3 z0 : Bool), spOK (k_ThumbCore_addThree_39 r n z c v x y2 y3 z0).2.1 := by
    intro y2 y3 z0
    unfold k_ThumbCore_addThree_39
    rw [bd_eq]
    exact iv_ite (P := P6) (e68 _ _ _) (e68 _ _ _)
  have e23 : ∀ (y2 : Int32) (z0 : Bool), spOK (k_ThumbCore_addThree_23 r n z c v x y2 z0).2.1 := by
    intro y2 z0
    unfold k_ThumbCore_addThree_23
    exact iv_ite (P := P6) (e39 _ _ _) (e39 _ _ _)
  unfold f_ThumbCore_addThree
  rw [bd_eq]
  exact iv_ite (P := P6) (e23 _ _) (e23 _ _)
theorem iv_withByte {r : Nat → Int32} (h : spOK r) (n z c v : Bool) (x : Int32) : spOK (f_ThumbCore_withByte r n z c v x).2.1 := by
  unfold f_ThumbCore_withByte
  rw [bd_eq, bd_eq]
  refine iv_ite (P := P6) ?_ (iv_ite (P := P6) ?_ (iv_ite (P := P6) ?_ ?_))
  · exact sp7 h _ _
  · exact h
  · exact sp7 h _ _
  · exact sp7 h _ _
theorem iv_combine {r : Nat → Int32} (h : spOK r) (n z c v : Bool) (x : Int32) : spOK (f_ThumbCore_combine r n z c v x).2.1 := by
  have e60 : ∀ (n z c v : Bool) (y4 : Int32) (b : Bool), spOK (k_ThumbCore_combine_60 r n z c v (x &&& 7) y4 b).2.1 := by
    intro n z c v y4 b
    unfold k_ThumbCore_combine_60
    exact iv_ite (P := P6) h (sp7 h x _)
  unfold f_ThumbCore_combine
  rw [bd_eq, bd_eq]
  unfold un5
  refine iv_ite (P := P6) (e60 _ _ _ _ _ _) (iv_ite (P := P6) (e60 _ _ _ _ _ _) (iv_ite (P := P6) (e60 _ _ _ _ _ _) (e60 _ _ _ _ _ _)))
theorem iv_load {r : Nat → Int32} (h : spOK r) (q : Int32) (w : Nat → Int32) (x a n : Int32) : spOK (f_ThumbCore_load q w r (x &&& 7) a n).2 := by
  unfold f_ThumbCore_load
  rw [bd_eq]
  exact iv_ite (P := P2) (sp7 h x _) h
theorem iv_loadSigned {r : Nat → Int32} (h : spOK r) (q : Int32) (w : Nat → Int32) (x a n : Int32) : spOK (f_ThumbCore_loadSigned q w r (x &&& 7) a n).2 := by
  unfold f_ThumbCore_loadSigned
  rw [bd_eq]
  exact iv_ite (P := P2) (iv_ite (P := P2) (sp7 h x _) (sp7 h x _)) h
theorem iv_fromBase {r : Nat → Int32} (h : spOK r) (q : Int32) (w : Nat → Int32) (x : Int32) : spOK (f_ThumbCore_fromBase q w r x).2.2 := by
  unfold f_ThumbCore_fromBase
  rw [bd_eq, bd_eq, bd_eq, bd_eq]
  refine iv_ite (P := P3) (iv_load h q w _ _ _) (iv_ite (P := P3) h (iv_ite (P := P3) (iv_load h q w _ _ _) (iv_ite (P := P3) (sp7 h _ _) (sp7 h _ _))))
theorem iv_atSum {r : Nat → Int32} (h : spOK r) (q : Int32) (w : Nat → Int32) (x : Int32) : spOK (f_ThumbCore_atSum q w r x).2.2 := by
  unfold f_ThumbCore_atSum
  rw [bd_eq, bd_eq]
  refine iv_ite (P := P3) h (iv_ite (P := P3) h (iv_ite (P := P3) h (iv_ite (P := P3) (iv_loadSigned h q w _ _ _) (iv_ite (P := P3) (iv_load h q w _ _ _) (iv_ite (P := P3) (iv_load h q w _ _ _) (iv_ite (P := P3) (iv_load h q w _ _ _) (iv_loadSigned h q w _ _ _)))))))
theorem iv_atOffset {r : Nat → Int32} (h : spOK r) (q : Int32) (w : Nat → Int32) (x : Int32) : spOK (f_ThumbCore_atOffset q w r x).2.2 := by
  unfold f_ThumbCore_atOffset
  rw [bd_eq, bd_eq, bd_eq]
  refine iv_ite (P := P3) h (iv_ite (P := P3) (iv_load h q w _ _ _) (iv_ite (P := P3) h (iv_ite (P := P3) (iv_load h q w _ _ _) (iv_ite (P := P3) h (iv_load h q w _ _ _)))))
theorem iv_moveStack {r : Nat → Int32} (h : spOK r) (x : Int32) : spOK (f_ThumbCore_moveStack r x) := by
  unfold f_ThumbCore_moveStack
  rw [bd_eq]
  refine iv_ite (P := spOK) ?_ ?_
  · exact sp_set (m4_add h (m4_mul _))
  · exact sp_set (m4_add h (m4_neg (m4_mul _)))
theorem iv_push {r : Nat → Int32} (h : spOK r) (q : Int32) (w : Nat → Int32) (l : Int32) : spOK (f_ThumbCore_push q w r l).2.2 := by
  unfold f_ThumbCore_push
  rw [bd_eq, bd_eq, bd_eq]
  exact iv_ite (P := P3) (sp_set (m4_sub h (m4_mul _))) h
theorem iv_behind {a : Int32} (h : (a &&& 3) = 0) (l : Int32) : (f_ThumbCore_behind l a &&& 3) = 0 := m4_add h (m4_mul _)
theorem iv_pop {r : Nat → Int32} (h : spOK r) (q : Int32) (w : Nat → Int32) (l : Int32) : spOK (f_ThumbCore_pop q w r l).2 := by
  unfold f_ThumbCore_pop
  rw [bd_eq, bd_eq]
  exact iv_ite (P := P2) (sp_set (iv_behind h _)) h
theorem iv_swapBytes {r : Nat → Int32} (h : spOK r) (x : Int32) : spOK (f_ThumbCore_swapBytes r x).2 := by
  unfold f_ThumbCore_swapBytes
  rw [bd_eq, bd_eq, bd_eq]
  exact iv_ite (P := P2) (sp7 h _ _) (iv_ite (P := P2) (sp7 h _ _) (iv_ite (P := P2) (sp7 h _ _) h))
theorem iv_storeMany {r : Nat → Int32} (h : spOK r) (q : Int32) (w : Nat → Int32) (x l : Int32) : spOK (f_ThumbCore_storeMany q w r (x &&& 7) l).2.2 := by
  have e50 : ∀ y3 : Int32, spOK (k_ThumbCore_storeMany_50 q w r (x &&& 7) l y3).2.2 := by
    intro y3
    unfold k_ThumbCore_storeMany_50
    rw [bd_eq]
    exact iv_ite (P := P3) (sp7 h x _) h
  have e38 : ∀ (y3 : Int32) (y4 z0 : Bool), spOK (k_ThumbCore_storeMany_38 q w r (x &&& 7) l y3 y4 z0).2.2 := by
    intro y3 y4 z0
    unfold k_ThumbCore_storeMany_38
    exact iv_ite (P := P3) (e50 _) (iv_ite (P := P3) h (e50 _))
  have e21 : ∀ (y3 : Int32) (z0 : Bool), spOK (k_ThumbCore_storeMany_21 q w r (x &&& 7) l y3 z0).2.2 := by
    intro y3 z0
    unfold k_ThumbCore_storeMany_21
    exact iv_ite (P := P3) (e38 _ _ _) (e38 _ _ _)
  unfold f_ThumbCore_storeMany
  rw [bd_eq]
  exact iv_ite (P := P3) (e21 _ _) (e21 _ _)
theorem iv_cl13 {k : Int32} (h : k.toNatClampNeg = 13) : k = 13 := by
  have e13 : (13 : Int32).toInt = 13 := by decide
  have h2 : k.toInt.toNat = 13 := h
  rw [← Int32.toInt_inj, e13]
  omega
theorem iv_l13 (l : Int32) : ¬ (o_iushr (l &&& 255) 13 &&& 1) = 1 := by
  have e : bt 255 13 = false := by decide
  have hb := x_bit (l &&& 255) (j := 13) (by decide)
  intro k
  have k2 := hb.mp k
  rw [b_and, e, Bool.and_false] at k2
  cases k2
theorem iv_readList (w : Nat → Int32) (l : Int32) : ∀ (f : Nat) (r : Nat → Int32) (a k : Int32), spOK r → spOK (k_ThumbCore_readList_5 w f r (l &&& 255) a k) := by
  intro f
  induction f with
  | zero =>
    intro r a k h
    exact h
  | succ f ih =>
    intro r a k h
    unfold k_ThumbCore_readList_5 k_ThumbCore_readList_40
    refine iv_ite (P := spOK) h (iv_itc (P := spOK) ?_ ?_)
    · intro _
      exact ih _ _ _ h
    · intro g
      refine ih _ _ _ (sp_upd h ?_)
      intro e
      rw [iv_cl13 e] at g
      exact g (iv_l13 l)
theorem iv_loadMany {r : Nat → Int32} (h : spOK r) (q : Int32) (w : Nat → Int32) (x l : Int32) : spOK (f_ThumbCore_loadMany q w r (x &&& 7) (l &&& 255)).2 := by
  unfold f_ThumbCore_loadMany
  rw [bd_eq, bd_eq]
  exact iv_ite (P := P2) (iv_readList w l 16 _ _ _ (sp7 h x _)) h
theorem iv_branchFar {r : Nat → Int32} (h : spOK r) (q : Int32) (w : Nat → Int32) (nx x : Int32) : spOK (f_ThumbCore_branchFar q w nx r x).2.2 := by
  unfold f_ThumbCore_branchFar
  rw [bd_eq, bd_eq]
  exact iv_ite (P := fun t : Bool × Int32 × (Nat → Int32) => spOK t.2.2) (iv_ite (P := fun t : Bool × Int32 × (Nat → Int32) => spOK t.2.2) h (iv_ite (P := fun t : Bool × Int32 × (Nat → Int32) => spOK t.2.2) (sp14 h _) h)) h
theorem iv_put {r : Nat → Int32} (h : spOK r) (nx x y : Int32) : spOK (f_ThumbCore_put nx r x y).2 := by
  unfold f_ThumbCore_put
  refine iv_ite (P := fun t : Int32 × (Nat → Int32) => spOK t.2) ?_ h
  show spOK (upd r x.toNatClampNeg (f_ThumbCore_fitting x y))
  by_cases g : x.toNatClampNeg = 13
  · have e := iv_cl13 g
    subst e
    exact sp_set (m4_and (by decide))
  · exact sp_upd h g

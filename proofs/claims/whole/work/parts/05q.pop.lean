theorem l_mb {M : Int32} {k : Nat} (hk : k < 32) : (o_ishr M (nI k) &&& 1) = 1 ↔ bt M k = true := by
  rw [s_is1, s_sshr M hk (by decide)]
  have e : min (k + 0) 31 = k := by omega
  rw [e]
theorem l_mr {q : Int32} {nw : Nat} (hm : tc_mem q nw) (h : Int32) (w : Nat → Int32) (n z c v : Bool) (af cu : Int32) (a : Nat → Bool) (M : Int32) : ∀ (f k j : Nat) (r : Nat → Int32), k + f = 8 → j % 4 = 0 → j + 4 * (sel M k f).length ≤ 4 * nw → k_ThumbCoreModel_pop_48 q h (byt w) (f + 1) n z c v false af cu r a M (nI j) (nI k) = k_ThumbCoreModel_pop_94 q h (byt w) n z c v false af cu (rl w r (nI j) (sel M k f)) a M (nI (j + 4 * (sel M k f).length)) := by
  have b0 : ¬ ¬ bI false = 0 := by decide
  intro f
  induction f with
  | zero =>
    intro k j r h8 hj hl
    have e8 : k = 8 := by omega
    subst e8
    have g : (8 : Int32) ≤ nI 8 := by decide
    rw [k_ThumbCoreModel_pop_48, if_pos g, sel_0]
    rfl
  | succ f ih =>
    intro k j r h8 hj hl
    have g : ¬ (8 : Int32) ≤ nI k := nI_ge (a := k) (b := 8) (by omega) (by decide)
    have hb := l_mb (M := M) (k := k) (by omega)
    rw [k_ThumbCoreModel_pop_48, if_neg g, if_neg b0]
    unfold k_ThumbCoreModel_pop_88
    by_cases c1 : bt M k = true
    · have n1 : ¬ ¬ (o_ishr M (nI k) &&& 1) = 1 := fun q => q (hb.mpr c1)
      rw [sel_1 c1, List.length_cons] at hl ⊢
      rw [if_neg n1, l_r hm w hj (by omega), z_un2, l_4, nI_1, nI_clamp (by omega), ih (k + 1) (j + 4) _ (by omega) (by omega) (by omega)]
      have e : j + 4 + 4 * (sel M (k + 1) f).length = j + 4 * ((sel M (k + 1) f).length + 1) := by omega
      rw [e]
      show _ = k_ThumbCoreModel_pop_94 q h (byt w) n z c v false af cu (rl w (upd r k (f_Memory_word w (nI j))) (nI j + 4) (sel M (k + 1) f)) a M _
      rw [l_4]
    · have n1 : ¬ (o_ishr M (nI k) &&& 1) = 1 := fun q => c1 (hb.mp q)
      rw [sel_n c1] at hl ⊢
      rw [if_pos n1, nI_1, ih (k + 1) j r (by omega) hj hl]
theorem l_pd4 : ∀ j : Fin 256, sel (nI j.val) 0 15 = sel (nI j.val) 0 8 ∧ f_ThumbCoreModel_listed (nI j.val) = nI (sel (nI j.val) 0 8).length ∧ f_Integer_bitCount (nI j.val) = nI (sel (nI j.val) 0 8).length ∧ (sel (nI j.val) 0 8).length ≤ 8 ∧ (nI j.val = 0 ↔ (sel (nI j.val) 0 8).length = 0) := by decide +kernel
theorem l_pd5 : ∀ j : Fin 256, sel (nI j.val) 0 15 = sel (nI (256 + j.val)) 0 8 ∧ f_ThumbCoreModel_listed (nI (256 + j.val)) = nI ((sel (nI (256 + j.val)) 0 8).length + 1) ∧ f_Integer_bitCount (nI j.val) = nI (sel (nI (256 + j.val)) 0 8).length ∧ (sel (nI (256 + j.val)) 0 8).length ≤ 8 := by decide +kernel
theorem l_beh {L a : Int32} {N : Nat} (hb : f_Integer_bitCount L = nI N) (hN : N ≤ 16) {j : Nat} (ea : a = nI j) : f_ThumbCore_behind L a = nI (j + 4 * N) := by
  rw [f_ThumbCore_behind, bd_eq, hb, y_4k N (by omega), ea, nI_add]
theorem hi_rl (w : Nat → Int32) : ∀ (l : List Nat) (f r : Nat → Int32) (a : Int32), (∀ x ∈ l, x < 16) → hi16 f r → hi16 (rl w f a l) r := by
  intro l
  induction l with
  | nil =>
    intro f r a _ h
    exact h
  | cons i l ih =>
    intro f r a hl h
    exact ih _ r _ (fun x hx => hl x (List.mem_cons.mpr (Or.inr hx))) (hi_upd (hl i (List.mem_cons.mpr (Or.inl rfl))) h)
theorem sel_lt (M : Int32) {k f : Nat} (h : k + f ≤ 16) : ∀ x ∈ sel M k f, x < 16 := by
  intro x hx
  unfold sel at hx
  have h1 := (List.mem_filter.mp hx).1
  have h2 := List.mem_range'_1.mp h1
  omega
/-- pop without going -/
theorem p_pop {q : Int32} {nw : Nat} (hm : tc_mem q nw) (h : Int32) (w r : Nat → Int32) (n z c v : Bool) (af cu : Int32) (a : Nat → Bool) {j0 : Nat} (hj0 : j0 < 256) (hM : h &&& 511 = nI j0) : ((f_ThumbCore_pop q w r (nI j0)).1 = true ∧ f_ThumbCoreModel_pop q h (byt w) n z c v false af cu r a = (n, z, c, v, false, af, cu, (f_ThumbCore_pop q w r (nI j0)).2, a)) ∨ (f_ThumbCore_pop q w r (nI j0) = (false, r) ∧ ∃ r' : Nat → Int32, f_ThumbCoreModel_pop q h (byt w) n z c v false af cu r a = (n, z, c, v, true, af, cu, r', a) ∧ hi16 r' r) := by
  have b0 : ¬ ¬ bI false = 0 := by decide
  have b1 : ¬ bI true = 0 := by decide
  obtain ⟨h1, h2, h3, h5, h6⟩ := l_pd4 ⟨j0, hj0⟩
  dsimp only at h1 h2 h3 h5 h6
  have hbad : ∀ (y1 y3 : Int32), k_ThumbCoreModel_pop_37 q h (byt w) n z c v false af cu r a y1 y3 = (n, z, c, v, true, af, cu, upd r (13 : Int32).toNatClampNeg y3, a) := by
    intro y1 y3
    rfl
  have hle : nI j0 ≤ 255 := nI_le (b := 255) (by omega) (by decide)
  unfold f_ThumbCoreModel_pop f_ThumbCore_pop
  simp only [bd]
  rw [hM, h2]
  generalize hsp : r (13 : Int32).toNatClampNeg = sp
  by_cases hN : (sel (nI j0) 0 8).length = 0
  · have g : nI (sel (nI j0) 0 8).length = 0 := by rw [hN]; decide
    rw [if_pos g, h6.mpr hN, l_are0, if_neg b0, hbad]
    exact Or.inr ⟨rfl, _, rfl, hi_upd (by decide) (hi_r r)⟩
  · have g : ¬ nI (sel (nI j0) 0 8).length = 0 := nI_ne0 (by omega) (by omega)
    have gL : ¬ nI j0 = 0 := fun k => hN (h6.mp k)
    rw [if_neg g, l_areN gL h3, p_allThere hm _ (by omega) (by omega)]
    by_cases har : f_Memory_areThere q sp (nI (sel (nI j0) 0 8).length) = true
    · rw [har, if_pos b1, if_pos b1]
      obtain ⟨j, ej, hj, hl⟩ := (y_areI hm sp (n := (sel (nI j0) 0 8).length) (by omega)).mp har
      have hp := l_mr hm h w n z c v af cu a (nI j0) 8 0 j r (by decide) hj hl
      refine Or.inl ⟨rfl, ?_⟩
      rw [l_beh h3 (by omega) ej, ej, p_readList, h1]
      refine hp.trans ?_
      unfold k_ThumbCoreModel_pop_94
      rw [if_neg b0, if_pos hle]
      rfl
    · have har2 : f_Memory_areThere q sp (nI (sel (nI j0) 0 8).length) = false := by simpa using har
      rw [har2, if_neg b0, if_neg b0, hbad]
      exact Or.inr ⟨rfl, _, rfl, hi_upd (by decide) (hi_r r)⟩
/-- pop and go -/
theorem p_popGo {q : Int32} {nw : Nat} (hm : tc_mem q nw) (h : Int32) (w r : Nat → Int32) (n z c v : Bool) (af cu : Int32) (a : Int32) (ha : actOK a) (hcu : vp_in cu 16) {j0 : Nat} (hj0 : j0 < 256) (hM : h &&& 511 = nI (256 + j0)) : ((f_ThumbCore_popAndGo q w af r n z c v a cu (nI j0)).1 = true ∧ f_ThumbCoreModel_pop q h (byt w) n z c v false af cu r (bt a) = backR (f_ThumbCore_popAndGo q w af r n z c v a cu (nI j0)).2) ∨ (f_ThumbCore_popAndGo q w af r n z c v a cu (nI j0) = (false, af, r, n, z, c, v, a, cu) ∧ ∃ r' : Nat → Int32, f_ThumbCoreModel_pop q h (byt w) n z c v false af cu r (bt a) = (n, z, c, v, true, af, cu, r', bt a) ∧ hi16 r' r) := by
  have b0 : ¬ ¬ bI false = 0 := by decide
  have b1 : ¬ bI true = 0 := by decide
  obtain ⟨h1, h2, h3, h5⟩ := l_pd5 ⟨j0, hj0⟩
  dsimp only at h1 h2 h3 h5
  have hbad : ∀ (y1 y3 : Int32), k_ThumbCoreModel_pop_37 q h (byt w) n z c v false af cu r (bt a) y1 y3 = (n, z, c, v, true, af, cu, upd r (13 : Int32).toNatClampNeg y3, bt a) := by
    intro y1 y3
    rfl
  have hle : ¬ nI (256 + j0) ≤ 255 := nI_ge (a := 255) (b := 256 + j0) (by omega) (by omega)
  have g : ¬ nI ((sel (nI (256 + j0)) 0 8).length + 1) = 0 := nI_ne0 (by omega) (by omega)
  unfold f_ThumbCoreModel_pop f_ThumbCore_popAndGo
  simp only [bd]
  rw [hM, h2, h3, if_neg g, nI_1, p_allThere hm _ (by omega) (by omega)]
  generalize hsp : r (13 : Int32).toNatClampNeg = sp
  by_cases har : f_Memory_areThere q sp (nI ((sel (nI (256 + j0)) 0 8).length + 1)) = true
  · rw [har, if_pos b1, if_pos b1]
    obtain ⟨j, ej, hj, hl⟩ := (y_areI hm sp (n := (sel (nI (256 + j0)) 0 8).length + 1) (by omega)).mp har
    have hp := l_mr hm h w n z c v af cu (bt a) (nI (256 + j0)) 8 0 j r (by decide) hj (by omega)
    rw [l_beh h3 (by omega) ej, ej, p_readList, h1]
    have hmod : k_ThumbCoreModel_pop_42 q h (byt w) n z c v false af cu r (bt a) (nI (256 + j0)) (nI j) false = f_ThumbCoreModel_goTo q (byt w) n z c v false af cu (upd (rl w r (nI j) (sel (nI (256 + j0)) 0 8)) (13 : Int32).toNatClampNeg (nI (j + 4 * (sel (nI (256 + j0)) 0 8).length) + 4)) (bt a) (f_Memory_word w (nI (j + 4 * (sel (nI (256 + j0)) 0 8).length))) := by
      refine hp.trans ?_
      unfold k_ThumbCoreModel_pop_94
      rw [if_neg b0, if_neg hle, l_r hm w (by omega) (by omega), z_un2]
      rfl
    rw [hmod, p_goTo hm w _ n z c v af af cu _ a ha hcu, tc_updS]
    generalize f_Memory_word w (nI (j + 4 * (sel (nI (256 + j0)) 0 8).length)) = x
    generalize (nI (j + 4 * (sel (nI (256 + j0)) 0 8).length) + 4) = sp2
    by_cases hmay : f_ThumbCore_mayGoTo q w a cu x sp2 = true
    · rw [hmay, if_pos b1, if_pos rfl]
      exact Or.inl ⟨rfl, rfl⟩
    · have hmay2 : f_ThumbCore_mayGoTo q w a cu x sp2 = false := by simpa using hmay
      have bf : ¬ false = true := by decide
      rw [hmay2, if_neg b0, if_neg bf]
      exact Or.inr ⟨rfl, _, rfl, hi_upd (by decide) (hi_rl w _ r r _ (sel_lt _ (by decide)) (hi_r r))⟩
  · have har2 : f_Memory_areThere q sp (nI ((sel (nI (256 + j0)) 0 8).length + 1)) = false := by simpa using har
    rw [har2, if_neg b0, if_neg b0, hbad]
    exact Or.inr ⟨rfl, _, rfl, hi_upd (by decide) (hi_r r)⟩

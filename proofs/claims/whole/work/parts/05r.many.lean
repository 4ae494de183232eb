theorem l_msW {q : Int32} {nw : Nat} (hm : tc_mem q nw) (h : Int32) (r : Nat → Int32) (M y3 : Int32) (ow : Bool) : ∀ (f k j : Nat) (w : Nat → Int32), k + f = 8 → j % 4 = 0 → j + 4 * (sel M k f).length ≤ 4 * nw → k_ThumbCoreModel_several_110 q h (f + 1) false (byt w) r false M y3 ow (nI j) (nI k) = k_ThumbCoreModel_several_178 q h false (byt (wl r w (nI j) (sel M k f))) r false y3 ow (nI (j + 4 * (sel M k f).length)) := by
  have b0 : ¬ ¬ bI false = 0 := by decide
  have b2 : bI false = 0 := by decide
  intro f
  induction f with
  | zero =>
    intro k j w h8 hj hl
    have e8 : k = 8 := by omega
    subst e8
    have g : (8 : Int32) ≤ nI 8 := by decide
    rw [k_ThumbCoreModel_several_110, if_pos g, sel_0]
    rfl
  | succ f ih =>
    intro k j w h8 hj hl
    have g : ¬ (8 : Int32) ≤ nI k := nI_ge (a := k) (b := 8) (by omega) (by decide)
    have hb := l_mb (M := M) (k := k) (by omega)
    rw [k_ThumbCoreModel_several_110, if_neg g, if_neg b0]
    unfold k_ThumbCoreModel_several_169 k_ThumbCoreModel_several_172
    by_cases c1 : bt M k = true
    · have n1 : ¬ ¬ (o_ishr M (nI k) &&& 1) = 1 := fun q => q (hb.mpr c1)
      rw [sel_1 c1, List.length_cons] at hl ⊢
      rw [if_neg n1, if_pos b2, l_w hm w hj (by omega), z_un2, l_4, nI_1, nI_clamp (by omega), ih (k + 1) (j + 4) _ (by omega) (by omega) (by omega)]
      have e : j + 4 + 4 * (sel M (k + 1) f).length = j + 4 * ((sel M (k + 1) f).length + 1) := by omega
      rw [e]
      show _ = k_ThumbCoreModel_several_178 q h false (byt (wl r (f_Memory_putWord w (nI j) (r k)) (nI j + 4) (sel M (k + 1) f))) r false y3 ow _
      rw [l_4]
    · have n1 : ¬ (o_ishr M (nI k) &&& 1) = 1 := fun q => c1 (hb.mp q)
      rw [sel_n c1] at hl ⊢
      rw [if_pos n1, nI_1, ih (k + 1) j w (by omega) hj hl]
theorem l_msR {q : Int32} {nw : Nat} (hm : tc_mem q nw) (h : Int32) (w : Nat → Int32) (M y3 : Int32) (ow : Bool) : ∀ (f k j : Nat) (r : Nat → Int32), k + f = 8 → j % 4 = 0 → j + 4 * (sel M k f).length ≤ 4 * nw → k_ThumbCoreModel_several_110 q h (f + 1) false (byt w) r true M y3 ow (nI j) (nI k) = k_ThumbCoreModel_several_178 q h false (byt w) (rl w r (nI j) (sel M k f)) true y3 ow (nI (j + 4 * (sel M k f).length)) := by
  have b0 : ¬ ¬ bI false = 0 := by decide
  have b1 : ¬ bI true = 0 := by decide
  intro f
  induction f with
  | zero =>
    intro k j r h8 hj hl
    have e8 : k = 8 := by omega
    subst e8
    have g : (8 : Int32) ≤ nI 8 := by decide
    rw [k_ThumbCoreModel_several_110, if_pos g, sel_0]
    rfl
  | succ f ih =>
    intro k j r h8 hj hl
    have g : ¬ (8 : Int32) ≤ nI k := nI_ge (a := k) (b := 8) (by omega) (by decide)
    have hb := l_mb (M := M) (k := k) (by omega)
    rw [k_ThumbCoreModel_several_110, if_neg g, if_neg b0]
    unfold k_ThumbCoreModel_several_169 k_ThumbCoreModel_several_172
    by_cases c1 : bt M k = true
    · have n1 : ¬ ¬ (o_ishr M (nI k) &&& 1) = 1 := fun q => q (hb.mpr c1)
      rw [sel_1 c1, List.length_cons] at hl ⊢
      rw [if_neg n1, if_neg b1, l_r hm w hj (by omega), z_un2, l_4, nI_1, nI_clamp (by omega), ih (k + 1) (j + 4) _ (by omega) (by omega) (by omega)]
      have e : j + 4 + 4 * (sel M (k + 1) f).length = j + 4 * ((sel M (k + 1) f).length + 1) := by omega
      rw [e]
      show _ = k_ThumbCoreModel_several_178 q h false (byt w) (rl w (upd r k (f_Memory_word w (nI j))) (nI j + 4) (sel M (k + 1) f)) true y3 ow _
      rw [l_4]
    · have n1 : ¬ (o_ishr M (nI k) &&& 1) = 1 := fun q => c1 (hb.mp q)
      rw [sel_n c1] at hl ⊢
      rw [if_pos n1, nI_1, ih (k + 1) j r (by omega) hj hl]
theorem u_same2 (r : Nat → Int32) (i : Nat) (x y : Int32) : upd (upd r i x) i y = upd r i y := by
  funext k
  unfold upd
  by_cases h : k = i
  · rw [if_pos h, if_pos h]
  · rw [if_neg h, if_neg h, if_neg h]
theorem u_comm (r : Nat → Int32) {i k : Nat} (hik : i ≠ k) (x y : Int32) : upd (upd r i x) k y = upd (upd r k y) i x := by
  funext m
  unfold upd
  by_cases h : m = k
  · subst h
    rw [if_pos rfl, if_neg (fun e => hik e.symm), if_pos rfl]
  · by_cases g : m = i
    · rw [if_neg h, if_pos g, if_pos g]
    · rw [if_neg h, if_neg g, if_neg g, if_neg h]
theorem u_self (r : Nat → Int32) (i : Nat) : upd r i (r i) = r := by
  funext k
  unfold upd
  by_cases h : k = i
  · rw [if_pos h, h]
  · rw [if_neg h]
theorem rl_in (w : Nat → Int32) (x : Nat) (b : Int32) : ∀ (l : List Nat) (r : Nat → Int32) (a : Int32), x ∈ l → rl w (upd r x b) a l = rl w r a l := by
  intro l
  induction l with
  | nil =>
    intro r a h
    cases h
  | cons i l ih =>
    intro r a h
    show rl w (upd (upd r x b) i (f_Memory_word w a)) (a + 4) l = rl w (upd r i (f_Memory_word w a)) (a + 4) l
    by_cases g : x = i
    · subst g
      rw [u_same2]
    · rw [u_comm r g]
      rcases List.mem_cons.mp h with e | e
      · exact absurd e g
      · exact ih _ _ e
theorem rl_out (w : Nat → Int32) (x : Nat) (b : Int32) : ∀ (l : List Nat) (r : Nat → Int32) (a : Int32), ¬ x ∈ l → rl w (upd r x b) a l = upd (rl w r a l) x b := by
  intro l
  induction l with
  | nil =>
    intro r a h
    rfl
  | cons i l ih =>
    intro r a h
    have h1 : ¬ x = i := fun e => h (List.mem_cons.mpr (Or.inl e))
    have h2 : ¬ x ∈ l := fun e => h (List.mem_cons.mpr (Or.inr e))
    show rl w (upd (upd r x b) i (f_Memory_word w a)) (a + 4) l = upd (rl w (upd r i (f_Memory_word w a)) (a + 4) l) x b
    rw [u_comm r h1]
    exact ih _ _ h2
theorem sel_mem {M : Int32} {t : Nat} (ht : t < 8) : t ∈ sel M 0 8 ↔ bt M t = true := by
  unfold sel
  rw [List.mem_filter, List.mem_range'_1]
  constructor
  · intro h
    exact h.2
  · intro h
    exact ⟨⟨by omega, by omega⟩, h⟩
theorem ms_bad (q h : Int32) (m r : Nat → Int32) (rd : Bool) (y2 y3 y5 : Int32) (ow : Bool) : (k_ThumbCoreModel_several_95 q h false m r rd y2 y3 y5 ow).1 = true ∧ (k_ThumbCoreModel_several_95 q h false m r rd y2 y3 y5 ow).2.1 = m ∧ (y3.toNatClampNeg < 16 → hi16 (k_ThumbCoreModel_several_95 q h false m r rd y2 y3 y5 ow).2.2 r) := by
  have e : k_ThumbCoreModel_several_95 q h false m r rd y2 y3 y5 ow = k_ThumbCoreModel_several_178 q h true m r rd y3 ow y5 := rfl
  rw [e]
  cases rd <;> cases ow <;> exact ⟨rfl, rfl, fun hk => hi_upd hk (hi_r r)⟩
theorem p_storeMany {q : Int32} {nw : Nat} (hm : tc_mem q nw) {h : Int32} (hh : isH h) (w r : Nat → Int32) : lsOK w r (f_ThumbCore_storeMany q w r (o_iushr h 8 &&& 7) (h &&& 255)) (f_ThumbCoreModel_several q h false (byt w) r false) := by
  have b0 : ¬ ¬ bI false = 0 := by decide
  have b1 : ¬ bI true = 0 := by decide
  have b2 : bI false = 0 := by decide
  have e8 : o_ishr h 8 = o_iushr h 8 := i_sh hh 8 (by decide)
  obtain ⟨j0, hj0, eL⟩ := pk_andE h (m := 255) 8 (by decide)
  have hj1 : j0 < 256 := hj0
  obtain ⟨t, ht, et⟩ := pk_andE (o_iushr h 8) (m := 7) 3 (by decide)
  have ht8 : t < 8 := ht
  obtain ⟨h1, h2, h3, h5, h6⟩ := l_pd4 ⟨j0, hj1⟩
  dsimp only at h1 h2 h3 h5 h6
  unfold f_ThumbCoreModel_several f_ThumbCore_storeMany f_ThumbCoreModel_field
  simp only [bd, e8, et, eL, h2]
  have hb := l_mb (M := nI j0) (k := t) (by omega)
  have hc := x_bit (nI j0) (j := t) (by omega)
  have h50 : ∀ ow : Bool, lsOK w r (k_ThumbCore_storeMany_50 q w r (nI t) (nI j0) (r (nI t).toNatClampNeg)) (if nI (sel (nI j0) 0 8).length = 0 then k_ThumbCoreModel_several_95 q h false (byt w) r false (nI j0) (nI t) (r (nI t).toNatClampNeg) ow else k_ThumbCoreModel_several_84 q h false (byt w) r false (nI j0) (nI t) (nI (sel (nI j0) 0 8).length) (r (nI t).toNatClampNeg) ow) := by
    intro ow
    unfold k_ThumbCore_storeMany_50
    simp only [bd]
    generalize r (nI t).toNatClampNeg = fr
    have hbd := ms_bad q h (byt w) r false (nI j0) (nI t) fr ow
    by_cases hN : (sel (nI j0) 0 8).length = 0
    · have g : nI (sel (nI j0) 0 8).length = 0 := by rw [hN]; decide
      rw [if_pos g, h6.mpr hN, l_are0, if_neg b0]
      rw [h6.mpr hN] at hbd
      exact Or.inr ⟨rfl, rfl, rfl, hbd.1, hbd.2.1, hbd.2.2 (by rw [nI_clamp (by omega)]; omega)⟩
    · have g : ¬ nI (sel (nI j0) 0 8).length = 0 := nI_ne0 (by omega) (by omega)
      have gL : ¬ nI j0 = 0 := fun k => hN (h6.mp k)
      rw [if_neg g, l_areN gL h3]
      unfold k_ThumbCoreModel_several_84
      simp only [bd]
      rw [p_allThere hm _ (by omega) (by omega)]
      by_cases har : f_Memory_areThere q fr (nI (sel (nI j0) 0 8).length) = true
      · rw [har, if_pos b1, if_pos b1]
        obtain ⟨j, ej, hj, hl⟩ := (y_areI hm fr (n := (sel (nI j0) 0 8).length) (by omega)).mp har
        have hp := l_msW hm h r (nI j0) (nI t) ow 8 0 j w (by decide) hj hl
        refine Or.inl ⟨rfl, ?_⟩
        rw [l_beh h3 (by omega) ej, ej, p_writeList, h1]
        refine hp.trans ?_
        rfl
      · have har2 : f_Memory_areThere q fr (nI (sel (nI j0) 0 8).length) = false := by simpa using har
        rw [har2, if_neg b0, if_neg b0]
        exact Or.inr ⟨rfl, rfl, rfl, hbd.1, hbd.2.1, hbd.2.2 (by rw [nI_clamp (by omega)]; omega)⟩
  unfold k_ThumbCoreModel_several_45 k_ThumbCoreModel_several_62 k_ThumbCore_storeMany_21 k_ThumbCore_storeMany_38
  simp only [if_neg b0, if_pos b2, if_neg b1]
  by_cases gb : bt (nI j0) t = true
  · have n1 : ¬ ¬ (o_ishr (nI j0) (nI t) &&& 1) = 1 := fun q => q (hb.mpr gb)
    have n2 : ¬ ¬ (o_iushr (nI j0) (nI t) &&& 1) = 1 := fun q => q (hc.mpr gb)
    rw [if_neg n1, if_neg n2]
    by_cases gl : (nI j0 &&& (o_ishl 1 (nI t) - 1)) = 0
    · have n3 : ¬ ¬ (nI j0 &&& (o_ishl 1 (nI t) - 1)) = 0 := fun q => q gl
      rw [if_neg n3, if_pos gl]
      exact h50 true
    · rw [if_pos gl, if_neg gl, if_pos b1]
      have hbd := ms_bad q h (byt w) r false (nI j0) (nI t) (r (nI t).toNatClampNeg) true
      split
      · exact Or.inr ⟨rfl, rfl, rfl, hbd.1, hbd.2.1, hbd.2.2 (by rw [nI_clamp (by omega)]; omega)⟩
      · exact Or.inr ⟨rfl, rfl, rfl, hbd.1, hbd.2.1, hbd.2.2 (by rw [nI_clamp (by omega)]; omega)⟩
  · have n1 : ¬ (o_ishr (nI j0) (nI t) &&& 1) = 1 := fun q => gb (hb.mp q)
    have n2 : ¬ (o_iushr (nI j0) (nI t) &&& 1) = 1 := fun q => gb (hc.mp q)
    rw [if_pos n1, if_pos n2]
    by_cases gl : (nI j0 &&& (o_ishl 1 (nI t) - 1)) = 0
    · have n3 : ¬ ¬ (nI j0 &&& (o_ishl 1 (nI t) - 1)) = 0 := fun q => q gl
      rw [if_neg n3, if_pos gl]
      exact h50 false
    · rw [if_pos gl, if_neg gl]
      exact h50 false
theorem p_loadMany {q : Int32} {nw : Nat} (hm : tc_mem q nw) {h : Int32} (hh : isH h) (w r : Nat → Int32) : lsOK w r (un2 (f_ThumbCore_loadMany q w r (o_iushr h 8 &&& 7) (h &&& 255)) (fun r5 s6 => (r5, w, s6))) (f_ThumbCoreModel_several q h false (byt w) r true) := by
  have b0 : ¬ ¬ bI false = 0 := by decide
  have b1 : ¬ bI true = 0 := by decide
  have b2 : bI false = 0 := by decide
  have e8 : o_ishr h 8 = o_iushr h 8 := i_sh hh 8 (by decide)
  obtain ⟨j0, hj0, eL⟩ := pk_andE h (m := 255) 8 (by decide)
  have hj1 : j0 < 256 := hj0
  obtain ⟨t, ht, et⟩ := pk_andE (o_iushr h 8) (m := 7) 3 (by decide)
  have ht8 : t < 8 := ht
  obtain ⟨h1, h2, h3, h5, h6⟩ := l_pd4 ⟨j0, hj1⟩
  dsimp only at h1 h2 h3 h5 h6
  unfold f_ThumbCoreModel_several f_ThumbCore_loadMany f_ThumbCoreModel_field
  simp only [bd, e8, et, eL, h2]
  have hb := l_mb (M := nI j0) (k := t) (by omega)
  have etc : (nI t).toNatClampNeg = t := nI_clamp (by omega)
  have h62 : ∀ ow zl : Bool, (ow = true ↔ bt (nI j0) t = true) → lsOK w r (un2 (if ¬ bI (f_ThumbCore_areThere q (nI j0) (r (nI t).toNatClampNeg)) = 0 then (true, f_ThumbCore_readList w (upd r (nI t).toNatClampNeg (f_ThumbCore_behind (nI j0) (r (nI t).toNatClampNeg))) (nI j0) (r (nI t).toNatClampNeg)) else (false, r)) (fun r5 s6 => (r5, w, s6))) (k_ThumbCoreModel_several_62 q h false (byt w) r true (nI j0) (nI t) (nI (sel (nI j0) 0 8).length) (r (nI t).toNatClampNeg) ow zl) := by
    intro ow zl how
    unfold k_ThumbCoreModel_several_62
    rw [if_pos b1, etc]
    generalize r t = fr
    have hbd := ms_bad q h (byt w) r true (nI j0) (nI t) fr ow
    by_cases hN : (sel (nI j0) 0 8).length = 0
    · have g : nI (sel (nI j0) 0 8).length = 0 := by rw [hN]; decide
      rw [if_pos g, h6.mpr hN, l_are0, if_neg b0]
      rw [h6.mpr hN] at hbd
      exact Or.inr ⟨rfl, rfl, rfl, hbd.1, hbd.2.1, hbd.2.2 (by rw [nI_clamp (by omega)]; omega)⟩
    · have g : ¬ nI (sel (nI j0) 0 8).length = 0 := nI_ne0 (by omega) (by omega)
      have gL : ¬ nI j0 = 0 := fun k => hN (h6.mp k)
      rw [if_neg g, l_areN gL h3]
      unfold k_ThumbCoreModel_several_84
      simp only [bd]
      rw [p_allThere hm _ (by omega) (by omega)]
      by_cases har : f_Memory_areThere q fr (nI (sel (nI j0) 0 8).length) = true
      · rw [har, if_pos b1, if_pos b1]
        obtain ⟨j, ej, hj, hl⟩ := (y_areI hm fr (n := (sel (nI j0) 0 8).length) (by omega)).mp har
        have hp := l_msR hm h w (nI j0) (nI t) ow 8 0 j r (by decide) hj hl
        refine Or.inl ⟨rfl, ?_⟩
        rw [l_beh h3 (by omega) ej, ej, p_readList, h1]
        refine hp.trans ?_
        unfold k_ThumbCoreModel_several_178 k_ThumbCoreModel_several_201 k_ThumbCoreModel_several_203
        rw [if_neg b1, etc]
        by_cases gb : bt (nI j0) t = true
        · have eo : ow = true := how.mpr gb
          rw [eo, if_neg b1, u_self, rl_in w t _ _ r (nI j) ((sel_mem ht8).mpr gb)]
          rfl
        · have eo : ow = false := by
            cases ow
            · rfl
            · exact absurd (how.mp rfl) gb
          rw [eo, if_pos b2, rl_out w t _ _ r (nI j) (fun k => gb ((sel_mem ht8).mp k))]
          rfl
      · have har2 : f_Memory_areThere q fr (nI (sel (nI j0) 0 8).length) = false := by simpa using har
        rw [har2, if_neg b0, if_neg b0]
        exact Or.inr ⟨rfl, rfl, rfl, hbd.1, hbd.2.1, hbd.2.2 (by rw [nI_clamp (by omega)]; omega)⟩
  unfold k_ThumbCoreModel_several_45
  by_cases gb : bt (nI j0) t = true
  · have n1 : ¬ ¬ (o_ishr (nI j0) (nI t) &&& 1) = 1 := fun q => q (hb.mpr gb)
    rw [if_neg n1]
    have hw : true = true ↔ bt (nI j0) t = true := ⟨fun _ => gb, fun _ => rfl⟩
    by_cases gl : ¬ (nI j0 &&& (o_ishl 1 (nI t) - 1)) = 0
    · rw [if_pos gl]
      exact h62 true false hw
    · rw [if_neg gl]
      exact h62 true true hw
  · have n1 : ¬ (o_ishr (nI j0) (nI t) &&& 1) = 1 := fun q => gb (hb.mp q)
    rw [if_pos n1]
    have hw : false = true ↔ bt (nI j0) t = true := ⟨fun k => (by cases k), fun k => absurd k gb⟩
    by_cases gl : ¬ (nI j0 &&& (o_ishl 1 (nI t) - 1)) = 0
    · rw [if_pos gl]
      exact h62 false false hw
    · rw [if_neg gl]
      exact h62 false true hw

/-- the registers of a list, k .. k + f - 1 -/
def sel (L : Int32) (k f : Nat) : List Nat := (List.range' k f).filter (fun i => bt L i)
theorem sel_0 (L : Int32) (k : Nat) : sel L k 0 = [] := rfl
theorem sel_1 {L : Int32} {k f : Nat} (h : bt L k = true) : sel L k (f + 1) = k :: sel L (k + 1) f := by
  unfold sel
  rw [List.range'_succ, List.filter_cons_of_pos h]
theorem sel_n {L : Int32} {k f : Nat} (h : ¬ bt L k = true) : sel L k (f + 1) = sel L (k + 1) f := by
  unfold sel
  rw [List.range'_succ, List.filter_cons_of_neg h]
def wl (r : Nat → Int32) : (Nat → Int32) → Int32 → List Nat → (Nat → Int32)
  | w, _, [] => w
  | w, a, i :: l => wl r (f_Memory_putWord w a (r i)) (a + 4) l
def rl (w : Nat → Int32) : (Nat → Int32) → Int32 → List Nat → (Nat → Int32)
  | r, _, [] => r
  | r, a, i :: l => rl w (upd r i (f_Memory_word w a)) (a + 4) l
theorem l_cw (r : Nat → Int32) (L : Int32) : ∀ (f k : Nat) (w : Nat → Int32) (a : Int32), k + f = 15 → k_ThumbCore_writeList_5 r (f + 1) w L a (nI k) = wl r w a (sel L k f) := by
  intro f
  induction f with
  | zero =>
    intro k w a h
    have h15 : k = 15 := by omega
    subst h15
    have g : (15 : Int32) ≤ nI 15 := by decide
    rw [k_ThumbCore_writeList_5, if_pos g, sel_0]
    rfl
  | succ f ih =>
    intro k w a h
    have g : ¬ (15 : Int32) ≤ nI k := nI_ge (a := k) (b := 15) (by omega) (by decide)
    have hb := x_bit L (j := k) (by omega)
    rw [k_ThumbCore_writeList_5, if_neg g]
    unfold k_ThumbCore_writeList_40
    by_cases c : bt L k = true
    · have n1 : ¬ ¬ (o_iushr L (nI k) &&& 1) = 1 := fun q => q (hb.mpr c)
      rw [if_neg n1, bd_eq, nI_clamp (by omega), nI_1, ih (k + 1) _ _ (by omega), sel_1 c]
      rfl
    · have n1 : ¬ (o_iushr L (nI k) &&& 1) = 1 := fun q => c (hb.mp q)
      rw [if_pos n1, nI_1, ih (k + 1) _ _ (by omega), sel_n c]
theorem l_cr (w : Nat → Int32) (L : Int32) : ∀ (f k : Nat) (r : Nat → Int32) (a : Int32), k + f = 15 → k_ThumbCore_readList_5 w (f + 1) r L a (nI k) = rl w r a (sel L k f) := by
  intro f
  induction f with
  | zero =>
    intro k r a h
    have h15 : k = 15 := by omega
    subst h15
    have g : (15 : Int32) ≤ nI 15 := by decide
    rw [k_ThumbCore_readList_5, if_pos g, sel_0]
    rfl
  | succ f ih =>
    intro k r a h
    have g : ¬ (15 : Int32) ≤ nI k := nI_ge (a := k) (b := 15) (by omega) (by decide)
    have hb := x_bit L (j := k) (by omega)
    rw [k_ThumbCore_readList_5, if_neg g]
    unfold k_ThumbCore_readList_40
    by_cases c : bt L k = true
    · have n1 : ¬ ¬ (o_iushr L (nI k) &&& 1) = 1 := fun q => q (hb.mpr c)
      rw [if_neg n1, bd_eq, nI_clamp (by omega), nI_1, ih (k + 1) _ _ (by omega), sel_1 c]
      rfl
    · have n1 : ¬ (o_iushr L (nI k) &&& 1) = 1 := fun q => c (hb.mp q)
      rw [if_pos n1, nI_1, ih (k + 1) _ _ (by omega), sel_n c]
theorem p_writeList (r w : Nat → Int32) (L a : Int32) : f_ThumbCore_writeList r w L a = wl r w a (sel L 0 15) := by
  rw [f_ThumbCore_writeList]
  exact l_cw r L 15 0 w a (by decide)
theorem p_readList (w r : Nat → Int32) (L a : Int32) : f_ThumbCore_readList w r L a = rl w r a (sel L 0 15) := by
  rw [f_ThumbCore_readList]
  exact l_cr w L 15 0 r a (by decide)
theorem l_w {q : Int32} {nw : Nat} (hm : tc_mem q nw) (w : Nat → Int32) {j : Nat} (hj : j % 4 = 0) (hl : j + 4 ≤ 4 * nw) (x : Int32) : f_ThumbCoreModel_write q false (byt w) (nI j) x 4 = (false, byt (f_Memory_putWord w (nI j) x)) := by
  have hms := hm
  obtain ⟨m1, m2, m3⟩ := hms
  rw [p_write hm w false _ x 4 (Or.inr (Or.inr rfl)), if_pos ((y_is4 hm _).mpr ⟨j, rfl, hj, hl⟩), p_put w x (by omega) hj]
theorem l_r {q : Int32} {nw : Nat} (hm : tc_mem q nw) (w : Nat → Int32) {j : Nat} (hj : j % 4 = 0) (hl : j + 4 ≤ 4 * nw) : f_ThumbCoreModel_read q (byt w) false (nI j) 4 = (f_Memory_word w (nI j), false) := by
  have hms := hm
  obtain ⟨m1, m2, m3⟩ := hms
  rw [p_read hm w false _ 4 (Or.inr (Or.inr rfl)), if_pos ((y_is4 hm _).mpr ⟨j, rfl, hj, hl⟩), p_word w (by omega) hj]
theorem l_4 (j : Nat) : nI j + 4 = nI (j + 4) := nI_add j 4
/-- the ninth bit of the reference's list is LR -/
def lr8 (i : Nat) : Nat := if i = 8 then 14 else i
theorem l_map (r : Nat → Int32) : ∀ (l : List Nat) (w : Nat → Int32) (a : Int32), wl r w a (l.map lr8) = wl (fun i => r (lr8 i)) w a l := by
  intro l
  induction l with
  | nil =>
    intro w a
    rfl
  | cons i l ih =>
    intro w a
    exact ih _ _
theorem l_mp {q : Int32} {nw : Nat} (hm : tc_mem q nw) (h : Int32) (r : Nat → Int32) (M at0 : Int32) : ∀ (f k j : Nat) (w : Nat → Int32), k + f = 9 → j % 4 = 0 → j + 4 * (sel M k f).length ≤ 4 * nw → k_ThumbCoreModel_push_55 q h (f + 1) false (byt w) r M at0 (nI j) (nI k) = (false, byt (wl (fun i => r (lr8 i)) w (nI j) (sel M k f)), upd r (13 : Int32).toNatClampNeg at0) := by
  have b0 : ¬ ¬ bI false = 0 := by decide
  intro f
  induction f with
  | zero =>
    intro k j w h9 hj hl
    have e9 : k = 9 := by omega
    subst e9
    have g : (9 : Int32) ≤ nI 9 := by decide
    rw [k_ThumbCoreModel_push_55, if_pos g, sel_0]
    rfl
  | succ f ih =>
    intro k j w h9 hj hl
    have g : ¬ (9 : Int32) ≤ nI k := nI_ge (a := k) (b := 9) (by omega) (by decide)
    have hb : (o_ishr M (nI k) &&& 1) = 1 ↔ bt M k = true := by
      rw [s_is1, s_sshr M (by omega) (by decide)]
      have e : min (k + 0) 31 = k := by omega
      rw [e]
    rw [k_ThumbCoreModel_push_55, if_neg g, if_neg b0]
    unfold k_ThumbCoreModel_push_106 k_ThumbCoreModel_push_113
    by_cases c : bt M k = true
    · have n1 : ¬ ¬ (o_ishr M (nI k) &&& 1) = 1 := fun q => q (hb.mpr c)
      rw [sel_1 c] at hl ⊢
      have hl2 : j + 4 + 4 * (sel M (k + 1) f).length ≤ 4 * nw := by
        rw [List.length_cons] at hl
        omega
      have e8 : (if ¬ nI k = 8 then un2 (f_ThumbCoreModel_write q false (byt w) (nI j) (r (nI k).toNatClampNeg) 4) (fun s1 s2 => k_ThumbCoreModel_push_55 q h (f + 1) s1 s2 r M at0 (nI j + 4) (nI k + 1)) else un2 (f_ThumbCoreModel_write q false (byt w) (nI j) (r (14 : Int32).toNatClampNeg) 4) (fun s1 s2 => k_ThumbCoreModel_push_55 q h (f + 1) s1 s2 r M at0 (nI j + 4) (nI k + 1))) = un2 (f_ThumbCoreModel_write q false (byt w) (nI j) (r (lr8 k)) 4) (fun s1 s2 => k_ThumbCoreModel_push_55 q h (f + 1) s1 s2 r M at0 (nI j + 4) (nI k + 1)) := by
        have e14 : (14 : Int32).toNatClampNeg = 14 := by decide
        have ek : nI k = 8 ↔ k = 8 := nI_eq (b := 8) (by omega) (by decide)
        rw [nI_clamp (by omega), e14]
        unfold lr8
        by_cases gk : k = 8
        · have n8 : ¬ ¬ nI k = 8 := fun q => q (ek.mpr gk)
          rw [if_neg n8, if_pos gk]
        · have n8 : ¬ nI k = 8 := fun q => gk (ek.mp q)
          rw [if_pos n8, if_neg gk]
      rw [if_neg n1]
      refine e8.trans ?_
      rw [l_w hm w hj (by omega), z_un2, l_4, nI_1, ih (k + 1) (j + 4) _ (by omega) (by omega) hl2]
      show _ = (false, byt (wl (fun i => r (lr8 i)) (f_Memory_putWord w (nI j) (r (lr8 k))) (nI j + 4) (sel M (k + 1) f)), _)
      rw [l_4]
    · have n1 : ¬ (o_ishr M (nI k) &&& 1) = 1 := fun q => c (hb.mp q)
      rw [sel_n c] at hl ⊢
      rw [if_pos n1, nI_1, ih (k + 1) j w (by omega) hj hl]
theorem l_d4 : ∀ j : Fin 256, sel (nI j.val) 0 15 = (sel (nI j.val) 0 9).map lr8 ∧ f_ThumbCoreModel_listed (nI j.val) = nI (sel (nI j.val) 0 9).length ∧ f_Integer_bitCount (nI j.val) = nI (sel (nI j.val) 0 9).length ∧ (sel (nI j.val) 0 9).length ≤ 8 ∧ (nI j.val = 0 ↔ (sel (nI j.val) 0 9).length = 0) := by decide +kernel
theorem l_d5 : ∀ j : Fin 256, sel (nI j.val ||| 16384) 0 15 = (sel (nI (256 + j.val)) 0 9).map lr8 ∧ f_ThumbCoreModel_listed (nI (256 + j.val)) = nI (sel (nI (256 + j.val)) 0 9).length ∧ f_Integer_bitCount (nI j.val ||| 16384) = nI (sel (nI (256 + j.val)) 0 9).length ∧ (sel (nI (256 + j.val)) 0 9).length ≤ 9 ∧ ((nI j.val ||| 16384) = 0 ↔ (sel (nI (256 + j.val)) 0 9).length = 0) := by decide +kernel
/-- the class's list L and the reference's M name the same registers, N of them -/
def lsame (L M : Int32) (N : Nat) : Prop := sel L 0 15 = (sel M 0 9).map lr8 ∧ f_ThumbCoreModel_listed M = nI N ∧ f_Integer_bitCount L = nI N ∧ (sel M 0 9).length = N ∧ N ≤ 9 ∧ (L = 0 ↔ N = 0)
theorem l_are0 (q a : Int32) : f_ThumbCore_areThere q 0 a = false := rfl
theorem l_areN {q L a : Int32} {N : Nat} (hL : ¬ L = 0) (hb : f_Integer_bitCount L = nI N) : f_ThumbCore_areThere q L a = f_Memory_areThere q a (nI N) := by
  rw [f_ThumbCore_areThere, if_neg hL, bd_eq, bd_eq, hb]
  cases f_Memory_areThere q a (nI N)
  · rfl
  · rfl
theorem p_push {q : Int32} {nw : Nat} (hm : tc_mem q nw) (h : Int32) (w r : Nat → Int32) {L : Int32} {N : Nat} (hs : lsame L (h &&& 511) N) : lsOK w r (f_ThumbCore_push q w r L) (f_ThumbCoreModel_push q h false (byt w) r) := by
  have b0 : ¬ ¬ bI false = 0 := by decide
  have b1 : ¬ bI true = 0 := by decide
  obtain ⟨h1, h2, h3, h4, h5, h6⟩ := hs
  have hbad : ∀ (y1 y3 : Int32), k_ThumbCoreModel_push_41 q h false (byt w) r y1 y3 = (true, byt w, upd r (13 : Int32).toNatClampNeg y3) := by
    intro y1 y3
    rfl
  have e0 : (0 : Int32) = nI 0 := by decide
  unfold f_ThumbCoreModel_push f_ThumbCore_push
  simp only [bd]
  rw [h2, h3]
  by_cases hN : N = 0
  · have g : nI N = 0 := by rw [hN]; decide
    rw [if_pos g, h6.mpr hN, l_are0, if_neg b0, hbad]
    exact Or.inr ⟨rfl, rfl, rfl, rfl, rfl, hi_upd (by decide) (hi_r r)⟩
  · have g : ¬ nI N = 0 := nI_ne0 (by omega) (by omega)
    have gL : ¬ L = 0 := fun k => hN (h6.mp k)
    rw [if_neg g, l_areN gL h3, p_allThere hm _ (by omega) (by omega)]
    generalize (r (13 : Int32).toNatClampNeg - 4 * nI N) = at0
    by_cases har : f_Memory_areThere q at0 (nI N) = true
    · rw [har, if_pos b1, if_pos b1]
      obtain ⟨j, rfl, hj, hl⟩ := (y_areI hm at0 (n := N) (by omega)).mp har
      have hp := l_mp hm h r (h &&& 511) (nI j) 9 0 j w (by decide) hj (by rw [h4]; exact hl)
      refine Or.inl ⟨rfl, ?_⟩
      refine hp.trans ?_
      rw [p_writeList, h1, l_map]
    · have har2 : f_Memory_areThere q at0 (nI N) = false := by simpa using har
      rw [har2, if_neg b0, if_neg b0, hbad]
      exact Or.inr ⟨rfl, rfl, rfl, rfl, rfl, hi_upd (by decide) (hi_r r)⟩

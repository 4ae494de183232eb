theorem y_nI {a b : Nat} (ha : a < 2 ^ 31) (hb : b < 2 ^ 31) (h : nI a = nI b) : a = b := (nI_eq ha hb).mp h
theorem y_is4 {q : Int32} {nw : Nat} (hm : tc_mem q nw) (b : Int32) : f_Memory_isThere q b 4 = true ↔ ∃ j : Nat, b = nI j ∧ j % 4 = 0 ∧ j + 4 ≤ 4 * nw := by
  constructor
  · intro h
    obtain ⟨j, k, e1, e2, hk, h1, h2, h3⟩ := p_thereN hm (Or.inr (Or.inr rfl)) h
    have e4 : k = 4 := (y_nI (a := 4) (by decide) (by omega) e2).symm
    subst e4
    exact ⟨j, e1, h1, h2⟩
  · intro h
    obtain ⟨j, rfl, h1, h2⟩ := h
    obtain ⟨m1, m2, m3⟩ := hm
    have e : nI j &&& (4 - 1) = 0 := by
      have e0 := m_mask (j := j) (k := 4) (by omega) (Or.inr (Or.inr rfl))
      rw [h1] at e0
      exact e0
    have g1 : ¬ nI j < 0 := nI_pos (by omega)
    have g2 : ¬ (q - 4) < nI j := by
      have e4 : (4 : Int32).toInt = 4 := by decide
      rw [Int32.lt_iff_toInt_lt, tc_sub (by omega) (by omega), nI_toInt (by omega), e4]
      omega
    unfold f_Memory_isThere f_Memory_holds
    simp only [bd]
    rw [if_neg (fun k => k e), if_neg g1, if_neg g2, if_neg (by decide)]
theorem y_areI {q : Int32} {nw : Nat} (hm : tc_mem q nw) (a : Int32) {n : Nat} (hn : n ≤ 16) : f_Memory_areThere q a (nI n) = true ↔ ∃ j : Nat, a = nI j ∧ j % 4 = 0 ∧ j + 4 * n ≤ 4 * nw := by
  have e4 : (4 : Int32) * nI n = nI (4 * n) := (by decide +kernel : ∀ n, n < 17 → (4 : Int32) * nI n = nI (4 * n)) n (by omega)
  constructor
  · intro h
    have h2 := tc_areT (c := nI n) hm (by rw [nI_toInt (by omega)]; omega) h
    rw [nI_toInt (by omega)] at h2
    obtain ⟨h0, h1⟩ := h2
    obtain ⟨j, hj, rfl⟩ := nI_of (tc_nn h0)
    obtain ⟨m1, m2, m3⟩ := hm
    rw [nI_toInt hj] at h1
    refine ⟨j, rfl, ?_, by omega⟩
    unfold f_Memory_areThere at h
    by_cases g : ¬ (nI j &&& 3) = 0
    · rw [if_pos g] at h
      cases h
    · have e0 : nI j &&& 3 = nI (j % 4) := m_mask (j := j) (k := 4) (by omega) (Or.inr (Or.inr rfl))
      have g2 : nI (j % 4) = nI 0 := (e0.symm.trans (Decidable.not_not.mp g)).trans (by decide)
      exact y_nI (by omega) (by omega) g2
  · intro h
    obtain ⟨j, rfl, h1, h2⟩ := h
    obtain ⟨m1, m2, m3⟩ := hm
    have e : nI j &&& 3 = 0 := by
      have e0 : nI j &&& 3 = nI (j % 4) := m_mask (j := j) (k := 4) (by omega) (Or.inr (Or.inr rfl))
      rw [e0, h1]
      decide
    have g1 : ¬ nI j < 0 := nI_pos (by omega)
    have g2 : ¬ (q - 4 * nI n) < nI j := by
      rw [e4, Int32.lt_iff_toInt_lt, tc_sub (by rw [nI_toInt (by omega)]; omega) (by rw [nI_toInt (by omega)]; omega), nI_toInt (by omega), nI_toInt (by omega)]
      omega
    unfold f_Memory_areThere
    rw [if_neg (fun k => k e), if_neg g1, if_neg g2]
/-- the words a, a + 4 .. : n of them are there, one by one -/
def allN (q a : Int32) : Nat → Bool
  | 0 => true
  | n + 1 => allN q a n && f_Memory_isThere q (a + nI (4 * n)) 4
theorem y_allI {q : Int32} {nw : Nat} (hm : tc_mem q nw) (a : Int32) : ∀ n : Nat, 0 < n → n ≤ 16 → (allN q a n = true ↔ ∃ j : Nat, a = nI j ∧ j % 4 = 0 ∧ j + 4 * n ≤ 4 * nw) := by
  intro n
  induction n with
  | zero =>
    intro h
    omega
  | succ n ih =>
    intro h0 hn
    have hms := hm
    obtain ⟨m1, m2, m3⟩ := hms
    unfold allN
    rw [Bool.and_eq_true, y_is4 hm]
    rcases Nat.eq_zero_or_pos n with h | h
    · subst h
      have e0 : a + nI (4 * 0) = a := by
        have e1 : nI (4 * 0) = 0 := by decide
        rw [e1, Int32.add_zero]
      rw [e0]
      constructor
      · intro h
        exact h.2
      · intro h
        exact ⟨rfl, h⟩
    · rw [ih h (by omega)]
      constructor
      · intro h
        obtain ⟨⟨j, rfl, h1, h2⟩, i, e, h3, h4⟩ := h
        rw [nI_add] at e
        have e2 := y_nI (by omega) (by omega) e
        exact ⟨j, rfl, h1, by omega⟩
      · intro h
        obtain ⟨j, rfl, h1, h2⟩ := h
        exact ⟨⟨j, rfl, h1, by omega⟩, j + 4 * n, nI_add _ _, by omega, by omega⟩
theorem y_all {q : Int32} {nw : Nat} (hm : tc_mem q nw) (a : Int32) {n : Nat} (h0 : 0 < n) (hn : n ≤ 16) : allN q a n = f_Memory_areThere q a (nI n) := by
  rw [Bool.eq_iff_iff, y_allI hm a n h0 hn, y_areI hm a hn]
/-- the words from number k on, m of them -/
def allF (q a : Int32) : Nat → Nat → Bool
  | _, 0 => true
  | k, m + 1 => f_Memory_isThere q (a + nI (4 * k)) 4 && allF q a (k + 1) m
theorem y_NF (q a : Int32) : ∀ m k : Nat, allN q a (k + m) = (allN q a k && allF q a k m) := by
  intro m
  induction m with
  | zero =>
    intro k
    simp [allF]
  | succ m ih =>
    intro k
    have e : k + (m + 1) = (k + 1) + m := by omega
    rw [e, ih (k + 1)]
    show (allN q a k && f_Memory_isThere q (a + nI (4 * k)) 4 && allF q a (k + 1) m) = (allN q a k && (f_Memory_isThere q (a + nI (4 * k)) 4 && allF q a (k + 1) m))
    rw [Bool.and_assoc]
theorem y_4k : ∀ k : Nat, k < 17 → (4 : Int32) * nI k = nI (4 * k) := by decide +kernel
theorem y_mall (q a : Int32) {N : Nat} (hN : N ≤ 16) : ∀ (m k : Nat) (b : Bool), k + m = N → k_ThumbCoreModel_allThere_5 q (m + 1) a (nI N) b (nI k) = (b && allF q a k m) := by
  intro m
  induction m with
  | zero =>
    intro k b h
    unfold k_ThumbCoreModel_allThere_5
    rw [if_pos (nI_le (by omega) (by omega))]
    simp [allF]
  | succ m ih =>
    intro k b h
    unfold k_ThumbCoreModel_allThere_5 k_ThumbCoreModel_allThere_33 k_ThumbCoreModel_allThere_34
    rw [if_neg (nI_ge (by omega) (by omega))]
    simp only [bd]
    rw [p_there _ _ _ (Or.inr (Or.inr rfl)), y_4k k (by omega), nI_1]
    show _ = (b && (f_Memory_isThere q (a + nI (4 * k)) 4 && allF q a (k + 1) m))
    cases b
    · rw [if_pos (by decide), ih (k + 1) false (by omega)]
      simp
    · rw [if_neg (by decide)]
      cases f_Memory_isThere q (a + nI (4 * k)) 4
      · rw [if_pos (by decide), ih (k + 1) false (by omega)]
        simp
      · rw [if_neg (by decide), ih (k + 1) true (by omega)]
        simp
theorem p_allThere {q : Int32} {nw : Nat} (hm : tc_mem q nw) (a : Int32) {N : Nat} (h0 : 0 < N) (hN : N ≤ 16) : f_ThumbCoreModel_allThere q a (nI N) = f_Memory_areThere q a (nI N) := by
  unfold f_ThumbCoreModel_allThere
  have e : (Int32.toInt (nI N)).toNat.succ = N + 1 := by
    rw [nI_toInt (by omega)]
    rfl
  have e2 := y_mall q a hN N 0 true (by omega)
  have e3 := y_NF q a N 0
  rw [Nat.zero_add] at e3
  have e4 : allN q a 0 = true := rfl
  rw [e, ← y_all hm a h0 hN, e3, e4]
  exact e2

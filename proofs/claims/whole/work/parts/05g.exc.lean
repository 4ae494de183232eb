theorem x_1 : ∀ e : Nat, e < 32 → ∀ i : Nat, i < 32 → bt (o_ishl 1 (nI e)) i = decide (i = e) := by decide +kernel
theorem x_set (p : Int32) {e : Nat} (he : e < 32) : bt (p ||| o_ishl 1 (nI e)) = va_up (bt p) e true := by
  funext i
  unfold va_up
  rcases Nat.lt_or_ge i 32 with h | h
  · rw [b_or, x_1 e he i h]
    by_cases g : i = e
    · simp [g]
    · simp [g]
  · have g : ¬ i = e := by omega
    rw [b_big h, if_neg g, b_big h]
theorem x_clr (p : Int32) {e : Nat} (he : e < 32) : bt (p &&& ((o_ishl 1 (nI e)) ^^^ (-1))) = va_up (bt p) e false := by
  funext i
  unfold va_up
  rcases Nat.lt_or_ge i 32 with h | h
  · rw [b_and, b_xor, x_1 e he i h, b_m1 i h]
    by_cases g : i = e
    · simp [g]
    · simp [g]
  · have g : ¬ i = e := by omega
    rw [b_big h, if_neg g, b_big h]
theorem x_bit (a : Int32) {j : Nat} (hj : j < 32) : (o_iushr a (nI j) &&& 1) = 1 ↔ bt a j = true := by
  rw [s_is1]
  show bt ((a.toUInt32 >>> ((nI j).toUInt32 &&& Int32.toUInt32 31)).toInt32) 0 = true ↔ _
  rw [b_ushr j hj, Nat.add_zero]
theorem x_bI {b : Bool} : bI b = 0 ↔ ¬ b = true := by cases b <;> decide
def pmask (pm mk : Bool) (r : Int32) : Int32 := if bI pm = 0 then r else if bI mk = 0 then r else if r ≤ 0 then r else 0
theorem x_pres (mk pm : Bool) (a : Int32) (pr : Nat → Int32) : ∀ (n : Nat) (y k : Int32), tc_lp k 16 n → k_ThumbCoreModel_present_4 mk (bt a) pr n pm y k = pmask pm mk (k_Exceptions_presentUnmasked_4 a pr n y k) := by
  intro n
  induction n with
  | zero =>
    intro y k h
    exact (tc_lp0 h).elim
  | succ n ih =>
    intro y k h
    unfold k_ThumbCoreModel_present_4 k_Exceptions_presentUnmasked_4 k_ThumbCoreModel_present_38 k_ThumbCoreModel_present_39 k_Exceptions_presentUnmasked_33
    simp only [bd]
    by_cases g : 15 < k
    · have g2 : (16 : Int32) ≤ k := by
        rw [Int32.lt_iff_toInt_lt] at g
        rw [Int32.le_iff_toInt_le]
        have e1 : (15 : Int32).toInt = 15 := by decide
        have e2 : (16 : Int32).toInt = 16 := by decide
        omega
      rw [if_pos g, if_pos g2]
      rfl
    · have hgd : k.toInt < ((16 : Nat) : Int) := tc_ggt g (by decide)
      have g2 : ¬ (16 : Int32) ≤ k := by
        rw [Int32.le_iff_toInt_le]
        have e2 : (16 : Int32).toInt = 16 := by decide
        omega
      have hk2 := tc_lpS h hgd (by decide)
      rw [if_neg g, if_neg g2]
      obtain ⟨j, hj, rfl⟩ := nI_of (tc_nn h.1)
      have hj16 : j < 16 := by
        rw [nI_toInt hj] at hgd
        omega
      have eb := x_bit a (j := j) (by omega)
      rw [nI_clamp (by omega)]
      by_cases hb : bt a j = true
      · have c1 : ¬ ¬ (o_iushr a (nI j) &&& 1) = 1 := fun q => q (eb.mpr hb)
        have c2 : ¬ bI (bt a j) = 0 := fun q => x_bI.mp q hb
        rw [if_neg c2, if_neg c1]
        unfold o_min
        by_cases hp : y ≤ pr j
        · rw [if_pos hp, if_neg (Int32.not_lt.mpr hp)]
          exact ih _ _ hk2
        · rw [if_neg hp, if_pos (Int32.not_le.mp hp)]
          exact ih _ _ hk2
      · have c1 : ¬ (o_iushr a (nI j) &&& 1) = 1 := fun q => hb (eb.mp q)
        have c2 : bI (bt a j) = 0 := x_bI.mpr hb
        rw [if_pos c2, if_pos c1]
        exact ih _ _ hk2
theorem p_presU (mk : Bool) (a : Int32) (pr : Nat → Int32) : f_ThumbCoreModel_present mk (bt a) pr false = f_Exceptions_presentUnmasked a pr := by
  unfold f_ThumbCoreModel_present f_Exceptions_presentUnmasked
  rw [x_pres mk false a pr 17 4 0 (tc_lpE 16)]
  rfl
theorem p_pres (mk : Bool) (a : Int32) (pr : Nat → Int32) : f_ThumbCoreModel_present mk (bt a) pr true = f_Exceptions_present a mk pr := by
  unfold f_ThumbCoreModel_present f_Exceptions_present f_Exceptions_presentUnmasked
  simp only [bd]
  rw [x_pres mk true a pr 17 4 0 (tc_lpE 16)]
  unfold pmask
  rw [if_neg (by decide)]
  generalize k_Exceptions_presentUnmasked_4 a pr 17 4 0 = r
  by_cases g : bI mk = 0
  · rw [if_pos g, if_pos g]
  · rw [if_neg g, if_neg g]
    unfold o_min
    by_cases h : r ≤ 0
    · rw [if_pos h, if_neg (Int32.not_lt.mpr h)]
    · rw [if_neg h, if_pos (Int32.not_le.mp h)]
theorem x_ms {p : Int32} {pr : Nat → Int32} {n j : Nat} {b u : Int32} (hj : j < 16) : k_Exceptions_mostUrgent_7 p pr (n + 1) b u (nI j) = k_Exceptions_mostUrgent_7 p pr n (if bt p j = true ∧ pr j < u then nI j else b) (if bt p j = true ∧ pr j < u then pr j else u) (nI (j + 1)) := by
  have g : ¬ (15 : Int32) < nI j := nI_nlt (a := 15) (b := j) (by omega) (by decide)
  have eb := x_bit p (j := j) (by omega)
  rw [k_Exceptions_mostUrgent_7]
  unfold k_Exceptions_mostUrgent_49
  simp only [bd]
  rw [if_neg g, nI_clamp (by omega), nI_1]
  by_cases hb : bt p j = true
  · rw [if_neg (fun q => q (eb.mpr hb))]
    by_cases hp : u ≤ pr j
    · have h2 : ¬ (bt p j = true ∧ pr j < u) := fun q => Int32.not_lt.mpr hp q.2
      rw [if_pos hp, if_neg h2, if_neg h2]
    · have h2 : bt p j = true ∧ pr j < u := ⟨hb, Int32.not_le.mp hp⟩
      rw [if_neg hp, if_pos h2, if_pos h2]
  · have h2 : ¬ (bt p j = true ∧ pr j < u) := fun q => hb q.1
    rw [if_pos (fun q => hb (eb.mp q)), if_neg h2, if_neg h2]
theorem x_ms0 {p : Int32} {pr : Nat → Int32} {n j : Nat} {b u : Int32} (hb : bt p j = false) (hj : j < 16) : k_Exceptions_mostUrgent_7 p pr (n + 1) b u (nI j) = k_Exceptions_mostUrgent_7 p pr n b u (nI (j + 1)) := by
  have h2 : ¬ (bt p j = true ∧ pr j < u) := fun q => by rw [hb] at q; exact absurd q.1 (by decide)
  rw [x_ms hj, if_neg h2, if_neg h2]
theorem x_ws {p : Int32} {pr : Nat → Int32} {n j : Nat} {b u : Int32} (hj : j < 15) : k_ThumbCoreModel_waiting_5 (bt p) pr (n + 1) u b (nI (j + 1)) = k_ThumbCoreModel_waiting_5 (bt p) pr n u (if bt p (j + 1) = true ∧ pr (j + 1) < u ∧ (b = 0 ∨ pr (j + 1) ≤ pr b.toNatClampNeg) then nI (j + 1) else b) (nI j) := by
  have g : ¬ nI (j + 1) ≤ 0 := nI_nle (by omega) (by omega)
  have e : nI (j + 1) + (-1) = nI j := (by decide +kernel : ∀ j, j < 15 → nI (j + 1) + (-1) = nI j) j hj
  rw [k_ThumbCoreModel_waiting_5]
  unfold k_ThumbCoreModel_waiting_32 k_ThumbCoreModel_waiting_33 k_ThumbCoreModel_waiting_59 k_ThumbCoreModel_waiting_63 k_ThumbCoreModel_waiting_64
  rw [if_neg g, nI_clamp (by omega), e]
  by_cases hb : bt p (j + 1) = true
  · rw [if_neg (fun q => x_bI.mp q hb)]
    by_cases hp : u ≤ pr (j + 1)
    · have h2 : ¬ (bt p (j + 1) = true ∧ pr (j + 1) < u ∧ (b = 0 ∨ pr (j + 1) ≤ pr b.toNatClampNeg)) := fun q => Int32.not_lt.mpr hp q.2.1
      rw [if_pos hp, if_pos (by decide), if_neg h2]
    · rw [if_neg hp, if_neg (by decide)]
      by_cases h0 : b = 0
      · have h2 : bt p (j + 1) = true ∧ pr (j + 1) < u ∧ (b = 0 ∨ pr (j + 1) ≤ pr b.toNatClampNeg) := ⟨hb, Int32.not_le.mp hp, Or.inl h0⟩
        rw [if_pos h0, if_pos h2]
      · rw [if_neg h0]
        by_cases h1 : pr b.toNatClampNeg < pr (j + 1)
        · have h2 : ¬ (bt p (j + 1) = true ∧ pr (j + 1) < u ∧ (b = 0 ∨ pr (j + 1) ≤ pr b.toNatClampNeg)) := fun q => q.2.2.elim h0 (fun q => Int32.not_le.mpr h1 q)
          rw [if_pos h1, if_neg h2]
        · have h2 : bt p (j + 1) = true ∧ pr (j + 1) < u ∧ (b = 0 ∨ pr (j + 1) ≤ pr b.toNatClampNeg) := ⟨hb, Int32.not_le.mp hp, Or.inr (Int32.not_lt.mp h1)⟩
          rw [if_neg h1, if_pos h2]
  · have h2 : ¬ (bt p (j + 1) = true ∧ pr (j + 1) < u ∧ (b = 0 ∨ pr (j + 1) ≤ pr b.toNatClampNeg)) := fun q => hb q.1
    rw [if_pos (x_bI.mpr hb), if_pos (by decide), if_neg h2]
theorem x_ws0 {p : Int32} {pr : Nat → Int32} {n j : Nat} {b u : Int32} (hb : bt p (j + 1) = false) (hj : j < 15) : k_ThumbCoreModel_waiting_5 (bt p) pr (n + 1) u b (nI (j + 1)) = k_ThumbCoreModel_waiting_5 (bt p) pr n u b (nI j) := by
  have h2 : ¬ (bt p (j + 1) = true ∧ pr (j + 1) < u ∧ (b = 0 ∨ pr (j + 1) ≤ pr b.toNatClampNeg)) := fun q => by rw [hb] at q; exact absurd q.1 (by decide)
  rw [x_ws hj, if_neg h2]
theorem x_mE {p : Int32} {pr : Nat → Int32} {n : Nat} {b u : Int32} : k_Exceptions_mostUrgent_7 p pr (n + 1) b u (nI (15 + 1)) = b := by
  have g : (15 : Int32) < nI (15 + 1) := by decide
  rw [k_Exceptions_mostUrgent_7, if_pos g]
theorem x_wE {p : Int32} {pr : Nat → Int32} {n : Nat} {b u : Int32} : k_ThumbCoreModel_waiting_5 (bt p) pr (n + 1) u b (nI 0) = b := by
  have g : nI 0 ≤ 0 := by decide
  rw [k_ThumbCoreModel_waiting_5, if_pos g]
/-- only 2, 14 and 15 can wait -/
def penOK (p : Int32) : Prop := ∀ j : Nat, j ≠ 2 → j ≠ 14 → j ≠ 15 → bt p j = false
theorem p_wait {p : Int32} (hp : penOK p) (pr : Nat → Int32) (u : Int32) : f_ThumbCoreModel_waiting (bt p) pr u = f_Exceptions_mostUrgent p pr u := by
  have hz : ∀ j : Nat, j ≠ 2 → j ≠ 14 → j ≠ 15 → bt p j = false := hp
  have e1 : f_Exceptions_mostUrgent p pr u = k_Exceptions_mostUrgent_7 p pr 17 0 u (nI 0) := rfl
  have e2 : f_ThumbCoreModel_waiting (bt p) pr u = k_ThumbCoreModel_waiting_5 (bt p) pr 17 u 0 (nI 15) := rfl
  rw [e1, e2]
  rw [x_ms0 (j := 0) (hz 0 (by decide) (by decide) (by decide)) (by decide), x_ms0 (j := 1) (hz 1 (by decide) (by decide) (by decide)) (by decide), x_ms (j := 2) (by decide), x_ms0 (j := 3) (hz 3 (by decide) (by decide) (by decide)) (by decide), x_ms0 (j := 4) (hz 4 (by decide) (by decide) (by decide)) (by decide), x_ms0 (j := 5) (hz 5 (by decide) (by decide) (by decide)) (by decide), x_ms0 (j := 6) (hz 6 (by decide) (by decide) (by decide)) (by decide), x_ms0 (j := 7) (hz 7 (by decide) (by decide) (by decide)) (by decide), x_ms0 (j := 8) (hz 8 (by decide) (by decide) (by decide)) (by decide), x_ms0 (j := 9) (hz 9 (by decide) (by decide) (by decide)) (by decide), x_ms0 (j := 10) (hz 10 (by decide) (by decide) (by decide)) (by decide), x_ms0 (j := 11) (hz 11 (by decide) (by decide) (by decide)) (by decide), x_ms0 (j := 12) (hz 12 (by decide) (by decide) (by decide)) (by decide), x_ms0 (j := 13) (hz 13 (by decide) (by decide) (by decide)) (by decide), x_ms (j := 14) (by decide), x_ms (j := 15) (by decide)]
  rw [x_ws (j := 14) (by decide), x_ws (j := 13) (by decide), x_ws0 (j := 12) (hz 13 (by decide) (by decide) (by decide)) (by decide), x_ws0 (j := 11) (hz 12 (by decide) (by decide) (by decide)) (by decide), x_ws0 (j := 10) (hz 11 (by decide) (by decide) (by decide)) (by decide), x_ws0 (j := 9) (hz 10 (by decide) (by decide) (by decide)) (by decide), x_ws0 (j := 8) (hz 9 (by decide) (by decide) (by decide)) (by decide), x_ws0 (j := 7) (hz 8 (by decide) (by decide) (by decide)) (by decide), x_ws0 (j := 6) (hz 7 (by decide) (by decide) (by decide)) (by decide), x_ws0 (j := 5) (hz 6 (by decide) (by decide) (by decide)) (by decide), x_ws0 (j := 4) (hz 5 (by decide) (by decide) (by decide)) (by decide), x_ws0 (j := 3) (hz 4 (by decide) (by decide) (by decide)) (by decide), x_ws0 (j := 2) (hz 3 (by decide) (by decide) (by decide)) (by decide), x_ws (j := 1) (by decide), x_ws0 (j := 0) (hz 1 (by decide) (by decide) (by decide)) (by decide)]
  rw [x_mE, x_wE]
  have c2 : (nI (1 + 1)).toNatClampNeg = 2 := by decide
  have c14 : (nI (13 + 1)).toNatClampNeg = 14 := by decide
  have c15 : (nI (14 + 1)).toNatClampNeg = 15 := by decide
  have n2 : ¬ nI (1 + 1) = 0 := by decide
  have n14 : ¬ nI (13 + 1) = 0 := by decide
  have n15 : ¬ nI (14 + 1) = 0 := by decide
  have c2' : (nI 2).toNatClampNeg = 2 := by decide
  have c14' : (nI 14).toNatClampNeg = 14 := by decide
  have c15' : (nI 15).toNatClampNeg = 15 := by decide
  have n2' : ¬ nI 2 = 0 := by decide
  have n14' : ¬ nI 14 = 0 := by decide
  have n15' : ¬ nI 15 = 0 := by decide
  simp only [Int32.lt_iff_toInt_lt, Int32.le_iff_toInt_le]
  generalize bt p 2 = b2
  generalize bt p 14 = b14
  generalize bt p 15 = b15
  cases b2 <;> cases b14 <;> cases b15 <;> by_cases h2 : (pr 2).toInt < u.toInt <;> by_cases h14 : (pr 14).toInt < u.toInt <;> by_cases h15 : (pr 15).toInt < u.toInt <;> simp [h2, h14, h15, c2, c14, c15, n2, n14, n15, c2', c14', c15', n2', n14', n15']
  all_goals (by_cases ha : (pr 14).toInt < (pr 2).toInt <;> by_cases hb : (pr 15).toInt < (pr 14).toInt <;> by_cases hc : (pr 15).toInt < (pr 2).toInt <;> simp [ha, hb, hc, c2', c14', c15', n2', n14', n15'])
  all_goals (repeat' split)
  all_goals first | rfl | (exfalso; omega) | (intro hh; exfalso; omega) | (intro hh hi; exfalso; omega) | (intro _ hh; simp [c14', c15'] at hh; exfalso; omega) | (rename_i hh; simp [n14', n15', c14', c15'] at hh; exfalso; omega) | (rename_i hg hh; simp [n14', n15', c14', c15'] at hh; exfalso; omega) | skip

/-- the same from place 16 on -/
def hi16 (f r : Nat → Int32) : Prop := ∀ i : Nat, 16 ≤ i → f i = r i
theorem hi_r (r : Nat → Int32) : hi16 r r := fun _ _ => rfl
theorem hi_upd {f r : Nat → Int32} {k : Nat} {x : Int32} (hk : k < 16) (h : hi16 f r) : hi16 (upd f k x) r := by
  intro i hi
  unfold upd
  rw [if_neg (by omega)]
  exact h i hi
theorem hi_d7 (x : Int32) : (x &&& 7).toNatClampNeg < 16 := Nat.not_le.mp fun q => tc_in7 x (Or.inr q)
/-- an instruction that reads or writes memory: the class's answer, words and registers against the reference's -/
def lsOK (w r : Nat → Int32) (t m : Bool × (Nat → Int32) × (Nat → Int32)) : Prop := (t.1 = true ∧ m = (false, byt t.2.1, t.2.2)) ∨ (t.1 = false ∧ t.2.1 = w ∧ t.2.2 = r ∧ m.1 = true ∧ m.2.1 = byt w ∧ hi16 m.2.2 r)
theorem ls_store {q : Int32} {nw : Nat} (hm : tc_mem q nw) (w r : Nat → Int32) (d a n : Int32) (hn : n = 1 ∨ n = 2 ∨ n = 4) : lsOK w r (un2 (f_ThumbCore_store q r w d a n) (fun r7 s8 => (r7, s8, r))) (un2 (f_ThumbCoreModel_write q false (byt w) a (r d.toNatClampNeg) n) (fun s1 s2 => (s1, s2, r))) := by
  have b0 : ¬ ¬ bI false = 0 := by decide
  have b1 : ¬ bI true = 0 := by decide
  rw [p_write hm w false a _ n hn]
  unfold f_ThumbCore_store
  simp only [bd]
  by_cases h : f_Memory_isThere q a n = true
  · rw [if_pos h, h, if_pos b1]
    exact Or.inl ⟨rfl, rfl⟩
  · have h2 : f_Memory_isThere q a n = false := by simpa using h
    rw [if_neg h, h2, if_neg b0]
    exact Or.inr ⟨rfl, rfl, rfl, rfl, rfl, hi_r r⟩
theorem ls_load {q : Int32} {nw : Nat} (hm : tc_mem q nw) (w r : Nat → Int32) (d a n : Int32) (hd : d.toNatClampNeg < 16) (hn : n = 1 ∨ n = 2 ∨ n = 4) : lsOK w r (un2 (f_ThumbCore_load q w r d a n) (fun r5 s6 => (r5, w, s6))) (un2 (f_ThumbCoreModel_read q (byt w) false a n) (fun r9 s10 => (s10, byt w, upd r d.toNatClampNeg r9))) := by
  have b0 : ¬ ¬ bI false = 0 := by decide
  have b1 : ¬ bI true = 0 := by decide
  rw [p_read hm w false a n hn]
  unfold f_ThumbCore_load
  simp only [bd]
  by_cases h : f_Memory_isThere q a n = true
  · rw [if_pos h, h, if_pos b1]
    exact Or.inl ⟨rfl, rfl⟩
  · have h2 : f_Memory_isThere q a n = false := by simpa using h
    rw [if_neg h, h2, if_neg b0]
    exact Or.inr ⟨rfl, rfl, rfl, rfl, rfl, hi_upd hd (hi_r r)⟩
theorem ls_load1 {q : Int32} {nw : Nat} (hm : tc_mem q nw) (w r : Nat → Int32) (d a : Int32) (hd : d.toNatClampNeg < 16) : lsOK w r (un2 (f_ThumbCore_loadSigned q w r d a 1) (fun r5 s6 => (r5, w, s6))) (un2 (f_ThumbCoreModel_read q (byt w) false a 1) (fun r9 s10 => (s10, byt w, upd r d.toNatClampNeg r9.toInt8.toInt32))) := by
  have b0 : ¬ ¬ bI false = 0 := by decide
  have b1 : ¬ bI true = 0 := by decide
  have c1 : ¬ ¬ (1 : Int32) = 1 := by decide
  rw [p_read hm w false a 1 (Or.inl rfl)]
  unfold f_ThumbCore_loadSigned k_ThumbCore_loadSigned_44
  simp only [bd]
  by_cases h : f_Memory_isThere q a 1 = true
  · rw [if_pos h, h, if_pos b1]
    exact Or.inl ⟨rfl, rfl⟩
  · have h2 : f_Memory_isThere q a 1 = false := by simpa using h
    rw [if_neg h, h2, if_neg b0]
    exact Or.inr ⟨rfl, rfl, rfl, rfl, rfl, hi_upd hd (hi_r r)⟩
theorem ls_load2 {q : Int32} {nw : Nat} (hm : tc_mem q nw) (w r : Nat → Int32) (d a : Int32) (hd : d.toNatClampNeg < 16) : lsOK w r (un2 (f_ThumbCore_loadSigned q w r d a 2) (fun r5 s6 => (r5, w, s6))) (un2 (f_ThumbCoreModel_read q (byt w) false a 2) (fun r9 s10 => (s10, byt w, upd r d.toNatClampNeg r9.toInt16.toInt32))) := by
  have b0 : ¬ ¬ bI false = 0 := by decide
  have b1 : ¬ bI true = 0 := by decide
  have c1 : ¬ (2 : Int32) = 1 := by decide
  rw [p_read hm w false a 2 (Or.inr (Or.inl rfl))]
  unfold f_ThumbCore_loadSigned k_ThumbCore_loadSigned_44
  simp only [bd]
  by_cases h : f_Memory_isThere q a 2 = true
  · rw [if_pos h, h, if_pos b1, if_pos c1]
    exact Or.inl ⟨rfl, rfl⟩
  · have h2 : f_Memory_isThere q a 2 = false := by simpa using h
    rw [if_neg h, h2, if_neg b0]
    exact Or.inr ⟨rfl, rfl, rfl, rfl, rfl, hi_upd hd (hi_r r)⟩
theorem mv_k (q : Int32) (bad : Bool) (m r : Nat → Int32) (d a : Int32) : f_ThumbCoreModel_moves q bad m r 0 d a = un2 (f_ThumbCoreModel_write q bad m a (r d.toNatClampNeg) 4) (fun s1 s2 => (s1, s2, r)) ∧ f_ThumbCoreModel_moves q bad m r 1 d a = un2 (f_ThumbCoreModel_write q bad m a (r d.toNatClampNeg) 2) (fun s1 s2 => (s1, s2, r)) ∧ f_ThumbCoreModel_moves q bad m r 2 d a = un2 (f_ThumbCoreModel_write q bad m a (r d.toNatClampNeg) 1) (fun s1 s2 => (s1, s2, r)) ∧ f_ThumbCoreModel_moves q bad m r 4 d a = un2 (f_ThumbCoreModel_read q m bad a 4) (fun r9 s10 => (s10, m, upd r d.toNatClampNeg r9)) ∧ f_ThumbCoreModel_moves q bad m r 5 d a = un2 (f_ThumbCoreModel_read q m bad a 2) (fun r9 s10 => (s10, m, upd r d.toNatClampNeg r9)) ∧ f_ThumbCoreModel_moves q bad m r 6 d a = un2 (f_ThumbCoreModel_read q m bad a 1) (fun r9 s10 => (s10, m, upd r d.toNatClampNeg r9)) := ⟨rfl, rfl, rfl, rfl, rfl, rfl⟩
theorem p_atSum {q : Int32} {nw : Nat} (hm : tc_mem q nw) {h : Int32} (hh : isH h) (w r : Nat → Int32) : lsOK w r (f_ThumbCore_atSum q w r h) (f_ThumbCoreModel_moves q false (byt w) r (o_ishr h 9 &&& 7) (f_ThumbCoreModel_field h 0) (r (f_ThumbCoreModel_field h 3).toNatClampNeg + r (f_ThumbCoreModel_field h 6).toNatClampNeg)) := by
  have e3 : o_ishr h 3 = o_iushr h 3 := i_sh hh 3 (by decide)
  have e6 : o_ishr h 6 = o_iushr h 6 := i_sh hh 6 (by decide)
  have e9 : o_ishr h 9 = o_iushr h 9 := i_sh hh 9 (by decide)
  have h0 : o_ishr h 0 = h := i_0 h
  unfold f_ThumbCore_atSum f_ThumbCoreModel_field f_ThumbCoreModel_moves
  simp only [bd, e3, e6, e9, h0]
  generalize (o_iushr h 9 &&& 7) = k
  generalize (r (o_iushr h 3 &&& 7).toNatClampNeg + r (o_iushr h 6 &&& 7).toNatClampNeg) = a
  by_cases g0 : k = 0
  · rw [if_pos g0, if_pos g0]
    exact ls_store hm w r _ a 4 (Or.inr (Or.inr rfl))
  rw [if_neg g0, if_neg g0]
  by_cases g1 : k = 1
  · rw [if_pos g1, if_pos g1]
    exact ls_store hm w r _ a 2 (Or.inr (Or.inl rfl))
  rw [if_neg g1, if_neg g1]
  by_cases g2 : k = 2
  · rw [if_pos g2, if_pos g2]
    exact ls_store hm w r _ a 1 (Or.inl rfl)
  rw [if_neg g2, if_neg g2]
  by_cases g3 : k = 3
  · rw [if_pos g3, if_pos g3]
    exact ls_load1 hm w r _ a (hi_d7 h)
  rw [if_neg g3, if_neg g3]
  by_cases g4 : k = 4
  · rw [if_pos g4, if_pos g4]
    exact ls_load hm w r _ a 4 (hi_d7 h) (Or.inr (Or.inr rfl))
  rw [if_neg g4, if_neg g4]
  by_cases g5 : k = 5
  · rw [if_pos g5, if_pos g5]
    exact ls_load hm w r _ a 2 (hi_d7 h) (Or.inr (Or.inl rfl))
  rw [if_neg g5, if_neg g5]
  by_cases g6 : k = 6
  · rw [if_pos g6, if_pos g6]
    exact ls_load hm w r _ a 1 (hi_d7 h) (Or.inl rfl)
  rw [if_neg g6, if_neg g6]
  exact ls_load2 hm w r _ a (hi_d7 h)
/-- kinds 12 .. 17: which of the reference's moves, and the distance -/
theorem p_atOffset {q : Int32} {nw : Nat} (hm : tc_mem q nw) {h : Int32} (w r : Nat → Int32) (t : Int32) (ht : o_iushr h 11 = t) :
    (t = 12 → lsOK w r (f_ThumbCore_atOffset q w r h) (f_ThumbCoreModel_moves q false (byt w) r 0 (h &&& 7) (r (o_iushr h 3 &&& 7).toNatClampNeg + 4 * (o_iushr h 6 &&& 31)))) ∧
    (t = 13 → lsOK w r (f_ThumbCore_atOffset q w r h) (f_ThumbCoreModel_moves q false (byt w) r 4 (h &&& 7) (r (o_iushr h 3 &&& 7).toNatClampNeg + 4 * (o_iushr h 6 &&& 31)))) ∧
    (t = 14 → lsOK w r (f_ThumbCore_atOffset q w r h) (f_ThumbCoreModel_moves q false (byt w) r 2 (h &&& 7) (r (o_iushr h 3 &&& 7).toNatClampNeg + (o_iushr h 6 &&& 31)))) ∧
    (t = 15 → lsOK w r (f_ThumbCore_atOffset q w r h) (f_ThumbCoreModel_moves q false (byt w) r 6 (h &&& 7) (r (o_iushr h 3 &&& 7).toNatClampNeg + (o_iushr h 6 &&& 31)))) ∧
    (t = 16 → lsOK w r (f_ThumbCore_atOffset q w r h) (f_ThumbCoreModel_moves q false (byt w) r 1 (h &&& 7) (r (o_iushr h 3 &&& 7).toNatClampNeg + 2 * (o_iushr h 6 &&& 31)))) ∧
    (t = 17 → lsOK w r (f_ThumbCore_atOffset q w r h) (f_ThumbCoreModel_moves q false (byt w) r 5 (h &&& 7) (r (o_iushr h 3 &&& 7).toNatClampNeg + 2 * (o_iushr h 6 &&& 31)))) := by
  have hu : f_ThumbCore_atOffset q w r h = f_ThumbCore_atOffset q w r h := rfl
  unfold f_ThumbCore_atOffset at *
  simp only [bd, ht] at *
  refine ⟨fun e => ?_, fun e => ?_, fun e => ?_, fun e => ?_, fun e => ?_, fun e => ?_⟩ <;> subst e
  · rw [(mv_k _ _ _ _ _ _).1, if_pos (by decide)]
    exact ls_store hm w r _ _ 4 (Or.inr (Or.inr rfl))
  · rw [(mv_k _ _ _ _ _ _).2.2.2.1, if_neg (by decide), if_pos (by decide)]
    exact ls_load hm w r _ _ 4 (hi_d7 _) (Or.inr (Or.inr rfl))
  · rw [(mv_k _ _ _ _ _ _).2.2.1, if_neg (by decide), if_neg (by decide), if_pos (by decide)]
    exact ls_store hm w r _ _ 1 (Or.inl rfl)
  · rw [(mv_k _ _ _ _ _ _).2.2.2.2.2, if_neg (by decide), if_neg (by decide), if_neg (by decide), if_pos (by decide)]
    exact ls_load hm w r _ _ 1 (hi_d7 _) (Or.inl rfl)
  · rw [(mv_k _ _ _ _ _ _).2.1, if_neg (by decide), if_neg (by decide), if_neg (by decide), if_neg (by decide), if_pos (by decide)]
    exact ls_store hm w r _ _ 2 (Or.inr (Or.inl rfl))
  · rw [(mv_k _ _ _ _ _ _).2.2.2.2.1, if_neg (by decide), if_neg (by decide), if_neg (by decide), if_neg (by decide), if_neg (by decide)]
    exact ls_load hm w r _ _ 2 (hi_d7 _) (Or.inr (Or.inl rfl))

def pfOK (lk : Bool) (w r : Nat → Int32) (n z c v : Bool) (p a cu : Int32) (mk : Bool) (t : Bool × Bool × Bool × Int32 × (Nat → Int32) × (Nat → Int32) × Bool × Bool × Bool × Bool × Int32 × Int32 × Int32 × Bool) (m : Bool × Bool × Bool × Bool × Bool × Int32 × Bool × Bool × Bool × Bool × Int32 × (Nat → Int32) × (Nat → Int32) × (Nat → Bool) × (Nat → Bool)) : Prop :=
  (t.1 = true ∧ ∃ (af : Int32) (en : Bool), m = (t.2.2.2.2.2.2.1, t.2.2.2.2.2.2.2.1, t.2.2.2.2.2.2.2.2.1, t.2.2.2.2.2.2.2.2.2.1, false, af, en, t.2.2.2.2.2.2.2.2.2.2.2.2.2, t.2.1, t.2.2.1, t.2.2.2.2.2.2.2.2.2.2.2.2.1, byt t.2.2.2.2.1, t.2.2.2.2.2.1, bt t.2.2.2.2.2.2.2.2.2.2.1, bt t.2.2.2.2.2.2.2.2.2.2.2.1) ∧ ((en = false ∧ af = t.2.2.2.1) ∨ (en = true ∧ t.2.2.2.1 = t.2.2.2.2.2.1 (15 : Int32).toNatClampNeg))) ∨
  ((∃ nx : Int32, t = (false, false, lk, nx, w, r, n, z, c, v, p, a, cu, mk)) ∧ m.2.2.2.2.1 = true ∧ m.2.2.2.2.2.2.2.1 = mk ∧ m.2.2.2.2.2.2.2.2.1 = false ∧ m.2.2.2.2.2.2.2.2.2.1 = lk ∧ m.2.2.2.2.2.2.2.2.2.2.1 = cu ∧ m.2.2.2.2.2.2.2.2.2.2.2.1 = byt w ∧ m.2.2.2.2.2.2.2.2.2.2.2.2.2.1 = bt p ∧ m.2.2.2.2.2.2.2.2.2.2.2.2.2.2 = bt a ∧ hi16 m.2.2.2.2.2.2.2.2.2.2.2.2.1 r)
theorem pf_ls (lk : Bool) (w r : Nat → Int32) (n z c v : Bool) (p a cu nx : Int32) (mk : Bool) (t m : Bool × (Nat → Int32) × (Nat → Int32)) (h : lsOK w r t m) : pfOK lk w r n z c v p a cu mk (un3 t (fun r5 s6 s7 => (r5, false, lk, nx, s6, s7, n, z, c, v, p, a, cu, mk))) (un3 m (fun s2 s3 s4 => (n, z, c, v, s2, nx, false, mk, false, lk, cu, s3, s4, bt p, bt a))) := by
  obtain ⟨t1, t2, t3⟩ := t
  obtain ⟨m1, m2, m3⟩ := m
  rcases h with ⟨p1, p2⟩ | ⟨p1, p2, p3, p4, p5, p6⟩
  · cases p2
    exact Or.inl ⟨p1, nx, false, rfl, Or.inl ⟨rfl, rfl⟩⟩
  · dsimp only at p1 p2 p3 p4 p5
    subst p1
    subst p2
    subst p3
    subst p4
    subst p5
    exact Or.inr ⟨⟨nx, rfl⟩, rfl, rfl, rfl, rfl, rfl, rfl, rfl, rfl, p6⟩
theorem pf_k (lk : Bool) (w r : Nat → Int32) (n z c v : Bool) (p a cu nx : Int32) (mk : Bool) (t : Bool × Bool × Int32 × (Nat → Int32) × (Nat → Int32) × Bool × Bool × Bool × Bool × Int32 × Int32 × Bool) (m : Bool × Bool × Bool × Bool × Bool × Int32 × Bool × Bool × Int32 × (Nat → Int32) × (Nat → Int32) × (Nat → Bool)) (h : kOK w r a cu mk n z c v nx t m) : pfOK lk w r n z c v p a cu mk (un12 t (fun r103 s104 s105 s106 s107 s108 s109 s110 s111 s112 s113 s114 => (r103, s104, lk, s105, s106, s107, s108, s109, s110, s111, p, s112, s113, s114))) (un12 m (fun s20 s21 s22 s23 s24 s25 s26 s27 s28 s29 s30 s31 => (s20, s21, s22, s23, s24, s25, false, s26, s27, lk, s28, s29, s30, bt p, s31))) := by
  rcases h with ⟨p1, p2⟩ | ⟨p1, p2, p3, p4, p5, p6, p7, p8⟩
  · rw [p2]
    exact Or.inl ⟨p1, _, false, rfl, Or.inl ⟨rfl, rfl⟩⟩
  · rw [p1]
    exact Or.inr ⟨⟨nx, rfl⟩, p2, p3, p4, rfl, p5, p6, rfl, p7, p8⟩
theorem pf_b (lk : Bool) (w r : Nat → Int32) (n z c v : Bool) (p a cu nx : Int32) (mk : Bool) (t : Bool × Bool × Int32 × (Nat → Int32) × (Nat → Int32) × Int32 × Int32 × Int32) (m : Bool × Int32 × Bool × Bool × Int32 × (Nat → Int32) × (Nat → Int32) × (Nat → Bool) × (Nat → Bool)) (h : brOK lk w r p a cu nx t m) : pfOK lk w r n z c v p a cu mk (un8 t (fun r132 s133 s134 s135 s136 s137 s138 s139 => (r132, false, s133, s134, s135, s136, n, z, c, v, s137, s138, s139, mk))) (un9 m (fun s11 s12 s13 s14 s15 s16 s17 s18 s19 => (n, z, c, v, s11, s12, s13, mk, false, s14, s15, s16, s17, s18, s19))) := by
  rcases h with ⟨p1, af, en, p2, p3⟩ | ⟨p1, p2, p3, p4, p5, p6, p7, p8⟩
  · rw [p2]
    exact Or.inl ⟨p1, af, en, rfl, p3⟩
  · rw [p1]
    exact Or.inr ⟨⟨nx, rfl⟩, p2, rfl, rfl, p3, p4, p5, p6, p7, p8⟩
theorem p_fromBase {q : Int32} {nw : Nat} (hm : tc_mem q nw) {h : Int32} (w r : Nat → Int32) (t : Int32) (ht : o_iushr h 11 = t) :
    (t = 9 → lsOK w r (f_ThumbCore_fromBase q w r h) (f_ThumbCoreModel_moves q false (byt w) r 4 (o_iushr h 8 &&& 7) (((r (15 : Int32).toNatClampNeg + 4) &&& (-4)) + 4 * (h &&& 255)))) ∧
    (t = 18 → lsOK w r (f_ThumbCore_fromBase q w r h) (f_ThumbCoreModel_moves q false (byt w) r 0 (o_iushr h 8 &&& 7) (r (13 : Int32).toNatClampNeg + 4 * (h &&& 255)))) ∧
    (t = 19 → lsOK w r (f_ThumbCore_fromBase q w r h) (f_ThumbCoreModel_moves q false (byt w) r 4 (o_iushr h 8 &&& 7) (r (13 : Int32).toNatClampNeg + 4 * (h &&& 255)))) ∧
    (t = 20 → f_ThumbCore_fromBase q w r h = (true, w, upd r (o_iushr h 8 &&& 7).toNatClampNeg (((r (15 : Int32).toNatClampNeg + 4) &&& (-4)) + 4 * (h &&& 255)))) ∧
    (t = 21 → f_ThumbCore_fromBase q w r h = (true, w, upd r (o_iushr h 8 &&& 7).toNatClampNeg (r (13 : Int32).toNatClampNeg + 4 * (h &&& 255)))) := by
  unfold f_ThumbCore_fromBase f_ThumbCore_here
  simp only [bd, ht]
  refine ⟨fun e => ?_, fun e => ?_, fun e => ?_, fun e => ?_, fun e => ?_⟩ <;> subst e
  · rw [(mv_k _ _ _ _ _ _).2.2.2.1, if_pos (by decide)]
    exact ls_load hm w r _ _ 4 (hi_d7 _) (Or.inr (Or.inr rfl))
  · rw [(mv_k _ _ _ _ _ _).1, if_neg (by decide), if_pos (by decide)]
    exact ls_store hm w r _ _ 4 (Or.inr (Or.inr rfl))
  · rw [(mv_k _ _ _ _ _ _).2.2.2.1, if_neg (by decide), if_neg (by decide), if_pos (by decide)]
    exact ls_load hm w r _ _ 4 (hi_d7 _) (Or.inr (Or.inr rfl))
  · rw [if_neg (by decide), if_neg (by decide), if_neg (by decide), if_pos (by decide)]
  · rw [if_neg (by decide), if_neg (by decide), if_neg (by decide), if_neg (by decide)]
theorem pf_0 {q : Int32} {nw : Nat} (hm : tc_mem q nw) {h : Int32} (hh : isH h) (lk : Bool) (pr w r : Nat → Int32) (n z c v : Bool) (p a cu nx : Int32) (mk : Bool) (ha : actOK a) (hcu : vp_in cu 16) (hsp : (r (13 : Int32).toNatClampNeg &&& 3) = 0) (hth : f_Memory_isThere q (r (15 : Int32).toNatClampNeg) 2 = true) (hrd : f_Memory_read w (r (15 : Int32).toNatClampNeg) 2 = h) (hT : o_iushr h 11 = 0) : pfOK lk w r n z c v p a cu mk (f_ThumbCore_perform q pr false lk nx w r n z c v p a cu mk) (f_ThumbCoreModel_perform q h pr n z c v false (r (15 : Int32).toNatClampNeg + 2) false mk false lk cu (byt w) r (bt p) (bt a)) := by
  have b1 : ¬ bI true = 0 := by decide
  have e11 : o_ishr h 11 = o_iushr h 11 := i_sh hh 11 (by decide)
  have e8 : o_ishr h 8 = o_iushr h 8 := i_sh hh 8 (by decide)
  have e6 : o_ishr h 6 = o_iushr h 6 := i_sh hh 6 (by decide)
  have e3 : o_ishr h 3 = o_iushr h 3 := i_sh hh 3 (by decide)
  have h0 : o_ishr h 0 = h := i_0 h
  have hp := p_moveC hh n z c r (Or.inl hT)
  rw [hT] at hp
  unfold f_ThumbCore_perform f_ThumbCoreModel_perform
  rw [bd_eq, bd_eq, hth, if_pos b1, bd_eq, hrd]
  simp only [bd, f_ThumbCoreModel_field, e11, e8, e6, e3, h0]
  rw [hT]
  rw [if_pos rfl]
  rw [if_neg (show ¬ (3 : Int32) ≤ 0 by decide)]
  unfold k_ThumbCoreModel_perform_84 k_ThumbCoreModel_perform_85
  have hq : (if ¬ (o_iushr h 6 &&& 31) = 0 then un4 (f_ThumbCoreModel_moved n z c 0 (r (o_iushr h 3 &&& 7).toNatClampNeg) (o_iushr h 6 &&& 31)) (fun r1 s2 s3 s4 => (s2, s3, s4, v, false, (r (15 : Int32).toNatClampNeg + 2), false, mk, false, lk, cu, byt w, (upd r (h &&& 7).toNatClampNeg r1), bt p, bt a)) else if (0 : Int32) ≤ 0 then un4 (f_ThumbCoreModel_moved n z c 0 (r (o_iushr h 3 &&& 7).toNatClampNeg) (o_iushr h 6 &&& 31)) (fun r1 s2 s3 s4 => (s2, s3, s4, v, false, (r (15 : Int32).toNatClampNeg + 2), false, mk, false, lk, cu, byt w, (upd r (h &&& 7).toNatClampNeg r1), bt p, bt a)) else un4 (f_ThumbCoreModel_moved n z c 0 (r (o_iushr h 3 &&& 7).toNatClampNeg) 32) (fun r1 s2 s3 s4 => (s2, s3, s4, v, false, (r (15 : Int32).toNatClampNeg + 2), false, mk, false, lk, cu, byt w, (upd r (h &&& 7).toNatClampNeg r1), bt p, bt a))) = (fun t : Bool × Bool × Bool × (Nat → Int32) => (t.1, t.2.1, t.2.2.1, v, false, (r (15 : Int32).toNatClampNeg + 2), false, mk, false, lk, cu, byt w, t.2.2.2, bt p, bt a)) (un4 (f_ThumbCoreModel_moved n z c 0 (r (o_iushr h 3 &&& 7).toNatClampNeg) (if ¬ (o_iushr h 6 &&& 31) = 0 then (o_iushr h 6 &&& 31) else if (0 : Int32) ≤ 0 then (o_iushr h 6 &&& 31) else 32)) (fun r1 s2 s3 s4 => (s2, s3, s4, upd r (h &&& 7).toNatClampNeg r1))) := by
    split
    · rfl
    · split
      · rfl
      · rfl
  rw [hq, hp.1]
  exact Or.inl ⟨hp.2, _, false, rfl, Or.inl ⟨rfl, rfl⟩⟩
theorem pf_1 {q : Int32} {nw : Nat} (hm : tc_mem q nw) {h : Int32} (hh : isH h) (lk : Bool) (pr w r : Nat → Int32) (n z c v : Bool) (p a cu nx : Int32) (mk : Bool) (ha : actOK a) (hcu : vp_in cu 16) (hsp : (r (13 : Int32).toNatClampNeg &&& 3) = 0) (hth : f_Memory_isThere q (r (15 : Int32).toNatClampNeg) 2 = true) (hrd : f_Memory_read w (r (15 : Int32).toNatClampNeg) 2 = h) (hT : o_iushr h 11 = 1) : pfOK lk w r n z c v p a cu mk (f_ThumbCore_perform q pr false lk nx w r n z c v p a cu mk) (f_ThumbCoreModel_perform q h pr n z c v false (r (15 : Int32).toNatClampNeg + 2) false mk false lk cu (byt w) r (bt p) (bt a)) := by
  have b1 : ¬ bI true = 0 := by decide
  have e11 : o_ishr h 11 = o_iushr h 11 := i_sh hh 11 (by decide)
  have e8 : o_ishr h 8 = o_iushr h 8 := i_sh hh 8 (by decide)
  have e6 : o_ishr h 6 = o_iushr h 6 := i_sh hh 6 (by decide)
  have e3 : o_ishr h 3 = o_iushr h 3 := i_sh hh 3 (by decide)
  have h0 : o_ishr h 0 = h := i_0 h
  have hp := p_moveC hh n z c r (Or.inr (Or.inl hT))
  rw [hT] at hp
  unfold f_ThumbCore_perform f_ThumbCoreModel_perform
  rw [bd_eq, bd_eq, hth, if_pos b1, bd_eq, hrd]
  simp only [bd, f_ThumbCoreModel_field, e11, e8, e6, e3, h0]
  rw [hT]
  rw [if_neg (show ¬ (1 : Int32) = 0 by decide), if_pos rfl]
  rw [if_neg (show ¬ (3 : Int32) ≤ 1 by decide)]
  unfold k_ThumbCoreModel_perform_84 k_ThumbCoreModel_perform_85
  have hq : (if ¬ (o_iushr h 6 &&& 31) = 0 then un4 (f_ThumbCoreModel_moved n z c 1 (r (o_iushr h 3 &&& 7).toNatClampNeg) (o_iushr h 6 &&& 31)) (fun r1 s2 s3 s4 => (s2, s3, s4, v, false, (r (15 : Int32).toNatClampNeg + 2), false, mk, false, lk, cu, byt w, (upd r (h &&& 7).toNatClampNeg r1), bt p, bt a)) else if (1 : Int32) ≤ 0 then un4 (f_ThumbCoreModel_moved n z c 1 (r (o_iushr h 3 &&& 7).toNatClampNeg) (o_iushr h 6 &&& 31)) (fun r1 s2 s3 s4 => (s2, s3, s4, v, false, (r (15 : Int32).toNatClampNeg + 2), false, mk, false, lk, cu, byt w, (upd r (h &&& 7).toNatClampNeg r1), bt p, bt a)) else un4 (f_ThumbCoreModel_moved n z c 1 (r (o_iushr h 3 &&& 7).toNatClampNeg) 32) (fun r1 s2 s3 s4 => (s2, s3, s4, v, false, (r (15 : Int32).toNatClampNeg + 2), false, mk, false, lk, cu, byt w, (upd r (h &&& 7).toNatClampNeg r1), bt p, bt a))) = (fun t : Bool × Bool × Bool × (Nat → Int32) => (t.1, t.2.1, t.2.2.1, v, false, (r (15 : Int32).toNatClampNeg + 2), false, mk, false, lk, cu, byt w, t.2.2.2, bt p, bt a)) (un4 (f_ThumbCoreModel_moved n z c 1 (r (o_iushr h 3 &&& 7).toNatClampNeg) (if ¬ (o_iushr h 6 &&& 31) = 0 then (o_iushr h 6 &&& 31) else if (1 : Int32) ≤ 0 then (o_iushr h 6 &&& 31) else 32)) (fun r1 s2 s3 s4 => (s2, s3, s4, upd r (h &&& 7).toNatClampNeg r1))) := by
    split
    · rfl
    · split
      · rfl
      · rfl
  rw [hq, hp.1]
  exact Or.inl ⟨hp.2, _, false, rfl, Or.inl ⟨rfl, rfl⟩⟩
theorem pf_2 {q : Int32} {nw : Nat} (hm : tc_mem q nw) {h : Int32} (hh : isH h) (lk : Bool) (pr w r : Nat → Int32) (n z c v : Bool) (p a cu nx : Int32) (mk : Bool) (ha : actOK a) (hcu : vp_in cu 16) (hsp : (r (13 : Int32).toNatClampNeg &&& 3) = 0) (hth : f_Memory_isThere q (r (15 : Int32).toNatClampNeg) 2 = true) (hrd : f_Memory_read w (r (15 : Int32).toNatClampNeg) 2 = h) (hT : o_iushr h 11 = 2) : pfOK lk w r n z c v p a cu mk (f_ThumbCore_perform q pr false lk nx w r n z c v p a cu mk) (f_ThumbCoreModel_perform q h pr n z c v false (r (15 : Int32).toNatClampNeg + 2) false mk false lk cu (byt w) r (bt p) (bt a)) := by
  have b1 : ¬ bI true = 0 := by decide
  have e11 : o_ishr h 11 = o_iushr h 11 := i_sh hh 11 (by decide)
  have e8 : o_ishr h 8 = o_iushr h 8 := i_sh hh 8 (by decide)
  have e6 : o_ishr h 6 = o_iushr h 6 := i_sh hh 6 (by decide)
  have e3 : o_ishr h 3 = o_iushr h 3 := i_sh hh 3 (by decide)
  have h0 : o_ishr h 0 = h := i_0 h
  have hp := p_moveC hh n z c r (Or.inr (Or.inr hT))
  rw [hT] at hp
  unfold f_ThumbCore_perform f_ThumbCoreModel_perform
  rw [bd_eq, bd_eq, hth, if_pos b1, bd_eq, hrd]
  simp only [bd, f_ThumbCoreModel_field, e11, e8, e6, e3, h0]
  rw [hT]
  rw [if_neg (show ¬ (2 : Int32) = 0 by decide), if_neg (show ¬ (2 : Int32) = 1 by decide), if_pos rfl]
  rw [if_neg (show ¬ (3 : Int32) ≤ 2 by decide)]
  unfold k_ThumbCoreModel_perform_84 k_ThumbCoreModel_perform_85
  have hq : (if ¬ (o_iushr h 6 &&& 31) = 0 then un4 (f_ThumbCoreModel_moved n z c 2 (r (o_iushr h 3 &&& 7).toNatClampNeg) (o_iushr h 6 &&& 31)) (fun r1 s2 s3 s4 => (s2, s3, s4, v, false, (r (15 : Int32).toNatClampNeg + 2), false, mk, false, lk, cu, byt w, (upd r (h &&& 7).toNatClampNeg r1), bt p, bt a)) else if (2 : Int32) ≤ 0 then un4 (f_ThumbCoreModel_moved n z c 2 (r (o_iushr h 3 &&& 7).toNatClampNeg) (o_iushr h 6 &&& 31)) (fun r1 s2 s3 s4 => (s2, s3, s4, v, false, (r (15 : Int32).toNatClampNeg + 2), false, mk, false, lk, cu, byt w, (upd r (h &&& 7).toNatClampNeg r1), bt p, bt a)) else un4 (f_ThumbCoreModel_moved n z c 2 (r (o_iushr h 3 &&& 7).toNatClampNeg) 32) (fun r1 s2 s3 s4 => (s2, s3, s4, v, false, (r (15 : Int32).toNatClampNeg + 2), false, mk, false, lk, cu, byt w, (upd r (h &&& 7).toNatClampNeg r1), bt p, bt a))) = (fun t : Bool × Bool × Bool × (Nat → Int32) => (t.1, t.2.1, t.2.2.1, v, false, (r (15 : Int32).toNatClampNeg + 2), false, mk, false, lk, cu, byt w, t.2.2.2, bt p, bt a)) (un4 (f_ThumbCoreModel_moved n z c 2 (r (o_iushr h 3 &&& 7).toNatClampNeg) (if ¬ (o_iushr h 6 &&& 31) = 0 then (o_iushr h 6 &&& 31) else if (2 : Int32) ≤ 0 then (o_iushr h 6 &&& 31) else 32)) (fun r1 s2 s3 s4 => (s2, s3, s4, upd r (h &&& 7).toNatClampNeg r1))) := by
    split
    · rfl
    · split
      · rfl
      · rfl
  rw [hq, hp.1]
  exact Or.inl ⟨hp.2, _, false, rfl, Or.inl ⟨rfl, rfl⟩⟩
theorem pf_3 {q : Int32} {nw : Nat} (hm : tc_mem q nw) {h : Int32} (hh : isH h) (lk : Bool) (pr w r : Nat → Int32) (n z c v : Bool) (p a cu nx : Int32) (mk : Bool) (ha : actOK a) (hcu : vp_in cu 16) (hsp : (r (13 : Int32).toNatClampNeg &&& 3) = 0) (hth : f_Memory_isThere q (r (15 : Int32).toNatClampNeg) 2 = true) (hrd : f_Memory_read w (r (15 : Int32).toNatClampNeg) 2 = h) (hT : o_iushr h 11 = 3) : pfOK lk w r n z c v p a cu mk (f_ThumbCore_perform q pr false lk nx w r n z c v p a cu mk) (f_ThumbCoreModel_perform q h pr n z c v false (r (15 : Int32).toNatClampNeg + 2) false mk false lk cu (byt w) r (bt p) (bt a)) := by
  have b1 : ¬ bI true = 0 := by decide
  have e11 : o_ishr h 11 = o_iushr h 11 := i_sh hh 11 (by decide)
  have e8 : o_ishr h 8 = o_iushr h 8 := i_sh hh 8 (by decide)
  have e6 : o_ishr h 6 = o_iushr h 6 := i_sh hh 6 (by decide)
  have e3 : o_ishr h 3 = o_iushr h 3 := i_sh hh 3 (by decide)
  have h0 : o_ishr h 0 = h := i_0 h
  have hp := p_threes hh n z c v r
  unfold f_ThumbCore_perform f_ThumbCoreModel_perform
  rw [bd_eq, bd_eq, hth, if_pos b1, bd_eq, hrd]
  simp only [bd, f_ThumbCoreModel_field, e11, e8, e6, e3, h0]
  rw [hT]
  rw [if_neg (show ¬ (3 : Int32) = 0 by decide), if_neg (show ¬ (3 : Int32) = 1 by decide), if_neg (show ¬ (3 : Int32) = 2 by decide), if_pos rfl]
  rw [if_pos (show (3 : Int32) ≤ 3 by decide), if_neg (show ¬ ¬ (3 : Int32) = 3 by decide)]
  rw [hp.1]
  exact Or.inl ⟨hp.2, _, false, rfl, Or.inl ⟨rfl, rfl⟩⟩
theorem pf_4 {q : Int32} {nw : Nat} (hm : tc_mem q nw) {h : Int32} (hh : isH h) (lk : Bool) (pr w r : Nat → Int32) (n z c v : Bool) (p a cu nx : Int32) (mk : Bool) (ha : actOK a) (hcu : vp_in cu 16) (hsp : (r (13 : Int32).toNatClampNeg &&& 3) = 0) (hth : f_Memory_isThere q (r (15 : Int32).toNatClampNeg) 2 = true) (hrd : f_Memory_read w (r (15 : Int32).toNatClampNeg) 2 = h) (hT : o_iushr h 11 = 4) : pfOK lk w r n z c v p a cu mk (f_ThumbCore_perform q pr false lk nx w r n z c v p a cu mk) (f_ThumbCoreModel_perform q h pr n z c v false (r (15 : Int32).toNatClampNeg + 2) false mk false lk cu (byt w) r (bt p) (bt a)) := by
  have b1 : ¬ bI true = 0 := by decide
  have e11 : o_ishr h 11 = o_iushr h 11 := i_sh hh 11 (by decide)
  have e8 : o_ishr h 8 = o_iushr h 8 := i_sh hh 8 (by decide)
  have e6 : o_ishr h 6 = o_iushr h 6 := i_sh hh 6 (by decide)
  have e3 : o_ishr h 3 = o_iushr h 3 := i_sh hh 3 (by decide)
  have h0 : o_ishr h 0 = h := i_0 h
  have hp := p_bytes hh n z c v r
  rw [hT] at hp
  unfold f_ThumbCore_perform f_ThumbCoreModel_perform
  rw [bd_eq, bd_eq, hth, if_pos b1, bd_eq, hrd]
  simp only [bd, f_ThumbCoreModel_field, e11, e8, e6, e3, h0]
  rw [hT]
  rw [if_neg (show ¬ (4 : Int32) = 0 by decide), if_neg (show ¬ (4 : Int32) = 1 by decide), if_neg (show ¬ (4 : Int32) = 2 by decide), if_neg (show ¬ (4 : Int32) = 3 by decide), if_pos rfl]
  rw [if_pos (show (3 : Int32) ≤ 4 by decide), if_pos (show ¬ (4 : Int32) = 3 by decide), if_neg (show ¬ (8 : Int32) ≤ 4 by decide)]
  rw [hp.1]
  exact Or.inl ⟨hp.2, _, false, rfl, Or.inl ⟨rfl, rfl⟩⟩
theorem pf_5 {q : Int32} {nw : Nat} (hm : tc_mem q nw) {h : Int32} (hh : isH h) (lk : Bool) (pr w r : Nat → Int32) (n z c v : Bool) (p a cu nx : Int32) (mk : Bool) (ha : actOK a) (hcu : vp_in cu 16) (hsp : (r (13 : Int32).toNatClampNeg &&& 3) = 0) (hth : f_Memory_isThere q (r (15 : Int32).toNatClampNeg) 2 = true) (hrd : f_Memory_read w (r (15 : Int32).toNatClampNeg) 2 = h) (hT : o_iushr h 11 = 5) : pfOK lk w r n z c v p a cu mk (f_ThumbCore_perform q pr false lk nx w r n z c v p a cu mk) (f_ThumbCoreModel_perform q h pr n z c v false (r (15 : Int32).toNatClampNeg + 2) false mk false lk cu (byt w) r (bt p) (bt a)) := by
  have b1 : ¬ bI true = 0 := by decide
  have e11 : o_ishr h 11 = o_iushr h 11 := i_sh hh 11 (by decide)
  have e8 : o_ishr h 8 = o_iushr h 8 := i_sh hh 8 (by decide)
  have e6 : o_ishr h 6 = o_iushr h 6 := i_sh hh 6 (by decide)
  have e3 : o_ishr h 3 = o_iushr h 3 := i_sh hh 3 (by decide)
  have h0 : o_ishr h 0 = h := i_0 h
  have hp := p_bytes hh n z c v r
  rw [hT] at hp
  unfold f_ThumbCore_perform f_ThumbCoreModel_perform
  rw [bd_eq, bd_eq, hth, if_pos b1, bd_eq, hrd]
  simp only [bd, f_ThumbCoreModel_field, e11, e8, e6, e3, h0]
  rw [hT]
  rw [if_neg (show ¬ (5 : Int32) = 0 by decide), if_neg (show ¬ (5 : Int32) = 1 by decide), if_neg (show ¬ (5 : Int32) = 2 by decide), if_neg (show ¬ (5 : Int32) = 3 by decide), if_neg (show ¬ (5 : Int32) = 4 by decide), if_pos rfl]
  rw [if_pos (show (3 : Int32) ≤ 5 by decide), if_pos (show ¬ (5 : Int32) = 3 by decide), if_neg (show ¬ (8 : Int32) ≤ 5 by decide)]
  rw [hp.1]
  exact Or.inl ⟨hp.2, _, false, rfl, Or.inl ⟨rfl, rfl⟩⟩
theorem pf_6 {q : Int32} {nw : Nat} (hm : tc_mem q nw) {h : Int32} (hh : isH h) (lk : Bool) (pr w r : Nat → Int32) (n z c v : Bool) (p a cu nx : Int32) (mk : Bool) (ha : actOK a) (hcu : vp_in cu 16) (hsp : (r (13 : Int32).toNatClampNeg &&& 3) = 0) (hth : f_Memory_isThere q (r (15 : Int32).toNatClampNeg) 2 = true) (hrd : f_Memory_read w (r (15 : Int32).toNatClampNeg) 2 = h) (hT : o_iushr h 11 = 6) : pfOK lk w r n z c v p a cu mk (f_ThumbCore_perform q pr false lk nx w r n z c v p a cu mk) (f_ThumbCoreModel_perform q h pr n z c v false (r (15 : Int32).toNatClampNeg + 2) false mk false lk cu (byt w) r (bt p) (bt a)) := by
  have b1 : ¬ bI true = 0 := by decide
  have e11 : o_ishr h 11 = o_iushr h 11 := i_sh hh 11 (by decide)
  have e8 : o_ishr h 8 = o_iushr h 8 := i_sh hh 8 (by decide)
  have e6 : o_ishr h 6 = o_iushr h 6 := i_sh hh 6 (by decide)
  have e3 : o_ishr h 3 = o_iushr h 3 := i_sh hh 3 (by decide)
  have h0 : o_ishr h 0 = h := i_0 h
  have hp := p_bytes hh n z c v r
  rw [hT] at hp
  unfold f_ThumbCore_perform f_ThumbCoreModel_perform
  rw [bd_eq, bd_eq, hth, if_pos b1, bd_eq, hrd]
  simp only [bd, f_ThumbCoreModel_field, e11, e8, e6, e3, h0]
  rw [hT]
  rw [if_neg (show ¬ (6 : Int32) = 0 by decide), if_neg (show ¬ (6 : Int32) = 1 by decide), if_neg (show ¬ (6 : Int32) = 2 by decide), if_neg (show ¬ (6 : Int32) = 3 by decide), if_neg (show ¬ (6 : Int32) = 4 by decide), if_neg (show ¬ (6 : Int32) = 5 by decide), if_pos rfl]
  rw [if_pos (show (3 : Int32) ≤ 6 by decide), if_pos (show ¬ (6 : Int32) = 3 by decide), if_neg (show ¬ (8 : Int32) ≤ 6 by decide)]
  rw [hp.1]
  exact Or.inl ⟨hp.2, _, false, rfl, Or.inl ⟨rfl, rfl⟩⟩
theorem pf_7 {q : Int32} {nw : Nat} (hm : tc_mem q nw) {h : Int32} (hh : isH h) (lk : Bool) (pr w r : Nat → Int32) (n z c v : Bool) (p a cu nx : Int32) (mk : Bool) (ha : actOK a) (hcu : vp_in cu 16) (hsp : (r (13 : Int32).toNatClampNeg &&& 3) = 0) (hth : f_Memory_isThere q (r (15 : Int32).toNatClampNeg) 2 = true) (hrd : f_Memory_read w (r (15 : Int32).toNatClampNeg) 2 = h) (hT : o_iushr h 11 = 7) : pfOK lk w r n z c v p a cu mk (f_ThumbCore_perform q pr false lk nx w r n z c v p a cu mk) (f_ThumbCoreModel_perform q h pr n z c v false (r (15 : Int32).toNatClampNeg + 2) false mk false lk cu (byt w) r (bt p) (bt a)) := by
  have b1 : ¬ bI true = 0 := by decide
  have e11 : o_ishr h 11 = o_iushr h 11 := i_sh hh 11 (by decide)
  have e8 : o_ishr h 8 = o_iushr h 8 := i_sh hh 8 (by decide)
  have e6 : o_ishr h 6 = o_iushr h 6 := i_sh hh 6 (by decide)
  have e3 : o_ishr h 3 = o_iushr h 3 := i_sh hh 3 (by decide)
  have h0 : o_ishr h 0 = h := i_0 h
  have hp := p_bytes hh n z c v r
  rw [hT] at hp
  unfold f_ThumbCore_perform f_ThumbCoreModel_perform
  rw [bd_eq, bd_eq, hth, if_pos b1, bd_eq, hrd]
  simp only [bd, f_ThumbCoreModel_field, e11, e8, e6, e3, h0]
  rw [hT]
  rw [if_neg (show ¬ (7 : Int32) = 0 by decide), if_neg (show ¬ (7 : Int32) = 1 by decide), if_neg (show ¬ (7 : Int32) = 2 by decide), if_neg (show ¬ (7 : Int32) = 3 by decide), if_neg (show ¬ (7 : Int32) = 4 by decide), if_neg (show ¬ (7 : Int32) = 5 by decide), if_neg (show ¬ (7 : Int32) = 6 by decide), if_pos rfl]
  rw [if_pos (show (3 : Int32) ≤ 7 by decide), if_pos (show ¬ (7 : Int32) = 3 by decide), if_neg (show ¬ (8 : Int32) ≤ 7 by decide)]
  rw [hp.1]
  exact Or.inl ⟨hp.2, _, false, rfl, Or.inl ⟨rfl, rfl⟩⟩
theorem pf_9 {q : Int32} {nw : Nat} (hm : tc_mem q nw) {h : Int32} (hh : isH h) (lk : Bool) (pr w r : Nat → Int32) (n z c v : Bool) (p a cu nx : Int32) (mk : Bool) (ha : actOK a) (hcu : vp_in cu 16) (hsp : (r (13 : Int32).toNatClampNeg &&& 3) = 0) (hth : f_Memory_isThere q (r (15 : Int32).toNatClampNeg) 2 = true) (hrd : f_Memory_read w (r (15 : Int32).toNatClampNeg) 2 = h) (hT : o_iushr h 11 = 9) : pfOK lk w r n z c v p a cu mk (f_ThumbCore_perform q pr false lk nx w r n z c v p a cu mk) (f_ThumbCoreModel_perform q h pr n z c v false (r (15 : Int32).toNatClampNeg + 2) false mk false lk cu (byt w) r (bt p) (bt a)) := by
  have b1 : ¬ bI true = 0 := by decide
  have e11 : o_ishr h 11 = o_iushr h 11 := i_sh hh 11 (by decide)
  have e8 : o_ishr h 8 = o_iushr h 8 := i_sh hh 8 (by decide)
  have e6 : o_ishr h 6 = o_iushr h 6 := i_sh hh 6 (by decide)
  have e3 : o_ishr h 3 = o_iushr h 3 := i_sh hh 3 (by decide)
  have h0 : o_ishr h 0 = h := i_0 h
  have hp := (p_fromBase hm w r 9 hT).1 rfl
  unfold f_ThumbCore_perform f_ThumbCoreModel_perform
  rw [bd_eq, bd_eq, hth, if_pos b1, bd_eq, hrd]
  simp only [bd, f_ThumbCoreModel_field, e11, e8, e6, e3, h0]
  rw [hT]
  rw [if_neg (show ¬ (9 : Int32) = 0 by decide), if_neg (show ¬ (9 : Int32) = 1 by decide), if_neg (show ¬ (9 : Int32) = 2 by decide), if_neg (show ¬ (9 : Int32) = 3 by decide), if_neg (show ¬ (9 : Int32) = 4 by decide), if_neg (show ¬ (9 : Int32) = 5 by decide), if_neg (show ¬ (9 : Int32) = 6 by decide), if_neg (show ¬ (9 : Int32) = 7 by decide), if_neg (show ¬ (9 : Int32) = 8 by decide), if_pos rfl]
  rw [if_pos (show (3 : Int32) ≤ 9 by decide), if_pos (show ¬ (9 : Int32) = 3 by decide), if_pos (show (8 : Int32) ≤ 9 by decide), if_pos (show ¬ (9 : Int32) = 8 by decide), if_neg (show ¬ ¬ (9 : Int32) = 9 by decide)]
  exact pf_ls lk w r n z c v p a cu _ mk _ _ hp
theorem pf_10 {q : Int32} {nw : Nat} (hm : tc_mem q nw) {h : Int32} (hh : isH h) (lk : Bool) (pr w r : Nat → Int32) (n z c v : Bool) (p a cu nx : Int32) (mk : Bool) (ha : actOK a) (hcu : vp_in cu 16) (hsp : (r (13 : Int32).toNatClampNeg &&& 3) = 0) (hth : f_Memory_isThere q (r (15 : Int32).toNatClampNeg) 2 = true) (hrd : f_Memory_read w (r (15 : Int32).toNatClampNeg) 2 = h) (hT : o_iushr h 11 = 10) : pfOK lk w r n z c v p a cu mk (f_ThumbCore_perform q pr false lk nx w r n z c v p a cu mk) (f_ThumbCoreModel_perform q h pr n z c v false (r (15 : Int32).toNatClampNeg + 2) false mk false lk cu (byt w) r (bt p) (bt a)) := by
  have b1 : ¬ bI true = 0 := by decide
  have e11 : o_ishr h 11 = o_iushr h 11 := i_sh hh 11 (by decide)
  have e8 : o_ishr h 8 = o_iushr h 8 := i_sh hh 8 (by decide)
  have e6 : o_ishr h 6 = o_iushr h 6 := i_sh hh 6 (by decide)
  have e3 : o_ishr h 3 = o_iushr h 3 := i_sh hh 3 (by decide)
  have h0 : o_ishr h 0 = h := i_0 h
  have hp := p_atSum hm hh w r
  unfold f_ThumbCoreModel_field at hp
  simp only [e3, e6, h0] at hp
  unfold f_ThumbCore_perform f_ThumbCoreModel_perform
  rw [bd_eq, bd_eq, hth, if_pos b1, bd_eq, hrd]
  simp only [bd, f_ThumbCoreModel_field, e11, e8, e6, e3, h0]
  rw [hT]
  rw [if_neg (show ¬ (10 : Int32) = 0 by decide), if_neg (show ¬ (10 : Int32) = 1 by decide), if_neg (show ¬ (10 : Int32) = 2 by decide), if_neg (show ¬ (10 : Int32) = 3 by decide), if_neg (show ¬ (10 : Int32) = 4 by decide), if_neg (show ¬ (10 : Int32) = 5 by decide), if_neg (show ¬ (10 : Int32) = 6 by decide), if_neg (show ¬ (10 : Int32) = 7 by decide), if_neg (show ¬ (10 : Int32) = 8 by decide), if_neg (show ¬ (10 : Int32) = 9 by decide), if_pos rfl]
  rw [if_pos (show (3 : Int32) ≤ 10 by decide), if_pos (show ¬ (10 : Int32) = 3 by decide), if_pos (show (8 : Int32) ≤ 10 by decide), if_pos (show ¬ (10 : Int32) = 8 by decide), if_pos (show ¬ (10 : Int32) = 9 by decide), if_neg (show ¬ (12 : Int32) ≤ 10 by decide)]
  have e9 : o_ishr h 9 = o_iushr h 9 := i_sh hh 9 (by decide)
  exact pf_ls lk w r n z c v p a cu _ mk _ _ hp
theorem pf_11 {q : Int32} {nw : Nat} (hm : tc_mem q nw) {h : Int32} (hh : isH h) (lk : Bool) (pr w r : Nat → Int32) (n z c v : Bool) (p a cu nx : Int32) (mk : Bool) (ha : actOK a) (hcu : vp_in cu 16) (hsp : (r (13 : Int32).toNatClampNeg &&& 3) = 0) (hth : f_Memory_isThere q (r (15 : Int32).toNatClampNeg) 2 = true) (hrd : f_Memory_read w (r (15 : Int32).toNatClampNeg) 2 = h) (hT : o_iushr h 11 = 11) : pfOK lk w r n z c v p a cu mk (f_ThumbCore_perform q pr false lk nx w r n z c v p a cu mk) (f_ThumbCoreModel_perform q h pr n z c v false (r (15 : Int32).toNatClampNeg + 2) false mk false lk cu (byt w) r (bt p) (bt a)) := by
  have b1 : ¬ bI true = 0 := by decide
  have e11 : o_ishr h 11 = o_iushr h 11 := i_sh hh 11 (by decide)
  have e8 : o_ishr h 8 = o_iushr h 8 := i_sh hh 8 (by decide)
  have e6 : o_ishr h 6 = o_iushr h 6 := i_sh hh 6 (by decide)
  have e3 : o_ishr h 3 = o_iushr h 3 := i_sh hh 3 (by decide)
  have h0 : o_ishr h 0 = h := i_0 h
  have hp := p_atSum hm hh w r
  unfold f_ThumbCoreModel_field at hp
  simp only [e3, e6, h0] at hp
  unfold f_ThumbCore_perform f_ThumbCoreModel_perform
  rw [bd_eq, bd_eq, hth, if_pos b1, bd_eq, hrd]
  simp only [bd, f_ThumbCoreModel_field, e11, e8, e6, e3, h0]
  rw [hT]
  rw [if_neg (show ¬ (11 : Int32) = 0 by decide), if_neg (show ¬ (11 : Int32) = 1 by decide), if_neg (show ¬ (11 : Int32) = 2 by decide), if_neg (show ¬ (11 : Int32) = 3 by decide), if_neg (show ¬ (11 : Int32) = 4 by decide), if_neg (show ¬ (11 : Int32) = 5 by decide), if_neg (show ¬ (11 : Int32) = 6 by decide), if_neg (show ¬ (11 : Int32) = 7 by decide), if_neg (show ¬ (11 : Int32) = 8 by decide), if_neg (show ¬ (11 : Int32) = 9 by decide), if_neg (show ¬ (11 : Int32) = 10 by decide), if_pos rfl]
  rw [if_pos (show (3 : Int32) ≤ 11 by decide), if_pos (show ¬ (11 : Int32) = 3 by decide), if_pos (show (8 : Int32) ≤ 11 by decide), if_pos (show ¬ (11 : Int32) = 8 by decide), if_pos (show ¬ (11 : Int32) = 9 by decide), if_neg (show ¬ (12 : Int32) ≤ 11 by decide)]
  have e9 : o_ishr h 9 = o_iushr h 9 := i_sh hh 9 (by decide)
  exact pf_ls lk w r n z c v p a cu _ mk _ _ hp
theorem pf_12 {q : Int32} {nw : Nat} (hm : tc_mem q nw) {h : Int32} (hh : isH h) (lk : Bool) (pr w r : Nat → Int32) (n z c v : Bool) (p a cu nx : Int32) (mk : Bool) (ha : actOK a) (hcu : vp_in cu 16) (hsp : (r (13 : Int32).toNatClampNeg &&& 3) = 0) (hth : f_Memory_isThere q (r (15 : Int32).toNatClampNeg) 2 = true) (hrd : f_Memory_read w (r (15 : Int32).toNatClampNeg) 2 = h) (hT : o_iushr h 11 = 12) : pfOK lk w r n z c v p a cu mk (f_ThumbCore_perform q pr false lk nx w r n z c v p a cu mk) (f_ThumbCoreModel_perform q h pr n z c v false (r (15 : Int32).toNatClampNeg + 2) false mk false lk cu (byt w) r (bt p) (bt a)) := by
  have b1 : ¬ bI true = 0 := by decide
  have e11 : o_ishr h 11 = o_iushr h 11 := i_sh hh 11 (by decide)
  have e8 : o_ishr h 8 = o_iushr h 8 := i_sh hh 8 (by decide)
  have e6 : o_ishr h 6 = o_iushr h 6 := i_sh hh 6 (by decide)
  have e3 : o_ishr h 3 = o_iushr h 3 := i_sh hh 3 (by decide)
  have h0 : o_ishr h 0 = h := i_0 h
  have hp := (p_atOffset hm w r 12 hT).1 rfl
  unfold f_ThumbCore_perform f_ThumbCoreModel_perform
  rw [bd_eq, bd_eq, hth, if_pos b1, bd_eq, hrd]
  simp only [bd, f_ThumbCoreModel_field, e11, e8, e6, e3, h0]
  rw [hT]
  rw [if_neg (show ¬ (12 : Int32) = 0 by decide), if_neg (show ¬ (12 : Int32) = 1 by decide), if_neg (show ¬ (12 : Int32) = 2 by decide), if_neg (show ¬ (12 : Int32) = 3 by decide), if_neg (show ¬ (12 : Int32) = 4 by decide), if_neg (show ¬ (12 : Int32) = 5 by decide), if_neg (show ¬ (12 : Int32) = 6 by decide), if_neg (show ¬ (12 : Int32) = 7 by decide), if_neg (show ¬ (12 : Int32) = 8 by decide), if_neg (show ¬ (12 : Int32) = 9 by decide), if_neg (show ¬ (12 : Int32) = 10 by decide), if_neg (show ¬ (12 : Int32) = 11 by decide), if_pos rfl]
  rw [if_pos (show (3 : Int32) ≤ 12 by decide), if_pos (show ¬ (12 : Int32) = 3 by decide), if_pos (show (8 : Int32) ≤ 12 by decide), if_pos (show ¬ (12 : Int32) = 8 by decide), if_pos (show ¬ (12 : Int32) = 9 by decide), if_pos (show (12 : Int32) ≤ 12 by decide), if_neg (show ¬ (14 : Int32) ≤ 12 by decide), if_neg (show ¬ ¬ (12 : Int32) = 12 by decide)]
  unfold k_ThumbCoreModel_perform_237
  simp only [bd, f_ThumbCoreModel_field, h0]
  exact pf_ls lk w r n z c v p a cu _ mk _ _ hp
theorem pf_13 {q : Int32} {nw : Nat} (hm : tc_mem q nw) {h : Int32} (hh : isH h) (lk : Bool) (pr w r : Nat → Int32) (n z c v : Bool) (p a cu nx : Int32) (mk : Bool) (ha : actOK a) (hcu : vp_in cu 16) (hsp : (r (13 : Int32).toNatClampNeg &&& 3) = 0) (hth : f_Memory_isThere q (r (15 : Int32).toNatClampNeg) 2 = true) (hrd : f_Memory_read w (r (15 : Int32).toNatClampNeg) 2 = h) (hT : o_iushr h 11 = 13) : pfOK lk w r n z c v p a cu mk (f_ThumbCore_perform q pr false lk nx w r n z c v p a cu mk) (f_ThumbCoreModel_perform q h pr n z c v false (r (15 : Int32).toNatClampNeg + 2) false mk false lk cu (byt w) r (bt p) (bt a)) := by
  have b1 : ¬ bI true = 0 := by decide
  have e11 : o_ishr h 11 = o_iushr h 11 := i_sh hh 11 (by decide)
  have e8 : o_ishr h 8 = o_iushr h 8 := i_sh hh 8 (by decide)
  have e6 : o_ishr h 6 = o_iushr h 6 := i_sh hh 6 (by decide)
  have e3 : o_ishr h 3 = o_iushr h 3 := i_sh hh 3 (by decide)
  have h0 : o_ishr h 0 = h := i_0 h
  have hp := (p_atOffset hm w r 13 hT).2.1 rfl
  unfold f_ThumbCore_perform f_ThumbCoreModel_perform
  rw [bd_eq, bd_eq, hth, if_pos b1, bd_eq, hrd]
  simp only [bd, f_ThumbCoreModel_field, e11, e8, e6, e3, h0]
  rw [hT]
  rw [if_neg (show ¬ (13 : Int32) = 0 by decide), if_neg (show ¬ (13 : Int32) = 1 by decide), if_neg (show ¬ (13 : Int32) = 2 by decide), if_neg (show ¬ (13 : Int32) = 3 by decide), if_neg (show ¬ (13 : Int32) = 4 by decide), if_neg (show ¬ (13 : Int32) = 5 by decide), if_neg (show ¬ (13 : Int32) = 6 by decide), if_neg (show ¬ (13 : Int32) = 7 by decide), if_neg (show ¬ (13 : Int32) = 8 by decide), if_neg (show ¬ (13 : Int32) = 9 by decide), if_neg (show ¬ (13 : Int32) = 10 by decide), if_neg (show ¬ (13 : Int32) = 11 by decide), if_neg (show ¬ (13 : Int32) = 12 by decide), if_pos rfl]
  rw [if_pos (show (3 : Int32) ≤ 13 by decide), if_pos (show ¬ (13 : Int32) = 3 by decide), if_pos (show (8 : Int32) ≤ 13 by decide), if_pos (show ¬ (13 : Int32) = 8 by decide), if_pos (show ¬ (13 : Int32) = 9 by decide), if_pos (show (12 : Int32) ≤ 13 by decide), if_neg (show ¬ (14 : Int32) ≤ 13 by decide), if_pos (show ¬ (13 : Int32) = 12 by decide)]
  unfold k_ThumbCoreModel_perform_237
  simp only [bd, f_ThumbCoreModel_field, h0]
  exact pf_ls lk w r n z c v p a cu _ mk _ _ hp
theorem pf_14 {q : Int32} {nw : Nat} (hm : tc_mem q nw) {h : Int32} (hh : isH h) (lk : Bool) (pr w r : Nat → Int32) (n z c v : Bool) (p a cu nx : Int32) (mk : Bool) (ha : actOK a) (hcu : vp_in cu 16) (hsp : (r (13 : Int32).toNatClampNeg &&& 3) = 0) (hth : f_Memory_isThere q (r (15 : Int32).toNatClampNeg) 2 = true) (hrd : f_Memory_read w (r (15 : Int32).toNatClampNeg) 2 = h) (hT : o_iushr h 11 = 14) : pfOK lk w r n z c v p a cu mk (f_ThumbCore_perform q pr false lk nx w r n z c v p a cu mk) (f_ThumbCoreModel_perform q h pr n z c v false (r (15 : Int32).toNatClampNeg + 2) false mk false lk cu (byt w) r (bt p) (bt a)) := by
  have b1 : ¬ bI true = 0 := by decide
  have e11 : o_ishr h 11 = o_iushr h 11 := i_sh hh 11 (by decide)
  have e8 : o_ishr h 8 = o_iushr h 8 := i_sh hh 8 (by decide)
  have e6 : o_ishr h 6 = o_iushr h 6 := i_sh hh 6 (by decide)
  have e3 : o_ishr h 3 = o_iushr h 3 := i_sh hh 3 (by decide)
  have h0 : o_ishr h 0 = h := i_0 h
  have hp := (p_atOffset hm w r 14 hT).2.2.1 rfl
  unfold f_ThumbCore_perform f_ThumbCoreModel_perform
  rw [bd_eq, bd_eq, hth, if_pos b1, bd_eq, hrd]
  simp only [bd, f_ThumbCoreModel_field, e11, e8, e6, e3, h0]
  rw [hT]
  rw [if_neg (show ¬ (14 : Int32) = 0 by decide), if_neg (show ¬ (14 : Int32) = 1 by decide), if_neg (show ¬ (14 : Int32) = 2 by decide), if_neg (show ¬ (14 : Int32) = 3 by decide), if_neg (show ¬ (14 : Int32) = 4 by decide), if_neg (show ¬ (14 : Int32) = 5 by decide), if_neg (show ¬ (14 : Int32) = 6 by decide), if_neg (show ¬ (14 : Int32) = 7 by decide), if_neg (show ¬ (14 : Int32) = 8 by decide), if_neg (show ¬ (14 : Int32) = 9 by decide), if_neg (show ¬ (14 : Int32) = 10 by decide), if_neg (show ¬ (14 : Int32) = 11 by decide), if_neg (show ¬ (14 : Int32) = 12 by decide), if_neg (show ¬ (14 : Int32) = 13 by decide), if_pos rfl]
  rw [if_pos (show (3 : Int32) ≤ 14 by decide), if_pos (show ¬ (14 : Int32) = 3 by decide), if_pos (show (8 : Int32) ≤ 14 by decide), if_pos (show ¬ (14 : Int32) = 8 by decide), if_pos (show ¬ (14 : Int32) = 9 by decide), if_pos (show (12 : Int32) ≤ 14 by decide), if_pos (show (14 : Int32) ≤ 14 by decide), if_neg (show ¬ (16 : Int32) ≤ 14 by decide), if_neg (show ¬ ¬ (14 : Int32) = 14 by decide)]
  unfold k_ThumbCoreModel_perform_273
  simp only [bd, f_ThumbCoreModel_field, h0]
  exact pf_ls lk w r n z c v p a cu _ mk _ _ hp
theorem pf_15 {q : Int32} {nw : Nat} (hm : tc_mem q nw) {h : Int32} (hh : isH h) (lk : Bool) (pr w r : Nat → Int32) (n z c v : Bool) (p a cu nx : Int32) (mk : Bool) (ha : actOK a) (hcu : vp_in cu 16) (hsp : (r (13 : Int32).toNatClampNeg &&& 3) = 0) (hth : f_Memory_isThere q (r (15 : Int32).toNatClampNeg) 2 = true) (hrd : f_Memory_read w (r (15 : Int32).toNatClampNeg) 2 = h) (hT : o_iushr h 11 = 15) : pfOK lk w r n z c v p a cu mk (f_ThumbCore_perform q pr false lk nx w r n z c v p a cu mk) (f_ThumbCoreModel_perform q h pr n z c v false (r (15 : Int32).toNatClampNeg + 2) false mk false lk cu (byt w) r (bt p) (bt a)) := by
  have b1 : ¬ bI true = 0 := by decide
  have e11 : o_ishr h 11 = o_iushr h 11 := i_sh hh 11 (by decide)
  have e8 : o_ishr h 8 = o_iushr h 8 := i_sh hh 8 (by decide)
  have e6 : o_ishr h 6 = o_iushr h 6 := i_sh hh 6 (by decide)
  have e3 : o_ishr h 3 = o_iushr h 3 := i_sh hh 3 (by decide)
  have h0 : o_ishr h 0 = h := i_0 h
  have hp := (p_atOffset hm w r 15 hT).2.2.2.1 rfl
  unfold f_ThumbCore_perform f_ThumbCoreModel_perform
  rw [bd_eq, bd_eq, hth, if_pos b1, bd_eq, hrd]
  simp only [bd, f_ThumbCoreModel_field, e11, e8, e6, e3, h0]
  rw [hT]
  rw [if_neg (show ¬ (15 : Int32) = 0 by decide), if_neg (show ¬ (15 : Int32) = 1 by decide), if_neg (show ¬ (15 : Int32) = 2 by decide), if_neg (show ¬ (15 : Int32) = 3 by decide), if_neg (show ¬ (15 : Int32) = 4 by decide), if_neg (show ¬ (15 : Int32) = 5 by decide), if_neg (show ¬ (15 : Int32) = 6 by decide), if_neg (show ¬ (15 : Int32) = 7 by decide), if_neg (show ¬ (15 : Int32) = 8 by decide), if_neg (show ¬ (15 : Int32) = 9 by decide), if_neg (show ¬ (15 : Int32) = 10 by decide), if_neg (show ¬ (15 : Int32) = 11 by decide), if_neg (show ¬ (15 : Int32) = 12 by decide), if_neg (show ¬ (15 : Int32) = 13 by decide), if_neg (show ¬ (15 : Int32) = 14 by decide), if_pos rfl]
  rw [if_pos (show (3 : Int32) ≤ 15 by decide), if_pos (show ¬ (15 : Int32) = 3 by decide), if_pos (show (8 : Int32) ≤ 15 by decide), if_pos (show ¬ (15 : Int32) = 8 by decide), if_pos (show ¬ (15 : Int32) = 9 by decide), if_pos (show (12 : Int32) ≤ 15 by decide), if_pos (show (14 : Int32) ≤ 15 by decide), if_neg (show ¬ (16 : Int32) ≤ 15 by decide), if_pos (show ¬ (15 : Int32) = 14 by decide)]
  unfold k_ThumbCoreModel_perform_273
  simp only [bd, f_ThumbCoreModel_field, h0]
  exact pf_ls lk w r n z c v p a cu _ mk _ _ hp
theorem pf_16 {q : Int32} {nw : Nat} (hm : tc_mem q nw) {h : Int32} (hh : isH h) (lk : Bool) (pr w r : Nat → Int32) (n z c v : Bool) (p a cu nx : Int32) (mk : Bool) (ha : actOK a) (hcu : vp_in cu 16) (hsp : (r (13 : Int32).toNatClampNeg &&& 3) = 0) (hth : f_Memory_isThere q (r (15 : Int32).toNatClampNeg) 2 = true) (hrd : f_Memory_read w (r (15 : Int32).toNatClampNeg) 2 = h) (hT : o_iushr h 11 = 16) : pfOK lk w r n z c v p a cu mk (f_ThumbCore_perform q pr false lk nx w r n z c v p a cu mk) (f_ThumbCoreModel_perform q h pr n z c v false (r (15 : Int32).toNatClampNeg + 2) false mk false lk cu (byt w) r (bt p) (bt a)) := by
  have b1 : ¬ bI true = 0 := by decide
  have e11 : o_ishr h 11 = o_iushr h 11 := i_sh hh 11 (by decide)
  have e8 : o_ishr h 8 = o_iushr h 8 := i_sh hh 8 (by decide)
  have e6 : o_ishr h 6 = o_iushr h 6 := i_sh hh 6 (by decide)
  have e3 : o_ishr h 3 = o_iushr h 3 := i_sh hh 3 (by decide)
  have h0 : o_ishr h 0 = h := i_0 h
  have hp := (p_atOffset hm w r 16 hT).2.2.2.2.1 rfl
  unfold f_ThumbCore_perform f_ThumbCoreModel_perform
  rw [bd_eq, bd_eq, hth, if_pos b1, bd_eq, hrd]
  simp only [bd, f_ThumbCoreModel_field, e11, e8, e6, e3, h0]
  rw [hT]
  rw [if_neg (show ¬ (16 : Int32) = 0 by decide), if_neg (show ¬ (16 : Int32) = 1 by decide), if_neg (show ¬ (16 : Int32) = 2 by decide), if_neg (show ¬ (16 : Int32) = 3 by decide), if_neg (show ¬ (16 : Int32) = 4 by decide), if_neg (show ¬ (16 : Int32) = 5 by decide), if_neg (show ¬ (16 : Int32) = 6 by decide), if_neg (show ¬ (16 : Int32) = 7 by decide), if_neg (show ¬ (16 : Int32) = 8 by decide), if_neg (show ¬ (16 : Int32) = 9 by decide), if_neg (show ¬ (16 : Int32) = 10 by decide), if_neg (show ¬ (16 : Int32) = 11 by decide), if_neg (show ¬ (16 : Int32) = 12 by decide), if_neg (show ¬ (16 : Int32) = 13 by decide), if_neg (show ¬ (16 : Int32) = 14 by decide), if_neg (show ¬ (16 : Int32) = 15 by decide), if_pos rfl]
  rw [if_pos (show (3 : Int32) ≤ 16 by decide), if_pos (show ¬ (16 : Int32) = 3 by decide), if_pos (show (8 : Int32) ≤ 16 by decide), if_pos (show ¬ (16 : Int32) = 8 by decide), if_pos (show ¬ (16 : Int32) = 9 by decide), if_pos (show (12 : Int32) ≤ 16 by decide), if_pos (show (14 : Int32) ≤ 16 by decide), if_pos (show (16 : Int32) ≤ 16 by decide), if_neg (show ¬ (18 : Int32) ≤ 16 by decide), if_neg (show ¬ ¬ (16 : Int32) = 16 by decide)]
  unfold k_ThumbCoreModel_perform_306
  simp only [bd, f_ThumbCoreModel_field, h0]
  exact pf_ls lk w r n z c v p a cu _ mk _ _ hp
theorem pf_17 {q : Int32} {nw : Nat} (hm : tc_mem q nw) {h : Int32} (hh : isH h) (lk : Bool) (pr w r : Nat → Int32) (n z c v : Bool) (p a cu nx : Int32) (mk : Bool) (ha : actOK a) (hcu : vp_in cu 16) (hsp : (r (13 : Int32).toNatClampNeg &&& 3) = 0) (hth : f_Memory_isThere q (r (15 : Int32).toNatClampNeg) 2 = true) (hrd : f_Memory_read w (r (15 : Int32).toNatClampNeg) 2 = h) (hT : o_iushr h 11 = 17) : pfOK lk w r n z c v p a cu mk (f_ThumbCore_perform q pr false lk nx w r n z c v p a cu mk) (f_ThumbCoreModel_perform q h pr n z c v false (r (15 : Int32).toNatClampNeg + 2) false mk false lk cu (byt w) r (bt p) (bt a)) := by
  have b1 : ¬ bI true = 0 := by decide
  have e11 : o_ishr h 11 = o_iushr h 11 := i_sh hh 11 (by decide)
  have e8 : o_ishr h 8 = o_iushr h 8 := i_sh hh 8 (by decide)
  have e6 : o_ishr h 6 = o_iushr h 6 := i_sh hh 6 (by decide)
  have e3 : o_ishr h 3 = o_iushr h 3 := i_sh hh 3 (by decide)
  have h0 : o_ishr h 0 = h := i_0 h
  have hp := (p_atOffset hm w r 17 hT).2.2.2.2.2 rfl
  unfold f_ThumbCore_perform f_ThumbCoreModel_perform
  rw [bd_eq, bd_eq, hth, if_pos b1, bd_eq, hrd]
  simp only [bd, f_ThumbCoreModel_field, e11, e8, e6, e3, h0]
  rw [hT]
  rw [if_neg (show ¬ (17 : Int32) = 0 by decide), if_neg (show ¬ (17 : Int32) = 1 by decide), if_neg (show ¬ (17 : Int32) = 2 by decide), if_neg (show ¬ (17 : Int32) = 3 by decide), if_neg (show ¬ (17 : Int32) = 4 by decide), if_neg (show ¬ (17 : Int32) = 5 by decide), if_neg (show ¬ (17 : Int32) = 6 by decide), if_neg (show ¬ (17 : Int32) = 7 by decide), if_neg (show ¬ (17 : Int32) = 8 by decide), if_neg (show ¬ (17 : Int32) = 9 by decide), if_neg (show ¬ (17 : Int32) = 10 by decide), if_neg (show ¬ (17 : Int32) = 11 by decide), if_neg (show ¬ (17 : Int32) = 12 by decide), if_neg (show ¬ (17 : Int32) = 13 by decide), if_neg (show ¬ (17 : Int32) = 14 by decide), if_neg (show ¬ (17 : Int32) = 15 by decide), if_neg (show ¬ (17 : Int32) = 16 by decide), if_pos rfl]
  rw [if_pos (show (3 : Int32) ≤ 17 by decide), if_pos (show ¬ (17 : Int32) = 3 by decide), if_pos (show (8 : Int32) ≤ 17 by decide), if_pos (show ¬ (17 : Int32) = 8 by decide), if_pos (show ¬ (17 : Int32) = 9 by decide), if_pos (show (12 : Int32) ≤ 17 by decide), if_pos (show (14 : Int32) ≤ 17 by decide), if_pos (show (16 : Int32) ≤ 17 by decide), if_neg (show ¬ (18 : Int32) ≤ 17 by decide), if_pos (show ¬ (17 : Int32) = 16 by decide)]
  unfold k_ThumbCoreModel_perform_306
  simp only [bd, f_ThumbCoreModel_field, h0]
  exact pf_ls lk w r n z c v p a cu _ mk _ _ hp
theorem pf_18 {q : Int32} {nw : Nat} (hm : tc_mem q nw) {h : Int32} (hh : isH h) (lk : Bool) (pr w r : Nat → Int32) (n z c v : Bool) (p a cu nx : Int32) (mk : Bool) (ha : actOK a) (hcu : vp_in cu 16) (hsp : (r (13 : Int32).toNatClampNeg &&& 3) = 0) (hth : f_Memory_isThere q (r (15 : Int32).toNatClampNeg) 2 = true) (hrd : f_Memory_read w (r (15 : Int32).toNatClampNeg) 2 = h) (hT : o_iushr h 11 = 18) : pfOK lk w r n z c v p a cu mk (f_ThumbCore_perform q pr false lk nx w r n z c v p a cu mk) (f_ThumbCoreModel_perform q h pr n z c v false (r (15 : Int32).toNatClampNeg + 2) false mk false lk cu (byt w) r (bt p) (bt a)) := by
  have b1 : ¬ bI true = 0 := by decide
  have e11 : o_ishr h 11 = o_iushr h 11 := i_sh hh 11 (by decide)
  have e8 : o_ishr h 8 = o_iushr h 8 := i_sh hh 8 (by decide)
  have e6 : o_ishr h 6 = o_iushr h 6 := i_sh hh 6 (by decide)
  have e3 : o_ishr h 3 = o_iushr h 3 := i_sh hh 3 (by decide)
  have h0 : o_ishr h 0 = h := i_0 h
  have hp := (p_fromBase hm w r 18 hT).2.1 rfl
  unfold f_ThumbCore_perform f_ThumbCoreModel_perform
  rw [bd_eq, bd_eq, hth, if_pos b1, bd_eq, hrd]
  simp only [bd, f_ThumbCoreModel_field, e11, e8, e6, e3, h0]
  rw [hT]
  rw [if_neg (show ¬ (18 : Int32) = 0 by decide), if_neg (show ¬ (18 : Int32) = 1 by decide), if_neg (show ¬ (18 : Int32) = 2 by decide), if_neg (show ¬ (18 : Int32) = 3 by decide), if_neg (show ¬ (18 : Int32) = 4 by decide), if_neg (show ¬ (18 : Int32) = 5 by decide), if_neg (show ¬ (18 : Int32) = 6 by decide), if_neg (show ¬ (18 : Int32) = 7 by decide), if_neg (show ¬ (18 : Int32) = 8 by decide), if_neg (show ¬ (18 : Int32) = 9 by decide), if_neg (show ¬ (18 : Int32) = 10 by decide), if_neg (show ¬ (18 : Int32) = 11 by decide), if_neg (show ¬ (18 : Int32) = 12 by decide), if_neg (show ¬ (18 : Int32) = 13 by decide), if_neg (show ¬ (18 : Int32) = 14 by decide), if_neg (show ¬ (18 : Int32) = 15 by decide), if_neg (show ¬ (18 : Int32) = 16 by decide), if_neg (show ¬ (18 : Int32) = 17 by decide), if_pos rfl]
  rw [if_pos (show (3 : Int32) ≤ 18 by decide), if_pos (show ¬ (18 : Int32) = 3 by decide), if_pos (show (8 : Int32) ≤ 18 by decide), if_pos (show ¬ (18 : Int32) = 8 by decide), if_pos (show ¬ (18 : Int32) = 9 by decide), if_pos (show (12 : Int32) ≤ 18 by decide), if_pos (show (14 : Int32) ≤ 18 by decide), if_pos (show (16 : Int32) ≤ 18 by decide), if_pos (show (18 : Int32) ≤ 18 by decide), if_neg (show ¬ (20 : Int32) ≤ 18 by decide), if_neg (show ¬ ¬ (18 : Int32) = 18 by decide)]
  unfold k_ThumbCoreModel_perform_341
  simp only [bd, f_ThumbCoreModel_field, e8]
  exact pf_ls lk w r n z c v p a cu _ mk _ _ hp
theorem pf_19 {q : Int32} {nw : Nat} (hm : tc_mem q nw) {h : Int32} (hh : isH h) (lk : Bool) (pr w r : Nat → Int32) (n z c v : Bool) (p a cu nx : Int32) (mk : Bool) (ha : actOK a) (hcu : vp_in cu 16) (hsp : (r (13 : Int32).toNatClampNeg &&& 3) = 0) (hth : f_Memory_isThere q (r (15 : Int32).toNatClampNeg) 2 = true) (hrd : f_Memory_read w (r (15 : Int32).toNatClampNeg) 2 = h) (hT : o_iushr h 11 = 19) : pfOK lk w r n z c v p a cu mk (f_ThumbCore_perform q pr false lk nx w r n z c v p a cu mk) (f_ThumbCoreModel_perform q h pr n z c v false (r (15 : Int32).toNatClampNeg + 2) false mk false lk cu (byt w) r (bt p) (bt a)) := by
  have b1 : ¬ bI true = 0 := by decide
  have e11 : o_ishr h 11 = o_iushr h 11 := i_sh hh 11 (by decide)
  have e8 : o_ishr h 8 = o_iushr h 8 := i_sh hh 8 (by decide)
  have e6 : o_ishr h 6 = o_iushr h 6 := i_sh hh 6 (by decide)
  have e3 : o_ishr h 3 = o_iushr h 3 := i_sh hh 3 (by decide)
  have h0 : o_ishr h 0 = h := i_0 h
  have hp := (p_fromBase hm w r 19 hT).2.2.1 rfl
  unfold f_ThumbCore_perform f_ThumbCoreModel_perform
  rw [bd_eq, bd_eq, hth, if_pos b1, bd_eq, hrd]
  simp only [bd, f_ThumbCoreModel_field, e11, e8, e6, e3, h0]
  rw [hT]
  rw [if_neg (show ¬ (19 : Int32) = 0 by decide), if_neg (show ¬ (19 : Int32) = 1 by decide), if_neg (show ¬ (19 : Int32) = 2 by decide), if_neg (show ¬ (19 : Int32) = 3 by decide), if_neg (show ¬ (19 : Int32) = 4 by decide), if_neg (show ¬ (19 : Int32) = 5 by decide), if_neg (show ¬ (19 : Int32) = 6 by decide), if_neg (show ¬ (19 : Int32) = 7 by decide), if_neg (show ¬ (19 : Int32) = 8 by decide), if_neg (show ¬ (19 : Int32) = 9 by decide), if_neg (show ¬ (19 : Int32) = 10 by decide), if_neg (show ¬ (19 : Int32) = 11 by decide), if_neg (show ¬ (19 : Int32) = 12 by decide), if_neg (show ¬ (19 : Int32) = 13 by decide), if_neg (show ¬ (19 : Int32) = 14 by decide), if_neg (show ¬ (19 : Int32) = 15 by decide), if_neg (show ¬ (19 : Int32) = 16 by decide), if_neg (show ¬ (19 : Int32) = 17 by decide), if_neg (show ¬ (19 : Int32) = 18 by decide), if_pos rfl]
  rw [if_pos (show (3 : Int32) ≤ 19 by decide), if_pos (show ¬ (19 : Int32) = 3 by decide), if_pos (show (8 : Int32) ≤ 19 by decide), if_pos (show ¬ (19 : Int32) = 8 by decide), if_pos (show ¬ (19 : Int32) = 9 by decide), if_pos (show (12 : Int32) ≤ 19 by decide), if_pos (show (14 : Int32) ≤ 19 by decide), if_pos (show (16 : Int32) ≤ 19 by decide), if_pos (show (18 : Int32) ≤ 19 by decide), if_neg (show ¬ (20 : Int32) ≤ 19 by decide), if_pos (show ¬ (19 : Int32) = 18 by decide)]
  unfold k_ThumbCoreModel_perform_341
  simp only [bd, f_ThumbCoreModel_field, e8]
  exact pf_ls lk w r n z c v p a cu _ mk _ _ hp
theorem pf_20 {q : Int32} {nw : Nat} (hm : tc_mem q nw) {h : Int32} (hh : isH h) (lk : Bool) (pr w r : Nat → Int32) (n z c v : Bool) (p a cu nx : Int32) (mk : Bool) (ha : actOK a) (hcu : vp_in cu 16) (hsp : (r (13 : Int32).toNatClampNeg &&& 3) = 0) (hth : f_Memory_isThere q (r (15 : Int32).toNatClampNeg) 2 = true) (hrd : f_Memory_read w (r (15 : Int32).toNatClampNeg) 2 = h) (hT : o_iushr h 11 = 20) : pfOK lk w r n z c v p a cu mk (f_ThumbCore_perform q pr false lk nx w r n z c v p a cu mk) (f_ThumbCoreModel_perform q h pr n z c v false (r (15 : Int32).toNatClampNeg + 2) false mk false lk cu (byt w) r (bt p) (bt a)) := by
  have b1 : ¬ bI true = 0 := by decide
  have e11 : o_ishr h 11 = o_iushr h 11 := i_sh hh 11 (by decide)
  have e8 : o_ishr h 8 = o_iushr h 8 := i_sh hh 8 (by decide)
  have e6 : o_ishr h 6 = o_iushr h 6 := i_sh hh 6 (by decide)
  have e3 : o_ishr h 3 = o_iushr h 3 := i_sh hh 3 (by decide)
  have h0 : o_ishr h 0 = h := i_0 h
  have hp := (p_fromBase hm w r 20 hT).2.2.2.1 rfl
  unfold f_ThumbCore_perform f_ThumbCoreModel_perform
  rw [bd_eq, bd_eq, hth, if_pos b1, bd_eq, hrd]
  simp only [bd, f_ThumbCoreModel_field, e11, e8, e6, e3, h0]
  rw [hT]
  rw [if_neg (show ¬ (20 : Int32) = 0 by decide), if_neg (show ¬ (20 : Int32) = 1 by decide), if_neg (show ¬ (20 : Int32) = 2 by decide), if_neg (show ¬ (20 : Int32) = 3 by decide), if_neg (show ¬ (20 : Int32) = 4 by decide), if_neg (show ¬ (20 : Int32) = 5 by decide), if_neg (show ¬ (20 : Int32) = 6 by decide), if_neg (show ¬ (20 : Int32) = 7 by decide), if_neg (show ¬ (20 : Int32) = 8 by decide), if_neg (show ¬ (20 : Int32) = 9 by decide), if_neg (show ¬ (20 : Int32) = 10 by decide), if_neg (show ¬ (20 : Int32) = 11 by decide), if_neg (show ¬ (20 : Int32) = 12 by decide), if_neg (show ¬ (20 : Int32) = 13 by decide), if_neg (show ¬ (20 : Int32) = 14 by decide), if_neg (show ¬ (20 : Int32) = 15 by decide), if_neg (show ¬ (20 : Int32) = 16 by decide), if_neg (show ¬ (20 : Int32) = 17 by decide), if_neg (show ¬ (20 : Int32) = 18 by decide), if_neg (show ¬ (20 : Int32) = 19 by decide), if_pos rfl]
  rw [if_pos (show (3 : Int32) ≤ 20 by decide), if_pos (show ¬ (20 : Int32) = 3 by decide), if_pos (show (8 : Int32) ≤ 20 by decide), if_pos (show ¬ (20 : Int32) = 8 by decide), if_pos (show ¬ (20 : Int32) = 9 by decide), if_pos (show (12 : Int32) ≤ 20 by decide), if_pos (show (14 : Int32) ≤ 20 by decide), if_pos (show (16 : Int32) ≤ 20 by decide), if_pos (show (18 : Int32) ≤ 20 by decide), if_pos (show (20 : Int32) ≤ 20 by decide), if_neg (show ¬ (22 : Int32) ≤ 20 by decide), if_neg (show ¬ ¬ (20 : Int32) = 20 by decide)]
  unfold k_ThumbCoreModel_perform_399
  rw [hp]
  exact Or.inl ⟨rfl, _, false, rfl, Or.inl ⟨rfl, rfl⟩⟩
theorem pf_21 {q : Int32} {nw : Nat} (hm : tc_mem q nw) {h : Int32} (hh : isH h) (lk : Bool) (pr w r : Nat → Int32) (n z c v : Bool) (p a cu nx : Int32) (mk : Bool) (ha : actOK a) (hcu : vp_in cu 16) (hsp : (r (13 : Int32).toNatClampNeg &&& 3) = 0) (hth : f_Memory_isThere q (r (15 : Int32).toNatClampNeg) 2 = true) (hrd : f_Memory_read w (r (15 : Int32).toNatClampNeg) 2 = h) (hT : o_iushr h 11 = 21) : pfOK lk w r n z c v p a cu mk (f_ThumbCore_perform q pr false lk nx w r n z c v p a cu mk) (f_ThumbCoreModel_perform q h pr n z c v false (r (15 : Int32).toNatClampNeg + 2) false mk false lk cu (byt w) r (bt p) (bt a)) := by
  have b1 : ¬ bI true = 0 := by decide
  have e11 : o_ishr h 11 = o_iushr h 11 := i_sh hh 11 (by decide)
  have e8 : o_ishr h 8 = o_iushr h 8 := i_sh hh 8 (by decide)
  have e6 : o_ishr h 6 = o_iushr h 6 := i_sh hh 6 (by decide)
  have e3 : o_ishr h 3 = o_iushr h 3 := i_sh hh 3 (by decide)
  have h0 : o_ishr h 0 = h := i_0 h
  have hp := (p_fromBase hm w r 21 hT).2.2.2.2 rfl
  unfold f_ThumbCore_perform f_ThumbCoreModel_perform
  rw [bd_eq, bd_eq, hth, if_pos b1, bd_eq, hrd]
  simp only [bd, f_ThumbCoreModel_field, e11, e8, e6, e3, h0]
  rw [hT]
  rw [if_neg (show ¬ (21 : Int32) = 0 by decide), if_neg (show ¬ (21 : Int32) = 1 by decide), if_neg (show ¬ (21 : Int32) = 2 by decide), if_neg (show ¬ (21 : Int32) = 3 by decide), if_neg (show ¬ (21 : Int32) = 4 by decide), if_neg (show ¬ (21 : Int32) = 5 by decide), if_neg (show ¬ (21 : Int32) = 6 by decide), if_neg (show ¬ (21 : Int32) = 7 by decide), if_neg (show ¬ (21 : Int32) = 8 by decide), if_neg (show ¬ (21 : Int32) = 9 by decide), if_neg (show ¬ (21 : Int32) = 10 by decide), if_neg (show ¬ (21 : Int32) = 11 by decide), if_neg (show ¬ (21 : Int32) = 12 by decide), if_neg (show ¬ (21 : Int32) = 13 by decide), if_neg (show ¬ (21 : Int32) = 14 by decide), if_neg (show ¬ (21 : Int32) = 15 by decide), if_neg (show ¬ (21 : Int32) = 16 by decide), if_neg (show ¬ (21 : Int32) = 17 by decide), if_neg (show ¬ (21 : Int32) = 18 by decide), if_neg (show ¬ (21 : Int32) = 19 by decide), if_neg (show ¬ (21 : Int32) = 20 by decide), if_pos rfl]
  rw [if_pos (show (3 : Int32) ≤ 21 by decide), if_pos (show ¬ (21 : Int32) = 3 by decide), if_pos (show (8 : Int32) ≤ 21 by decide), if_pos (show ¬ (21 : Int32) = 8 by decide), if_pos (show ¬ (21 : Int32) = 9 by decide), if_pos (show (12 : Int32) ≤ 21 by decide), if_pos (show (14 : Int32) ≤ 21 by decide), if_pos (show (16 : Int32) ≤ 21 by decide), if_pos (show (18 : Int32) ≤ 21 by decide), if_pos (show (20 : Int32) ≤ 21 by decide), if_neg (show ¬ (22 : Int32) ≤ 21 by decide), if_pos (show ¬ (21 : Int32) = 20 by decide)]
  unfold k_ThumbCoreModel_perform_399
  rw [hp]
  exact Or.inl ⟨rfl, _, false, rfl, Or.inl ⟨rfl, rfl⟩⟩
theorem pf_22 {q : Int32} {nw : Nat} (hm : tc_mem q nw) {h : Int32} (hh : isH h) (lk : Bool) (pr w r : Nat → Int32) (n z c v : Bool) (p a cu nx : Int32) (mk : Bool) (ha : actOK a) (hcu : vp_in cu 16) (hsp : (r (13 : Int32).toNatClampNeg &&& 3) = 0) (hth : f_Memory_isThere q (r (15 : Int32).toNatClampNeg) 2 = true) (hrd : f_Memory_read w (r (15 : Int32).toNatClampNeg) 2 = h) (hT : o_iushr h 11 = 22) : pfOK lk w r n z c v p a cu mk (f_ThumbCore_perform q pr false lk nx w r n z c v p a cu mk) (f_ThumbCoreModel_perform q h pr n z c v false (r (15 : Int32).toNatClampNeg + 2) false mk false lk cu (byt w) r (bt p) (bt a)) := by
  have b1 : ¬ bI true = 0 := by decide
  have e11 : o_ishr h 11 = o_iushr h 11 := i_sh hh 11 (by decide)
  have e8 : o_ishr h 8 = o_iushr h 8 := i_sh hh 8 (by decide)
  have e6 : o_ishr h 6 = o_iushr h 6 := i_sh hh 6 (by decide)
  have e3 : o_ishr h 3 = o_iushr h 3 := i_sh hh 3 (by decide)
  have h0 : o_ishr h 0 = h := i_0 h
  have hp := p_kinds hm hh w r n z c v mk (r (15 : Int32).toNatClampNeg + 2) cu a ha hcu
  unfold f_ThumbCore_perform f_ThumbCoreModel_perform
  rw [bd_eq, bd_eq, hth, if_pos b1, bd_eq, hrd]
  simp only [bd, f_ThumbCoreModel_field, e11, e8, e6, e3, h0]
  rw [hT]
  rw [if_neg (show ¬ (22 : Int32) = 0 by decide), if_neg (show ¬ (22 : Int32) = 1 by decide), if_neg (show ¬ (22 : Int32) = 2 by decide), if_neg (show ¬ (22 : Int32) = 3 by decide), if_neg (show ¬ (22 : Int32) = 4 by decide), if_neg (show ¬ (22 : Int32) = 5 by decide), if_neg (show ¬ (22 : Int32) = 6 by decide), if_neg (show ¬ (22 : Int32) = 7 by decide), if_neg (show ¬ (22 : Int32) = 8 by decide), if_neg (show ¬ (22 : Int32) = 9 by decide), if_neg (show ¬ (22 : Int32) = 10 by decide), if_neg (show ¬ (22 : Int32) = 11 by decide), if_neg (show ¬ (22 : Int32) = 12 by decide), if_neg (show ¬ (22 : Int32) = 13 by decide), if_neg (show ¬ (22 : Int32) = 14 by decide), if_neg (show ¬ (22 : Int32) = 15 by decide), if_neg (show ¬ (22 : Int32) = 16 by decide), if_neg (show ¬ (22 : Int32) = 17 by decide), if_neg (show ¬ (22 : Int32) = 18 by decide), if_neg (show ¬ (22 : Int32) = 19 by decide), if_neg (show ¬ (22 : Int32) = 20 by decide), if_neg (show ¬ (22 : Int32) = 21 by decide), if_pos rfl]
  rw [if_pos (show (3 : Int32) ≤ 22 by decide), if_pos (show ¬ (22 : Int32) = 3 by decide), if_pos (show (8 : Int32) ≤ 22 by decide), if_pos (show ¬ (22 : Int32) = 8 by decide), if_pos (show ¬ (22 : Int32) = 9 by decide), if_pos (show (12 : Int32) ≤ 22 by decide), if_pos (show (14 : Int32) ≤ 22 by decide), if_pos (show (16 : Int32) ≤ 22 by decide), if_pos (show (18 : Int32) ≤ 22 by decide), if_pos (show (20 : Int32) ≤ 22 by decide), if_pos (show (22 : Int32) ≤ 22 by decide), if_neg (show ¬ (24 : Int32) ≤ 22 by decide)]
  exact pf_k lk w r n z c v p a cu _ mk _ _ hp
theorem pf_23 {q : Int32} {nw : Nat} (hm : tc_mem q nw) {h : Int32} (hh : isH h) (lk : Bool) (pr w r : Nat → Int32) (n z c v : Bool) (p a cu nx : Int32) (mk : Bool) (ha : actOK a) (hcu : vp_in cu 16) (hsp : (r (13 : Int32).toNatClampNeg &&& 3) = 0) (hth : f_Memory_isThere q (r (15 : Int32).toNatClampNeg) 2 = true) (hrd : f_Memory_read w (r (15 : Int32).toNatClampNeg) 2 = h) (hT : o_iushr h 11 = 23) : pfOK lk w r n z c v p a cu mk (f_ThumbCore_perform q pr false lk nx w r n z c v p a cu mk) (f_ThumbCoreModel_perform q h pr n z c v false (r (15 : Int32).toNatClampNeg + 2) false mk false lk cu (byt w) r (bt p) (bt a)) := by
  have b1 : ¬ bI true = 0 := by decide
  have e11 : o_ishr h 11 = o_iushr h 11 := i_sh hh 11 (by decide)
  have e8 : o_ishr h 8 = o_iushr h 8 := i_sh hh 8 (by decide)
  have e6 : o_ishr h 6 = o_iushr h 6 := i_sh hh 6 (by decide)
  have e3 : o_ishr h 3 = o_iushr h 3 := i_sh hh 3 (by decide)
  have h0 : o_ishr h 0 = h := i_0 h
  have hp := p_kinds hm hh w r n z c v mk (r (15 : Int32).toNatClampNeg + 2) cu a ha hcu
  unfold f_ThumbCore_perform f_ThumbCoreModel_perform
  rw [bd_eq, bd_eq, hth, if_pos b1, bd_eq, hrd]
  simp only [bd, f_ThumbCoreModel_field, e11, e8, e6, e3, h0]
  rw [hT]
  rw [if_neg (show ¬ (23 : Int32) = 0 by decide), if_neg (show ¬ (23 : Int32) = 1 by decide), if_neg (show ¬ (23 : Int32) = 2 by decide), if_neg (show ¬ (23 : Int32) = 3 by decide), if_neg (show ¬ (23 : Int32) = 4 by decide), if_neg (show ¬ (23 : Int32) = 5 by decide), if_neg (show ¬ (23 : Int32) = 6 by decide), if_neg (show ¬ (23 : Int32) = 7 by decide), if_neg (show ¬ (23 : Int32) = 8 by decide), if_neg (show ¬ (23 : Int32) = 9 by decide), if_neg (show ¬ (23 : Int32) = 10 by decide), if_neg (show ¬ (23 : Int32) = 11 by decide), if_neg (show ¬ (23 : Int32) = 12 by decide), if_neg (show ¬ (23 : Int32) = 13 by decide), if_neg (show ¬ (23 : Int32) = 14 by decide), if_neg (show ¬ (23 : Int32) = 15 by decide), if_neg (show ¬ (23 : Int32) = 16 by decide), if_neg (show ¬ (23 : Int32) = 17 by decide), if_neg (show ¬ (23 : Int32) = 18 by decide), if_neg (show ¬ (23 : Int32) = 19 by decide), if_neg (show ¬ (23 : Int32) = 20 by decide), if_neg (show ¬ (23 : Int32) = 21 by decide), if_neg (show ¬ (23 : Int32) = 22 by decide), if_pos rfl]
  rw [if_pos (show (3 : Int32) ≤ 23 by decide), if_pos (show ¬ (23 : Int32) = 3 by decide), if_pos (show (8 : Int32) ≤ 23 by decide), if_pos (show ¬ (23 : Int32) = 8 by decide), if_pos (show ¬ (23 : Int32) = 9 by decide), if_pos (show (12 : Int32) ≤ 23 by decide), if_pos (show (14 : Int32) ≤ 23 by decide), if_pos (show (16 : Int32) ≤ 23 by decide), if_pos (show (18 : Int32) ≤ 23 by decide), if_pos (show (20 : Int32) ≤ 23 by decide), if_pos (show (22 : Int32) ≤ 23 by decide), if_neg (show ¬ (24 : Int32) ≤ 23 by decide)]
  exact pf_k lk w r n z c v p a cu _ mk _ _ hp
theorem pf_24 {q : Int32} {nw : Nat} (hm : tc_mem q nw) {h : Int32} (hh : isH h) (lk : Bool) (pr w r : Nat → Int32) (n z c v : Bool) (p a cu nx : Int32) (mk : Bool) (ha : actOK a) (hcu : vp_in cu 16) (hsp : (r (13 : Int32).toNatClampNeg &&& 3) = 0) (hth : f_Memory_isThere q (r (15 : Int32).toNatClampNeg) 2 = true) (hrd : f_Memory_read w (r (15 : Int32).toNatClampNeg) 2 = h) (hT : o_iushr h 11 = 24) : pfOK lk w r n z c v p a cu mk (f_ThumbCore_perform q pr false lk nx w r n z c v p a cu mk) (f_ThumbCoreModel_perform q h pr n z c v false (r (15 : Int32).toNatClampNeg + 2) false mk false lk cu (byt w) r (bt p) (bt a)) := by
  have b1 : ¬ bI true = 0 := by decide
  have e11 : o_ishr h 11 = o_iushr h 11 := i_sh hh 11 (by decide)
  have e8 : o_ishr h 8 = o_iushr h 8 := i_sh hh 8 (by decide)
  have e6 : o_ishr h 6 = o_iushr h 6 := i_sh hh 6 (by decide)
  have e3 : o_ishr h 3 = o_iushr h 3 := i_sh hh 3 (by decide)
  have h0 : o_ishr h 0 = h := i_0 h
  have hp := p_storeMany hm hh w r
  unfold f_ThumbCore_perform f_ThumbCoreModel_perform
  rw [bd_eq, bd_eq, hth, if_pos b1, bd_eq, hrd]
  simp only [bd, f_ThumbCoreModel_field, e11, e8, e6, e3, h0]
  rw [hT]
  rw [if_neg (show ¬ (24 : Int32) = 0 by decide), if_neg (show ¬ (24 : Int32) = 1 by decide), if_neg (show ¬ (24 : Int32) = 2 by decide), if_neg (show ¬ (24 : Int32) = 3 by decide), if_neg (show ¬ (24 : Int32) = 4 by decide), if_neg (show ¬ (24 : Int32) = 5 by decide), if_neg (show ¬ (24 : Int32) = 6 by decide), if_neg (show ¬ (24 : Int32) = 7 by decide), if_neg (show ¬ (24 : Int32) = 8 by decide), if_neg (show ¬ (24 : Int32) = 9 by decide), if_neg (show ¬ (24 : Int32) = 10 by decide), if_neg (show ¬ (24 : Int32) = 11 by decide), if_neg (show ¬ (24 : Int32) = 12 by decide), if_neg (show ¬ (24 : Int32) = 13 by decide), if_neg (show ¬ (24 : Int32) = 14 by decide), if_neg (show ¬ (24 : Int32) = 15 by decide), if_neg (show ¬ (24 : Int32) = 16 by decide), if_neg (show ¬ (24 : Int32) = 17 by decide), if_neg (show ¬ (24 : Int32) = 18 by decide), if_neg (show ¬ (24 : Int32) = 19 by decide), if_neg (show ¬ (24 : Int32) = 20 by decide), if_neg (show ¬ (24 : Int32) = 21 by decide), if_neg (show ¬ (24 : Int32) = 22 by decide), if_neg (show ¬ (24 : Int32) = 23 by decide), if_pos rfl]
  rw [if_pos (show (3 : Int32) ≤ 24 by decide), if_pos (show ¬ (24 : Int32) = 3 by decide), if_pos (show (8 : Int32) ≤ 24 by decide), if_pos (show ¬ (24 : Int32) = 8 by decide), if_pos (show ¬ (24 : Int32) = 9 by decide), if_pos (show (12 : Int32) ≤ 24 by decide), if_pos (show (14 : Int32) ≤ 24 by decide), if_pos (show (16 : Int32) ≤ 24 by decide), if_pos (show (18 : Int32) ≤ 24 by decide), if_pos (show (20 : Int32) ≤ 24 by decide), if_pos (show (22 : Int32) ≤ 24 by decide), if_pos (show (24 : Int32) ≤ 24 by decide), if_neg (show ¬ (26 : Int32) ≤ 24 by decide), if_pos (show ¬ (24 : Int32) = 25 by decide)]
  unfold k_ThumbCoreModel_perform_437
  exact pf_ls lk w r n z c v p a cu _ mk _ _ hp
theorem pf_25 {q : Int32} {nw : Nat} (hm : tc_mem q nw) {h : Int32} (hh : isH h) (lk : Bool) (pr w r : Nat → Int32) (n z c v : Bool) (p a cu nx : Int32) (mk : Bool) (ha : actOK a) (hcu : vp_in cu 16) (hsp : (r (13 : Int32).toNatClampNeg &&& 3) = 0) (hth : f_Memory_isThere q (r (15 : Int32).toNatClampNeg) 2 = true) (hrd : f_Memory_read w (r (15 : Int32).toNatClampNeg) 2 = h) (hT : o_iushr h 11 = 25) : pfOK lk w r n z c v p a cu mk (f_ThumbCore_perform q pr false lk nx w r n z c v p a cu mk) (f_ThumbCoreModel_perform q h pr n z c v false (r (15 : Int32).toNatClampNeg + 2) false mk false lk cu (byt w) r (bt p) (bt a)) := by
  have b1 : ¬ bI true = 0 := by decide
  have e11 : o_ishr h 11 = o_iushr h 11 := i_sh hh 11 (by decide)
  have e8 : o_ishr h 8 = o_iushr h 8 := i_sh hh 8 (by decide)
  have e6 : o_ishr h 6 = o_iushr h 6 := i_sh hh 6 (by decide)
  have e3 : o_ishr h 3 = o_iushr h 3 := i_sh hh 3 (by decide)
  have h0 : o_ishr h 0 = h := i_0 h
  have hp := p_loadMany hm hh w r
  unfold f_ThumbCore_perform f_ThumbCoreModel_perform
  rw [bd_eq, bd_eq, hth, if_pos b1, bd_eq, hrd]
  simp only [bd, f_ThumbCoreModel_field, e11, e8, e6, e3, h0]
  rw [hT]
  rw [if_neg (show ¬ (25 : Int32) = 0 by decide), if_neg (show ¬ (25 : Int32) = 1 by decide), if_neg (show ¬ (25 : Int32) = 2 by decide), if_neg (show ¬ (25 : Int32) = 3 by decide), if_neg (show ¬ (25 : Int32) = 4 by decide), if_neg (show ¬ (25 : Int32) = 5 by decide), if_neg (show ¬ (25 : Int32) = 6 by decide), if_neg (show ¬ (25 : Int32) = 7 by decide), if_neg (show ¬ (25 : Int32) = 8 by decide), if_neg (show ¬ (25 : Int32) = 9 by decide), if_neg (show ¬ (25 : Int32) = 10 by decide), if_neg (show ¬ (25 : Int32) = 11 by decide), if_neg (show ¬ (25 : Int32) = 12 by decide), if_neg (show ¬ (25 : Int32) = 13 by decide), if_neg (show ¬ (25 : Int32) = 14 by decide), if_neg (show ¬ (25 : Int32) = 15 by decide), if_neg (show ¬ (25 : Int32) = 16 by decide), if_neg (show ¬ (25 : Int32) = 17 by decide), if_neg (show ¬ (25 : Int32) = 18 by decide), if_neg (show ¬ (25 : Int32) = 19 by decide), if_neg (show ¬ (25 : Int32) = 20 by decide), if_neg (show ¬ (25 : Int32) = 21 by decide), if_neg (show ¬ (25 : Int32) = 22 by decide), if_neg (show ¬ (25 : Int32) = 23 by decide), if_neg (show ¬ (25 : Int32) = 24 by decide), if_pos rfl]
  rw [if_pos (show (3 : Int32) ≤ 25 by decide), if_pos (show ¬ (25 : Int32) = 3 by decide), if_pos (show (8 : Int32) ≤ 25 by decide), if_pos (show ¬ (25 : Int32) = 8 by decide), if_pos (show ¬ (25 : Int32) = 9 by decide), if_pos (show (12 : Int32) ≤ 25 by decide), if_pos (show (14 : Int32) ≤ 25 by decide), if_pos (show (16 : Int32) ≤ 25 by decide), if_pos (show (18 : Int32) ≤ 25 by decide), if_pos (show (20 : Int32) ≤ 25 by decide), if_pos (show (22 : Int32) ≤ 25 by decide), if_pos (show (24 : Int32) ≤ 25 by decide), if_neg (show ¬ (26 : Int32) ≤ 25 by decide), if_neg (show ¬ ¬ (25 : Int32) = 25 by decide)]
  unfold k_ThumbCoreModel_perform_437
  exact pf_ls lk w r n z c v p a cu _ mk _ _ hp
theorem pf_26 {q : Int32} {nw : Nat} (hm : tc_mem q nw) {h : Int32} (hh : isH h) (lk : Bool) (pr w r : Nat → Int32) (n z c v : Bool) (p a cu nx : Int32) (mk : Bool) (ha : actOK a) (hcu : vp_in cu 16) (hsp : (r (13 : Int32).toNatClampNeg &&& 3) = 0) (hth : f_Memory_isThere q (r (15 : Int32).toNatClampNeg) 2 = true) (hrd : f_Memory_read w (r (15 : Int32).toNatClampNeg) 2 = h) (hT : o_iushr h 11 = 26) : pfOK lk w r n z c v p a cu mk (f_ThumbCore_perform q pr false lk nx w r n z c v p a cu mk) (f_ThumbCoreModel_perform q h pr n z c v false (r (15 : Int32).toNatClampNeg + 2) false mk false lk cu (byt w) r (bt p) (bt a)) := by
  have b1 : ¬ bI true = 0 := by decide
  have e11 : o_ishr h 11 = o_iushr h 11 := i_sh hh 11 (by decide)
  have e8 : o_ishr h 8 = o_iushr h 8 := i_sh hh 8 (by decide)
  have e6 : o_ishr h 6 = o_iushr h 6 := i_sh hh 6 (by decide)
  have e3 : o_ishr h 3 = o_iushr h 3 := i_sh hh 3 (by decide)
  have h0 : o_ishr h 0 = h := i_0 h
  have hp := p_branch hm hh n z c v mk lk pr w r p a cu (r (15 : Int32).toNatClampNeg + 2) hsp ha
  unfold f_ThumbCore_perform f_ThumbCoreModel_perform
  rw [bd_eq, bd_eq, hth, if_pos b1, bd_eq, hrd]
  simp only [bd, f_ThumbCoreModel_field, e11, e8, e6, e3, h0]
  rw [hT]
  rw [if_neg (show ¬ (26 : Int32) = 0 by decide), if_neg (show ¬ (26 : Int32) = 1 by decide), if_neg (show ¬ (26 : Int32) = 2 by decide), if_neg (show ¬ (26 : Int32) = 3 by decide), if_neg (show ¬ (26 : Int32) = 4 by decide), if_neg (show ¬ (26 : Int32) = 5 by decide), if_neg (show ¬ (26 : Int32) = 6 by decide), if_neg (show ¬ (26 : Int32) = 7 by decide), if_neg (show ¬ (26 : Int32) = 8 by decide), if_neg (show ¬ (26 : Int32) = 9 by decide), if_neg (show ¬ (26 : Int32) = 10 by decide), if_neg (show ¬ (26 : Int32) = 11 by decide), if_neg (show ¬ (26 : Int32) = 12 by decide), if_neg (show ¬ (26 : Int32) = 13 by decide), if_neg (show ¬ (26 : Int32) = 14 by decide), if_neg (show ¬ (26 : Int32) = 15 by decide), if_neg (show ¬ (26 : Int32) = 16 by decide), if_neg (show ¬ (26 : Int32) = 17 by decide), if_neg (show ¬ (26 : Int32) = 18 by decide), if_neg (show ¬ (26 : Int32) = 19 by decide), if_neg (show ¬ (26 : Int32) = 20 by decide), if_neg (show ¬ (26 : Int32) = 21 by decide), if_neg (show ¬ (26 : Int32) = 22 by decide), if_neg (show ¬ (26 : Int32) = 23 by decide), if_neg (show ¬ (26 : Int32) = 24 by decide), if_neg (show ¬ (26 : Int32) = 25 by decide), if_pos rfl]
  rw [if_pos (show (3 : Int32) ≤ 26 by decide), if_pos (show ¬ (26 : Int32) = 3 by decide), if_pos (show (8 : Int32) ≤ 26 by decide), if_pos (show ¬ (26 : Int32) = 8 by decide), if_pos (show ¬ (26 : Int32) = 9 by decide), if_pos (show (12 : Int32) ≤ 26 by decide), if_pos (show (14 : Int32) ≤ 26 by decide), if_pos (show (16 : Int32) ≤ 26 by decide), if_pos (show (18 : Int32) ≤ 26 by decide), if_pos (show (20 : Int32) ≤ 26 by decide), if_pos (show (22 : Int32) ≤ 26 by decide), if_pos (show (24 : Int32) ≤ 26 by decide), if_pos (show (26 : Int32) ≤ 26 by decide), if_neg (show ¬ (28 : Int32) ≤ 26 by decide)]
  exact pf_b lk w r n z c v p a cu _ mk _ _ hp
theorem pf_27 {q : Int32} {nw : Nat} (hm : tc_mem q nw) {h : Int32} (hh : isH h) (lk : Bool) (pr w r : Nat → Int32) (n z c v : Bool) (p a cu nx : Int32) (mk : Bool) (ha : actOK a) (hcu : vp_in cu 16) (hsp : (r (13 : Int32).toNatClampNeg &&& 3) = 0) (hth : f_Memory_isThere q (r (15 : Int32).toNatClampNeg) 2 = true) (hrd : f_Memory_read w (r (15 : Int32).toNatClampNeg) 2 = h) (hT : o_iushr h 11 = 27) : pfOK lk w r n z c v p a cu mk (f_ThumbCore_perform q pr false lk nx w r n z c v p a cu mk) (f_ThumbCoreModel_perform q h pr n z c v false (r (15 : Int32).toNatClampNeg + 2) false mk false lk cu (byt w) r (bt p) (bt a)) := by
  have b1 : ¬ bI true = 0 := by decide
  have e11 : o_ishr h 11 = o_iushr h 11 := i_sh hh 11 (by decide)
  have e8 : o_ishr h 8 = o_iushr h 8 := i_sh hh 8 (by decide)
  have e6 : o_ishr h 6 = o_iushr h 6 := i_sh hh 6 (by decide)
  have e3 : o_ishr h 3 = o_iushr h 3 := i_sh hh 3 (by decide)
  have h0 : o_ishr h 0 = h := i_0 h
  have hp := p_branch hm hh n z c v mk lk pr w r p a cu (r (15 : Int32).toNatClampNeg + 2) hsp ha
  unfold f_ThumbCore_perform f_ThumbCoreModel_perform
  rw [bd_eq, bd_eq, hth, if_pos b1, bd_eq, hrd]
  simp only [bd, f_ThumbCoreModel_field, e11, e8, e6, e3, h0]
  rw [hT]
  rw [if_neg (show ¬ (27 : Int32) = 0 by decide), if_neg (show ¬ (27 : Int32) = 1 by decide), if_neg (show ¬ (27 : Int32) = 2 by decide), if_neg (show ¬ (27 : Int32) = 3 by decide), if_neg (show ¬ (27 : Int32) = 4 by decide), if_neg (show ¬ (27 : Int32) = 5 by decide), if_neg (show ¬ (27 : Int32) = 6 by decide), if_neg (show ¬ (27 : Int32) = 7 by decide), if_neg (show ¬ (27 : Int32) = 8 by decide), if_neg (show ¬ (27 : Int32) = 9 by decide), if_neg (show ¬ (27 : Int32) = 10 by decide), if_neg (show ¬ (27 : Int32) = 11 by decide), if_neg (show ¬ (27 : Int32) = 12 by decide), if_neg (show ¬ (27 : Int32) = 13 by decide), if_neg (show ¬ (27 : Int32) = 14 by decide), if_neg (show ¬ (27 : Int32) = 15 by decide), if_neg (show ¬ (27 : Int32) = 16 by decide), if_neg (show ¬ (27 : Int32) = 17 by decide), if_neg (show ¬ (27 : Int32) = 18 by decide), if_neg (show ¬ (27 : Int32) = 19 by decide), if_neg (show ¬ (27 : Int32) = 20 by decide), if_neg (show ¬ (27 : Int32) = 21 by decide), if_neg (show ¬ (27 : Int32) = 22 by decide), if_neg (show ¬ (27 : Int32) = 23 by decide), if_neg (show ¬ (27 : Int32) = 24 by decide), if_neg (show ¬ (27 : Int32) = 25 by decide), if_neg (show ¬ (27 : Int32) = 26 by decide), if_pos rfl]
  rw [if_pos (show (3 : Int32) ≤ 27 by decide), if_pos (show ¬ (27 : Int32) = 3 by decide), if_pos (show (8 : Int32) ≤ 27 by decide), if_pos (show ¬ (27 : Int32) = 8 by decide), if_pos (show ¬ (27 : Int32) = 9 by decide), if_pos (show (12 : Int32) ≤ 27 by decide), if_pos (show (14 : Int32) ≤ 27 by decide), if_pos (show (16 : Int32) ≤ 27 by decide), if_pos (show (18 : Int32) ≤ 27 by decide), if_pos (show (20 : Int32) ≤ 27 by decide), if_pos (show (22 : Int32) ≤ 27 by decide), if_pos (show (24 : Int32) ≤ 27 by decide), if_pos (show (26 : Int32) ≤ 27 by decide), if_neg (show ¬ (28 : Int32) ≤ 27 by decide)]
  exact pf_b lk w r n z c v p a cu _ mk _ _ hp
theorem pf_28 {q : Int32} {nw : Nat} (hm : tc_mem q nw) {h : Int32} (hh : isH h) (lk : Bool) (pr w r : Nat → Int32) (n z c v : Bool) (p a cu nx : Int32) (mk : Bool) (ha : actOK a) (hcu : vp_in cu 16) (hsp : (r (13 : Int32).toNatClampNeg &&& 3) = 0) (hth : f_Memory_isThere q (r (15 : Int32).toNatClampNeg) 2 = true) (hrd : f_Memory_read w (r (15 : Int32).toNatClampNeg) 2 = h) (hT : o_iushr h 11 = 28) : pfOK lk w r n z c v p a cu mk (f_ThumbCore_perform q pr false lk nx w r n z c v p a cu mk) (f_ThumbCoreModel_perform q h pr n z c v false (r (15 : Int32).toNatClampNeg + 2) false mk false lk cu (byt w) r (bt p) (bt a)) := by
  have b1 : ¬ bI true = 0 := by decide
  have e11 : o_ishr h 11 = o_iushr h 11 := i_sh hh 11 (by decide)
  have e8 : o_ishr h 8 = o_iushr h 8 := i_sh hh 8 (by decide)
  have e6 : o_ishr h 6 = o_iushr h 6 := i_sh hh 6 (by decide)
  have e3 : o_ishr h 3 = o_iushr h 3 := i_sh hh 3 (by decide)
  have h0 : o_ishr h 0 = h := i_0 h
  have hp := p_28 h
  unfold f_ThumbCore_perform f_ThumbCoreModel_perform
  rw [bd_eq, bd_eq, hth, if_pos b1, bd_eq, hrd]
  simp only [bd, f_ThumbCoreModel_field, e11, e8, e6, e3, h0]
  rw [hT]
  rw [if_neg (show ¬ (28 : Int32) = 0 by decide), if_neg (show ¬ (28 : Int32) = 1 by decide), if_neg (show ¬ (28 : Int32) = 2 by decide), if_neg (show ¬ (28 : Int32) = 3 by decide), if_neg (show ¬ (28 : Int32) = 4 by decide), if_neg (show ¬ (28 : Int32) = 5 by decide), if_neg (show ¬ (28 : Int32) = 6 by decide), if_neg (show ¬ (28 : Int32) = 7 by decide), if_neg (show ¬ (28 : Int32) = 8 by decide), if_neg (show ¬ (28 : Int32) = 9 by decide), if_neg (show ¬ (28 : Int32) = 10 by decide), if_neg (show ¬ (28 : Int32) = 11 by decide), if_neg (show ¬ (28 : Int32) = 12 by decide), if_neg (show ¬ (28 : Int32) = 13 by decide), if_neg (show ¬ (28 : Int32) = 14 by decide), if_neg (show ¬ (28 : Int32) = 15 by decide), if_neg (show ¬ (28 : Int32) = 16 by decide), if_neg (show ¬ (28 : Int32) = 17 by decide), if_neg (show ¬ (28 : Int32) = 18 by decide), if_neg (show ¬ (28 : Int32) = 19 by decide), if_neg (show ¬ (28 : Int32) = 20 by decide), if_neg (show ¬ (28 : Int32) = 21 by decide), if_neg (show ¬ (28 : Int32) = 22 by decide), if_neg (show ¬ (28 : Int32) = 23 by decide), if_neg (show ¬ (28 : Int32) = 24 by decide), if_neg (show ¬ (28 : Int32) = 25 by decide), if_neg (show ¬ (28 : Int32) = 26 by decide), if_neg (show ¬ (28 : Int32) = 27 by decide), if_pos rfl]
  rw [if_pos (show (3 : Int32) ≤ 28 by decide), if_pos (show ¬ (28 : Int32) = 3 by decide), if_pos (show (8 : Int32) ≤ 28 by decide), if_pos (show ¬ (28 : Int32) = 8 by decide), if_pos (show ¬ (28 : Int32) = 9 by decide), if_pos (show (12 : Int32) ≤ 28 by decide), if_pos (show (14 : Int32) ≤ 28 by decide), if_pos (show (16 : Int32) ≤ 28 by decide), if_pos (show (18 : Int32) ≤ 28 by decide), if_pos (show (20 : Int32) ≤ 28 by decide), if_pos (show (22 : Int32) ≤ 28 by decide), if_pos (show (24 : Int32) ≤ 28 by decide), if_pos (show (26 : Int32) ≤ 28 by decide), if_pos (show (28 : Int32) ≤ 28 by decide), if_neg (show ¬ ¬ (28 : Int32) = 28 by decide)]
  unfold f_ThumbCore_here
  rw [hp]
  exact Or.inl ⟨rfl, _, false, rfl, Or.inl ⟨rfl, rfl⟩⟩
theorem pf_29 {q : Int32} {nw : Nat} (hm : tc_mem q nw) {h : Int32} (hh : isH h) (lk : Bool) (pr w r : Nat → Int32) (n z c v : Bool) (p a cu nx : Int32) (mk : Bool) (ha : actOK a) (hcu : vp_in cu 16) (hsp : (r (13 : Int32).toNatClampNeg &&& 3) = 0) (hth : f_Memory_isThere q (r (15 : Int32).toNatClampNeg) 2 = true) (hrd : f_Memory_read w (r (15 : Int32).toNatClampNeg) 2 = h) (hT : o_iushr h 11 = 29) : pfOK lk w r n z c v p a cu mk (f_ThumbCore_perform q pr false lk nx w r n z c v p a cu mk) (f_ThumbCoreModel_perform q h pr n z c v false (r (15 : Int32).toNatClampNeg + 2) false mk false lk cu (byt w) r (bt p) (bt a)) := by
  have b1 : ¬ bI true = 0 := by decide
  have e11 : o_ishr h 11 = o_iushr h 11 := i_sh hh 11 (by decide)
  have e8 : o_ishr h 8 = o_iushr h 8 := i_sh hh 8 (by decide)
  have e6 : o_ishr h 6 = o_iushr h 6 := i_sh hh 6 (by decide)
  have e3 : o_ishr h 3 = o_iushr h 3 := i_sh hh 3 (by decide)
  have h0 : o_ishr h 0 = h := i_0 h
  unfold f_ThumbCore_perform f_ThumbCoreModel_perform
  rw [bd_eq, bd_eq, hth, if_pos b1, bd_eq, hrd]
  simp only [bd, f_ThumbCoreModel_field, e11, e8, e6, e3, h0]
  rw [hT]
  rw [if_neg (show ¬ (29 : Int32) = 0 by decide), if_neg (show ¬ (29 : Int32) = 1 by decide), if_neg (show ¬ (29 : Int32) = 2 by decide), if_neg (show ¬ (29 : Int32) = 3 by decide), if_neg (show ¬ (29 : Int32) = 4 by decide), if_neg (show ¬ (29 : Int32) = 5 by decide), if_neg (show ¬ (29 : Int32) = 6 by decide), if_neg (show ¬ (29 : Int32) = 7 by decide), if_neg (show ¬ (29 : Int32) = 8 by decide), if_neg (show ¬ (29 : Int32) = 9 by decide), if_neg (show ¬ (29 : Int32) = 10 by decide), if_neg (show ¬ (29 : Int32) = 11 by decide), if_neg (show ¬ (29 : Int32) = 12 by decide), if_neg (show ¬ (29 : Int32) = 13 by decide), if_neg (show ¬ (29 : Int32) = 14 by decide), if_neg (show ¬ (29 : Int32) = 15 by decide), if_neg (show ¬ (29 : Int32) = 16 by decide), if_neg (show ¬ (29 : Int32) = 17 by decide), if_neg (show ¬ (29 : Int32) = 18 by decide), if_neg (show ¬ (29 : Int32) = 19 by decide), if_neg (show ¬ (29 : Int32) = 20 by decide), if_neg (show ¬ (29 : Int32) = 21 by decide), if_neg (show ¬ (29 : Int32) = 22 by decide), if_neg (show ¬ (29 : Int32) = 23 by decide), if_neg (show ¬ (29 : Int32) = 24 by decide), if_neg (show ¬ (29 : Int32) = 25 by decide), if_neg (show ¬ (29 : Int32) = 26 by decide), if_neg (show ¬ (29 : Int32) = 27 by decide), if_neg (show ¬ (29 : Int32) = 28 by decide), if_neg (show ¬ (29 : Int32) = 30 by decide)]
  rw [if_pos (show (3 : Int32) ≤ 29 by decide), if_pos (show ¬ (29 : Int32) = 3 by decide), if_pos (show (8 : Int32) ≤ 29 by decide), if_pos (show ¬ (29 : Int32) = 8 by decide), if_pos (show ¬ (29 : Int32) = 9 by decide), if_pos (show (12 : Int32) ≤ 29 by decide), if_pos (show (14 : Int32) ≤ 29 by decide), if_pos (show (16 : Int32) ≤ 29 by decide), if_pos (show (18 : Int32) ≤ 29 by decide), if_pos (show (20 : Int32) ≤ 29 by decide), if_pos (show (22 : Int32) ≤ 29 by decide), if_pos (show (24 : Int32) ≤ 29 by decide), if_pos (show (26 : Int32) ≤ 29 by decide), if_pos (show (28 : Int32) ≤ 29 by decide), if_pos (show ¬ (29 : Int32) = 28 by decide), if_pos (show ¬ (29 : Int32) = 30 by decide)]
  exact Or.inr ⟨⟨_, rfl⟩, rfl, rfl, rfl, rfl, rfl, rfl, rfl, rfl, hi_r r⟩
theorem pf_30 {q : Int32} {nw : Nat} (hm : tc_mem q nw) {h : Int32} (hh : isH h) (lk : Bool) (pr w r : Nat → Int32) (n z c v : Bool) (p a cu nx : Int32) (mk : Bool) (ha : actOK a) (hcu : vp_in cu 16) (hsp : (r (13 : Int32).toNatClampNeg &&& 3) = 0) (hth : f_Memory_isThere q (r (15 : Int32).toNatClampNeg) 2 = true) (hrd : f_Memory_read w (r (15 : Int32).toNatClampNeg) 2 = h) (hT : o_iushr h 11 = 30) : pfOK lk w r n z c v p a cu mk (f_ThumbCore_perform q pr false lk nx w r n z c v p a cu mk) (f_ThumbCoreModel_perform q h pr n z c v false (r (15 : Int32).toNatClampNeg + 2) false mk false lk cu (byt w) r (bt p) (bt a)) := by
  have b1 : ¬ bI true = 0 := by decide
  have e11 : o_ishr h 11 = o_iushr h 11 := i_sh hh 11 (by decide)
  have e8 : o_ishr h 8 = o_iushr h 8 := i_sh hh 8 (by decide)
  have e6 : o_ishr h 6 = o_iushr h 6 := i_sh hh 6 (by decide)
  have e3 : o_ishr h 3 = o_iushr h 3 := i_sh hh 3 (by decide)
  have h0 : o_ishr h 0 = h := i_0 h
  have hp := p_far hm hh w r (r (15 : Int32).toNatClampNeg + 2)
  unfold f_ThumbCore_perform f_ThumbCoreModel_perform
  rw [bd_eq, bd_eq, hth, if_pos b1, bd_eq, hrd]
  simp only [bd, f_ThumbCoreModel_field, e11, e8, e6, e3, h0]
  rw [hT]
  rw [if_neg (show ¬ (30 : Int32) = 0 by decide), if_neg (show ¬ (30 : Int32) = 1 by decide), if_neg (show ¬ (30 : Int32) = 2 by decide), if_neg (show ¬ (30 : Int32) = 3 by decide), if_neg (show ¬ (30 : Int32) = 4 by decide), if_neg (show ¬ (30 : Int32) = 5 by decide), if_neg (show ¬ (30 : Int32) = 6 by decide), if_neg (show ¬ (30 : Int32) = 7 by decide), if_neg (show ¬ (30 : Int32) = 8 by decide), if_neg (show ¬ (30 : Int32) = 9 by decide), if_neg (show ¬ (30 : Int32) = 10 by decide), if_neg (show ¬ (30 : Int32) = 11 by decide), if_neg (show ¬ (30 : Int32) = 12 by decide), if_neg (show ¬ (30 : Int32) = 13 by decide), if_neg (show ¬ (30 : Int32) = 14 by decide), if_neg (show ¬ (30 : Int32) = 15 by decide), if_neg (show ¬ (30 : Int32) = 16 by decide), if_neg (show ¬ (30 : Int32) = 17 by decide), if_neg (show ¬ (30 : Int32) = 18 by decide), if_neg (show ¬ (30 : Int32) = 19 by decide), if_neg (show ¬ (30 : Int32) = 20 by decide), if_neg (show ¬ (30 : Int32) = 21 by decide), if_neg (show ¬ (30 : Int32) = 22 by decide), if_neg (show ¬ (30 : Int32) = 23 by decide), if_neg (show ¬ (30 : Int32) = 24 by decide), if_neg (show ¬ (30 : Int32) = 25 by decide), if_neg (show ¬ (30 : Int32) = 26 by decide), if_neg (show ¬ (30 : Int32) = 27 by decide), if_neg (show ¬ (30 : Int32) = 28 by decide), if_pos rfl]
  rw [if_pos (show (3 : Int32) ≤ 30 by decide), if_pos (show ¬ (30 : Int32) = 3 by decide), if_pos (show (8 : Int32) ≤ 30 by decide), if_pos (show ¬ (30 : Int32) = 8 by decide), if_pos (show ¬ (30 : Int32) = 9 by decide), if_pos (show (12 : Int32) ≤ 30 by decide), if_pos (show (14 : Int32) ≤ 30 by decide), if_pos (show (16 : Int32) ≤ 30 by decide), if_pos (show (18 : Int32) ≤ 30 by decide), if_pos (show (20 : Int32) ≤ 30 by decide), if_pos (show (22 : Int32) ≤ 30 by decide), if_pos (show (24 : Int32) ≤ 30 by decide), if_pos (show (26 : Int32) ≤ 30 by decide), if_pos (show (28 : Int32) ≤ 30 by decide), if_pos (show ¬ (30 : Int32) = 28 by decide), if_neg (show ¬ ¬ (30 : Int32) = 30 by decide)]
  rcases hp with ⟨p1, p2⟩ | ⟨p1, p2, p3⟩
  · rw [p2]
    exact Or.inl ⟨p1, _, false, rfl, Or.inl ⟨rfl, rfl⟩⟩
  · rw [p1]
    exact Or.inr ⟨⟨_, rfl⟩, p2, rfl, rfl, rfl, rfl, rfl, rfl, rfl, fun i _ => congrFun p3 i⟩
theorem pf_31 {q : Int32} {nw : Nat} (hm : tc_mem q nw) {h : Int32} (hh : isH h) (lk : Bool) (pr w r : Nat → Int32) (n z c v : Bool) (p a cu nx : Int32) (mk : Bool) (ha : actOK a) (hcu : vp_in cu 16) (hsp : (r (13 : Int32).toNatClampNeg &&& 3) = 0) (hth : f_Memory_isThere q (r (15 : Int32).toNatClampNeg) 2 = true) (hrd : f_Memory_read w (r (15 : Int32).toNatClampNeg) 2 = h) (hT : o_iushr h 11 = 31) : pfOK lk w r n z c v p a cu mk (f_ThumbCore_perform q pr false lk nx w r n z c v p a cu mk) (f_ThumbCoreModel_perform q h pr n z c v false (r (15 : Int32).toNatClampNeg + 2) false mk false lk cu (byt w) r (bt p) (bt a)) := by
  have b1 : ¬ bI true = 0 := by decide
  have e11 : o_ishr h 11 = o_iushr h 11 := i_sh hh 11 (by decide)
  have e8 : o_ishr h 8 = o_iushr h 8 := i_sh hh 8 (by decide)
  have e6 : o_ishr h 6 = o_iushr h 6 := i_sh hh 6 (by decide)
  have e3 : o_ishr h 3 = o_iushr h 3 := i_sh hh 3 (by decide)
  have h0 : o_ishr h 0 = h := i_0 h
  unfold f_ThumbCore_perform f_ThumbCoreModel_perform
  rw [bd_eq, bd_eq, hth, if_pos b1, bd_eq, hrd]
  simp only [bd, f_ThumbCoreModel_field, e11, e8, e6, e3, h0]
  rw [hT]
  rw [if_neg (show ¬ (31 : Int32) = 0 by decide), if_neg (show ¬ (31 : Int32) = 1 by decide), if_neg (show ¬ (31 : Int32) = 2 by decide), if_neg (show ¬ (31 : Int32) = 3 by decide), if_neg (show ¬ (31 : Int32) = 4 by decide), if_neg (show ¬ (31 : Int32) = 5 by decide), if_neg (show ¬ (31 : Int32) = 6 by decide), if_neg (show ¬ (31 : Int32) = 7 by decide), if_neg (show ¬ (31 : Int32) = 8 by decide), if_neg (show ¬ (31 : Int32) = 9 by decide), if_neg (show ¬ (31 : Int32) = 10 by decide), if_neg (show ¬ (31 : Int32) = 11 by decide), if_neg (show ¬ (31 : Int32) = 12 by decide), if_neg (show ¬ (31 : Int32) = 13 by decide), if_neg (show ¬ (31 : Int32) = 14 by decide), if_neg (show ¬ (31 : Int32) = 15 by decide), if_neg (show ¬ (31 : Int32) = 16 by decide), if_neg (show ¬ (31 : Int32) = 17 by decide), if_neg (show ¬ (31 : Int32) = 18 by decide), if_neg (show ¬ (31 : Int32) = 19 by decide), if_neg (show ¬ (31 : Int32) = 20 by decide), if_neg (show ¬ (31 : Int32) = 21 by decide), if_neg (show ¬ (31 : Int32) = 22 by decide), if_neg (show ¬ (31 : Int32) = 23 by decide), if_neg (show ¬ (31 : Int32) = 24 by decide), if_neg (show ¬ (31 : Int32) = 25 by decide), if_neg (show ¬ (31 : Int32) = 26 by decide), if_neg (show ¬ (31 : Int32) = 27 by decide), if_neg (show ¬ (31 : Int32) = 28 by decide), if_neg (show ¬ (31 : Int32) = 30 by decide)]
  rw [if_pos (show (3 : Int32) ≤ 31 by decide), if_pos (show ¬ (31 : Int32) = 3 by decide), if_pos (show (8 : Int32) ≤ 31 by decide), if_pos (show ¬ (31 : Int32) = 8 by decide), if_pos (show ¬ (31 : Int32) = 9 by decide), if_pos (show (12 : Int32) ≤ 31 by decide), if_pos (show (14 : Int32) ≤ 31 by decide), if_pos (show (16 : Int32) ≤ 31 by decide), if_pos (show (18 : Int32) ≤ 31 by decide), if_pos (show (20 : Int32) ≤ 31 by decide), if_pos (show (22 : Int32) ≤ 31 by decide), if_pos (show (24 : Int32) ≤ 31 by decide), if_pos (show (26 : Int32) ≤ 31 by decide), if_pos (show (28 : Int32) ≤ 31 by decide), if_pos (show ¬ (31 : Int32) = 28 by decide), if_pos (show ¬ (31 : Int32) = 30 by decide)]
  exact Or.inr ⟨⟨_, rfl⟩, rfl, rfl, rfl, rfl, rfl, rfl, rfl, rfl, hi_r r⟩

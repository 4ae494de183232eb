set_option maxHeartbeats 4000000 in
set_option maxRecDepth 100000 in
theorem lw_loop (p : Program) (l : Launch) (e : Env) (s : State) (m : MethodId) (below : List Frame) (meth : Method) (c : Code) (Q : State → Prop) (b : Nat) (D : va_G) (cI cB cZ : ClassId) (a1 a2 a3 a4 a5 a6 a7 a8 b1 b2 b3 b4 b5 b6 b7 : Nat) (q : Int32) (nw : Nat) {L tL : Nat} {xs : Nat → Int32} (hL : L ≤ 2049) (C0 : lwC p s m c b L xs D cI cB cZ tL q nw) (E : ∀ (H : Heap) (locs : List Loc) (ls : Array Slot), va_S (fun r : Nat => s.heap.size ≤ r) s.heap H locs → W p l e room_1 s m #[Value.ref b] below meth c H locs 15 2717 Q (F0 m 447 ls [])) : ∀ (n j : Nat), j ≤ 2053 → L ≤ j + 4 * n → ∀ (H : Heap) (locs : List Loc) (ls : Array Slot) (c_asleep : Bool) (c_locked : Bool) (c_next : Int32) (c_memory_words : Nat → Int32) (c_registers : Nat → Int32) (c_flags_negative : Bool) (c_flags_zero : Bool) (c_flags_carry : Bool) (c_flags_overflow : Bool) (c_exceptions_pending : Int32) (c_exceptions_active : Int32) (c_exceptions_current : Int32) (c_exceptions_masked : Bool) (c_exceptions_priorities : Nat → Int32) (c_counter_number : Int32) (c_counter_reload : Int32) (c_counter_on : Bool) (kf : Int32) (bad : Bool) (hh : Int32) (af : Int32) (en : Bool) (kp : Nat → Int32), va_P D tcl (wd_ThumbCore cI cB cZ a1 a2 a3 a4 a5 a6 a7 a8 q nw c_asleep c_locked c_next c_memory_words c_registers c_flags_negative c_flags_zero c_flags_carry c_flags_overflow c_exceptions_pending c_exceptions_active c_exceptions_current c_exceptions_masked c_exceptions_priorities c_counter_number c_counter_reload c_counter_on ++ wd_ThumbCoreModel cI cB cZ b1 b2 b3 b4 b5 b6 b7 q c_flags_negative c_flags_zero c_flags_carry c_flags_overflow kf bad hh af en c_exceptions_masked c_asleep c_locked c_counter_on c_counter_number c_counter_reload c_exceptions_current (byt c_memory_words) c_registers kp (bt c_exceptions_pending) (bt c_exceptions_active) c_exceptions_priorities) H → va_D (fun r : Nat => s.heap.size ≤ r) (wd_ThumbCore cI cB cZ a1 a2 a3 a4 a5 a6 a7 a8 q nw c_asleep c_locked c_next c_memory_words c_registers c_flags_negative c_flags_zero c_flags_carry c_flags_overflow c_exceptions_pending c_exceptions_active c_exceptions_current c_exceptions_masked c_exceptions_priorities c_counter_number c_counter_reload c_counter_on ++ wd_ThumbCoreModel cI cB cZ b1 b2 b3 b4 b5 b6 b7 q c_flags_negative c_flags_zero c_flags_carry c_flags_overflow kf bad hh af en c_exceptions_masked c_asleep c_locked c_counter_on c_counter_number c_counter_reload c_exceptions_current (byt c_memory_words) c_registers kp (bt c_exceptions_pending) (bt c_exceptions_active) c_exceptions_priorities) → va_S (fun r : Nat => s.heap.size ≤ r) s.heap H locs → lv_has ls 4 [(0, .ref b), (1, .ref a1), (2, .ref b1), (3, .int (nI j))] → ivS c_registers c_exceptions_pending c_exceptions_active c_exceptions_current → W p l e room_1 s m #[Value.ref b] below meth c H locs 15 2717 Q (F0 m 28 ls []) := by
  have C1 := C0
  obtain ⟨hx, hb, hml, hown, hts, hX, hbl, hK, hN, hZ, hm⟩ := C0
  have hbA : ¬ (fun r : Nat => s.heap.size ≤ r) b := Nat.not_le.mpr hbl
  have e4 : (4 : Int32).toInt = 4 := by decide
  have eL : (Int32.ofNat L - 4).toInt = (L : Int) - 4 := by
    rw [Int32.toInt_sub, lw_len hL, e4]
    exact Int.bmod_eq_of_le (by omega) (by omega)
  intro n
  induction n with
  | zero =>
    intro j hj hLj H locs ls c_asleep c_locked c_next c_memory_words c_registers c_flags_negative c_flags_zero c_flags_carry c_flags_overflow c_exceptions_pending c_exceptions_active c_exceptions_current c_exceptions_masked c_exceptions_priorities c_counter_number c_counter_reload c_counter_on kf bad hh af en kp hP hD hS hl hs
    have ej : (nI j).toInt = (j : Int) := nI_toInt (by omega)
    refine lv_iload_n hx hb d_law_28 rfl (lv_at hl 3 rfl) ?_
    refine lv_aload_n hx hb d_law_29 rfl (lv_at hl 0 rfl) ?_
    refine va_slen hx hb hX hbl hbA hS d_law_30 ?_
    refine lv_iconst (v := 4) hx hb d_law_31 (by decide) ?_
    refine lv_isub hx hb d_law_32 ?_
    refine lv_icmp_gt (tgt := 447) hx hb d_law_33 (by decide) (fun _ => E H locs ls hS) (fun g => ?_)
    refine (g ?_).elim
    rw [Int32.lt_iff_toInt_lt, eL, ej]
    omega
  | succ n ih =>
    intro j hj hLj H locs ls c_asleep c_locked c_next c_memory_words c_registers c_flags_negative c_flags_zero c_flags_carry c_flags_overflow c_exceptions_pending c_exceptions_active c_exceptions_current c_exceptions_masked c_exceptions_priorities c_counter_number c_counter_reload c_counter_on kf bad hh af en kp hP hD hS hl hs
    have ej : (nI j).toInt = (j : Int) := nI_toInt (by omega)
    refine lv_iload_n hx hb d_law_28 rfl (lv_at hl 3 rfl) ?_
    refine lv_aload_n hx hb d_law_29 rfl (lv_at hl 0 rfl) ?_
    refine va_slen hx hb hX hbl hbA hS d_law_30 ?_
    refine lv_iconst (v := 4) hx hb d_law_31 (by decide) ?_
    refine lv_isub hx hb d_law_32 ?_
    refine lv_icmp_gt (tgt := 447) hx hb d_law_33 (by decide) (fun _ => E H locs ls hS) (fun g => ?_)
    rw [Int32.lt_iff_toInt_lt, eL, ej] at g
    have hk : ∀ k : Nat, k < 4 → vp_in (nI j + nI k) L := by
      intro k hk
      rw [nI_add]
      exact vp_in_iff.mpr (by rw [nI_toInt (by omega)]; omega)
    have hi0 : vp_in (nI j) L := vp_in_iff.mpr (by rw [ej]; omega)
    have hi1 : vp_in (nI j + 1) L := hk 1 (by decide)
    have hi2 : vp_in (nI j + 2) L := hk 2 (by decide)
    have hi3 : vp_in (nI j + 3) L := hk 3 (by decide)
    have J : lwJ p l e s m below meth c Q b D cI cB cZ a1 a2 a3 a4 a5 a6 a7 a8 b1 b2 b3 b4 b5 b6 b7 q nw (nI j) := by
      intro H locs ls c_asleep c_locked c_next c_memory_words c_registers c_flags_negative c_flags_zero c_flags_carry c_flags_overflow c_exceptions_pending c_exceptions_active c_exceptions_current c_exceptions_masked c_exceptions_priorities c_counter_number c_counter_reload c_counter_on kf bad hh af en kp hP hD hS hl hs
      refine lv_iinc (k := 3) (v := (nI j + 4)) (lv' := [(3, .int (nI j + 4)), (0, .ref b), (1, .ref a1), (2, .ref b1)]) hx hb d_law_441 hl rfl rfl (by decide) rfl (fun ls hl => ?_)
      refine lv_goto (tgt := 28) hx hb d_law_444 (by decide) ?_
      exact ih (j + 4) (by omega) (by omega) H locs ls c_asleep c_locked c_next c_memory_words c_registers c_flags_negative c_flags_zero c_flags_carry c_flags_overflow c_exceptions_pending c_exceptions_active c_exceptions_current c_exceptions_masked c_exceptions_priorities c_counter_number c_counter_reload c_counter_on kf bad hh af en kp hP hD hS (lv_sub (show lv_has ls 4 [(3, .int (nI (j + 4))), (0, .ref b), (1, .ref a1), (2, .ref b1)] by rw [← nI_add]; exact hl) [1, 2, 3, 0] rfl) hs
    refine lv_aload_n hx hb d_law_36 rfl (lv_at hl 0 rfl) ?_
    refine lv_iload_n hx hb d_law_37 rfl (lv_at hl 3 rfl) ?_
    refine va_sld hx hb hX hbl hbA hS hi0 d_law_38 ?_
    refine lv_bipush (v := 15) hx hb d_law_39 (by decide) ?_
    refine lv_iand hx hb d_law_41 ?_
    obtain ⟨k, hk16, ek⟩ := vp_in_of (pk_andIn (xs (nI j).toNatClampNeg) (m := 15) 4 (by decide) (by decide)) (by decide)
    rcases (show k = 0 ∨ k = 1 ∨ k = 2 ∨ k = 3 ∨ k = 4 ∨ k = 5 ∨ k = 6 ∨ k = 7 ∨ k = 8 ∨ k = 9 ∨ k = 10 ∨ k = 11 ∨ k = 12 ∨ k = 13 ∨ k = 14 ∨ k = 15 by omega) with rfl | rfl | rfl | rfl | rfl | rfl | rfl | rfl | rfl | rfl | rfl | rfl | rfl | rfl | rfl | rfl
    · refine tc_tabIn (k := nI 0) (off := 66) (tgt := 108) hx hb d_law_42 ek (by decide) (by decide) (by decide) (by decide) ?_
      exact lw_poke p l e s m below meth c Q b D cI cB cZ a1 a2 a3 a4 a5 a6 a7 a8 b1 b2 b3 b4 b5 b6 b7 q nw (nI j) C1 hi1 hi2 hi3 J H locs ls c_asleep c_locked c_next c_memory_words c_registers c_flags_negative c_flags_zero c_flags_carry c_flags_overflow c_exceptions_pending c_exceptions_active c_exceptions_current c_exceptions_masked c_exceptions_priorities c_counter_number c_counter_reload c_counter_on kf bad hh af en kp hP hD hS hl hs
    · refine tc_tabIn (k := nI 1) (off := 109) (tgt := 151) hx hb d_law_42 ek (by decide) (by decide) (by decide) (by decide) ?_
      exact lw_peek p l e s m below meth c Q b D cI cB cZ a1 a2 a3 a4 a5 a6 a7 a8 b1 b2 b3 b4 b5 b6 b7 q nw (nI j) C1 hi1 hi2 hi3 J H locs ls c_asleep c_locked c_next c_memory_words c_registers c_flags_negative c_flags_zero c_flags_carry c_flags_overflow c_exceptions_pending c_exceptions_active c_exceptions_current c_exceptions_masked c_exceptions_priorities c_counter_number c_counter_reload c_counter_on kf bad hh af en kp hP hD hS hl hs
    · refine tc_tabIn (k := nI 2) (off := 132) (tgt := 174) hx hb d_law_42 ek (by decide) (by decide) (by decide) (by decide) ?_
      exact lw_reset p l e s m below meth c Q b D cI cB cZ a1 a2 a3 a4 a5 a6 a7 a8 b1 b2 b3 b4 b5 b6 b7 q nw (nI j) C1 hi1 hi2 hi3 J H locs ls c_asleep c_locked c_next c_memory_words c_registers c_flags_negative c_flags_zero c_flags_carry c_flags_overflow c_exceptions_pending c_exceptions_active c_exceptions_current c_exceptions_masked c_exceptions_priorities c_counter_number c_counter_reload c_counter_on kf bad hh af en kp hP hD hS hl hs
    · refine tc_tabIn (k := nI 3) (off := 143) (tgt := 185) hx hb d_law_42 ek (by decide) (by decide) (by decide) (by decide) ?_
      exact lw_step p l e s m below meth c Q b D cI cB cZ a1 a2 a3 a4 a5 a6 a7 a8 b1 b2 b3 b4 b5 b6 b7 q nw (nI j) C1 hi1 hi2 hi3 J H locs ls c_asleep c_locked c_next c_memory_words c_registers c_flags_negative c_flags_zero c_flags_carry c_flags_overflow c_exceptions_pending c_exceptions_active c_exceptions_current c_exceptions_masked c_exceptions_priorities c_counter_number c_counter_reload c_counter_on kf bad hh af en kp hP hD hS hl hs
    · refine tc_tabIn (k := nI 4) (off := 156) (tgt := 198) hx hb d_law_42 ek (by decide) (by decide) (by decide) (by decide) ?_
      exact lw_run p l e s m below meth c Q b D cI cB cZ a1 a2 a3 a4 a5 a6 a7 a8 b1 b2 b3 b4 b5 b6 b7 q nw (nI j) C1 hi1 hi2 hi3 J H locs ls c_asleep c_locked c_next c_memory_words c_registers c_flags_negative c_flags_zero c_flags_carry c_flags_overflow c_exceptions_pending c_exceptions_active c_exceptions_current c_exceptions_masked c_exceptions_priorities c_counter_number c_counter_reload c_counter_on kf bad hh af en kp hP hD hS hl hs
    · refine tc_tabIn (k := nI 5) (off := 179) (tgt := 221) hx hb d_law_42 ek (by decide) (by decide) (by decide) (by decide) ?_
      exact lw_register p l e s m below meth c Q b D cI cB cZ a1 a2 a3 a4 a5 a6 a7 a8 b1 b2 b3 b4 b5 b6 b7 q nw (nI j) C1 hi1 hi2 hi3 J H locs ls c_asleep c_locked c_next c_memory_words c_registers c_flags_negative c_flags_zero c_flags_carry c_flags_overflow c_exceptions_pending c_exceptions_active c_exceptions_current c_exceptions_masked c_exceptions_priorities c_counter_number c_counter_reload c_counter_on kf bad hh af en kp hP hD hS hl hs
    · refine tc_tabIn (k := nI 6) (off := 202) (tgt := 244) hx hb d_law_42 ek (by decide) (by decide) (by decide) (by decide) ?_
      exact lw_set p l e s m below meth c Q b D cI cB cZ a1 a2 a3 a4 a5 a6 a7 a8 b1 b2 b3 b4 b5 b6 b7 q nw (nI j) C1 hi1 hi2 hi3 J H locs ls c_asleep c_locked c_next c_memory_words c_registers c_flags_negative c_flags_zero c_flags_carry c_flags_overflow c_exceptions_pending c_exceptions_active c_exceptions_current c_exceptions_masked c_exceptions_priorities c_counter_number c_counter_reload c_counter_on kf bad hh af en kp hP hD hS hl hs
    · refine tc_tabIn (k := nI 7) (off := 235) (tgt := 277) hx hb d_law_42 ek (by decide) (by decide) (by decide) (by decide) ?_
      exact lw_status p l e s m below meth c Q b D cI cB cZ a1 a2 a3 a4 a5 a6 a7 a8 b1 b2 b3 b4 b5 b6 b7 q nw (nI j) C1 hi1 hi2 hi3 J H locs ls c_asleep c_locked c_next c_memory_words c_registers c_flags_negative c_flags_zero c_flags_carry c_flags_overflow c_exceptions_pending c_exceptions_active c_exceptions_current c_exceptions_masked c_exceptions_priorities c_counter_number c_counter_reload c_counter_on kf bad hh af en kp hP hD hS hl hs
    · refine tc_tabIn (k := nI 8) (off := 248) (tgt := 290) hx hb d_law_42 ek (by decide) (by decide) (by decide) (by decide) ?_
      exact lw_about p l e s m below meth c Q b D cI cB cZ a1 a2 a3 a4 a5 a6 a7 a8 b1 b2 b3 b4 b5 b6 b7 q nw (nI j) C1 hi1 hi2 hi3 J H locs ls c_asleep c_locked c_next c_memory_words c_registers c_flags_negative c_flags_zero c_flags_carry c_flags_overflow c_exceptions_pending c_exceptions_active c_exceptions_current c_exceptions_masked c_exceptions_priorities c_counter_number c_counter_reload c_counter_on kf bad hh af en kp hP hD hS hl hs
    · refine tc_tabIn (k := nI 9) (off := 271) (tgt := 313) hx hb d_law_42 ek (by decide) (by decide) (by decide) (by decide) ?_
      exact lw_pend p l e s m below meth c Q b D cI cB cZ a1 a2 a3 a4 a5 a6 a7 a8 b1 b2 b3 b4 b5 b6 b7 q nw (nI j) C1 hi1 hi2 hi3 J H locs ls c_asleep c_locked c_next c_memory_words c_registers c_flags_negative c_flags_zero c_flags_carry c_flags_overflow c_exceptions_pending c_exceptions_active c_exceptions_current c_exceptions_masked c_exceptions_priorities c_counter_number c_counter_reload c_counter_on kf bad hh af en kp hP hD hS hl hs
    · refine tc_tabIn (k := nI 10) (off := 294) (tgt := 336) hx hb d_law_42 ek (by decide) (by decide) (by decide) (by decide) ?_
      exact lw_exception p l e s m below meth c Q b D cI cB cZ a1 a2 a3 a4 a5 a6 a7 a8 b1 b2 b3 b4 b5 b6 b7 q nw (nI j) C1 hi1 hi2 hi3 J H locs ls c_asleep c_locked c_next c_memory_words c_registers c_flags_negative c_flags_zero c_flags_carry c_flags_overflow c_exceptions_pending c_exceptions_active c_exceptions_current c_exceptions_masked c_exceptions_priorities c_counter_number c_counter_reload c_counter_on kf bad hh af en kp hP hD hS hl hs
    · refine tc_tabIn (k := nI 11) (off := 317) (tgt := 359) hx hb d_law_42 ek (by decide) (by decide) (by decide) (by decide) ?_
      exact lw_priority p l e s m below meth c Q b D cI cB cZ a1 a2 a3 a4 a5 a6 a7 a8 b1 b2 b3 b4 b5 b6 b7 q nw (nI j) C1 hi1 hi2 hi3 J H locs ls c_asleep c_locked c_next c_memory_words c_registers c_flags_negative c_flags_zero c_flags_carry c_flags_overflow c_exceptions_pending c_exceptions_active c_exceptions_current c_exceptions_masked c_exceptions_priorities c_counter_number c_counter_reload c_counter_on kf bad hh af en kp hP hD hS hl hs
    · refine tc_tabIn (k := nI 12) (off := 350) (tgt := 392) hx hb d_law_42 ek (by decide) (by decide) (by decide) (by decide) ?_
      exact lw_tick p l e s m below meth c Q b D cI cB cZ a1 a2 a3 a4 a5 a6 a7 a8 b1 b2 b3 b4 b5 b6 b7 q nw (nI j) C1 hi1 hi2 hi3 J H locs ls c_asleep c_locked c_next c_memory_words c_registers c_flags_negative c_flags_zero c_flags_carry c_flags_overflow c_exceptions_pending c_exceptions_active c_exceptions_current c_exceptions_masked c_exceptions_priorities c_counter_number c_counter_reload c_counter_on kf bad hh af en kp hP hD hS hl hs
    · refine lv_tableOut (tgt := 441) hx hb d_law_42 (by rw [ek]; decide) (by decide) ?_
      exact J H locs ls c_asleep c_locked c_next c_memory_words c_registers c_flags_negative c_flags_zero c_flags_carry c_flags_overflow c_exceptions_pending c_exceptions_active c_exceptions_current c_exceptions_masked c_exceptions_priorities c_counter_number c_counter_reload c_counter_on kf bad hh af en kp hP hD hS hl hs
    · refine lv_tableOut (tgt := 441) hx hb d_law_42 (by rw [ek]; decide) (by decide) ?_
      exact J H locs ls c_asleep c_locked c_next c_memory_words c_registers c_flags_negative c_flags_zero c_flags_carry c_flags_overflow c_exceptions_pending c_exceptions_active c_exceptions_current c_exceptions_masked c_exceptions_priorities c_counter_number c_counter_reload c_counter_on kf bad hh af en kp hP hD hS hl hs
    · refine lv_tableOut (tgt := 441) hx hb d_law_42 (by rw [ek]; decide) (by decide) ?_
      exact J H locs ls c_asleep c_locked c_next c_memory_words c_registers c_flags_negative c_flags_zero c_flags_carry c_flags_overflow c_exceptions_pending c_exceptions_active c_exceptions_current c_exceptions_masked c_exceptions_priorities c_counter_number c_counter_reload c_counter_on kf bad hh af en kp hP hD hS hl hs

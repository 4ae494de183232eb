set_option maxHeartbeats 4000000 in
set_option maxRecDepth 100000 in
theorem lw_tick (p : Program) (l : Launch) (e : Env) (s : State) (m : MethodId) (below : List Frame) (meth : Method) (c : Code) (Q : State → Prop) (b : Nat) (D : va_G) (cI cB cZ : ClassId) (a1 a2 a3 a4 a5 a6 a7 a8 b1 b2 b3 b4 b5 b6 b7 : Nat) (q : Int32) (nw : Nat) (i : Int32) {L tL : Nat} {xs : Nat → Int32} (C0 : lwC p s m c b L xs D cI cB cZ tL q nw) (hi1 : vp_in (i + 1) L) (hi2 : vp_in (i + 2) L) (hi3 : vp_in (i + 3) L) (J : lwJ p l e s m below meth c Q b D cI cB cZ a1 a2 a3 a4 a5 a6 a7 a8 b1 b2 b3 b4 b5 b6 b7 q nw i) (H : Heap) (locs : List Loc) (ls : Array Slot) (c_asleep : Bool) (c_locked : Bool) (c_next : Int32) (c_memory_words : Nat → Int32) (c_registers : Nat → Int32) (c_flags_negative : Bool) (c_flags_zero : Bool) (c_flags_carry : Bool) (c_flags_overflow : Bool) (c_exceptions_pending : Int32) (c_exceptions_active : Int32) (c_exceptions_current : Int32) (c_exceptions_masked : Bool) (c_exceptions_priorities : Nat → Int32) (c_counter_number : Int32) (c_counter_reload : Int32) (c_counter_on : Bool) (kf : Int32) (bad : Bool) (hh : Int32) (af : Int32) (en : Bool) (kp : Nat → Int32) (hP : va_P D tcl (wd_ThumbCore cI cB cZ a1 a2 a3 a4 a5 a6 a7 a8 q nw c_asleep c_locked c_next c_memory_words c_registers c_flags_negative c_flags_zero c_flags_carry c_flags_overflow c_exceptions_pending c_exceptions_active c_exceptions_current c_exceptions_masked c_exceptions_priorities c_counter_number c_counter_reload c_counter_on ++ wd_ThumbCoreModel cI cB cZ b1 b2 b3 b4 b5 b6 b7 q c_flags_negative c_flags_zero c_flags_carry c_flags_overflow kf bad hh af en c_exceptions_masked c_asleep c_locked c_counter_on c_counter_number c_counter_reload c_exceptions_current (byt c_memory_words) c_registers kp (bt c_exceptions_pending) (bt c_exceptions_active) c_exceptions_priorities) H) (hD : va_D (fun r : Nat => s.heap.size ≤ r) (wd_ThumbCore cI cB cZ a1 a2 a3 a4 a5 a6 a7 a8 q nw c_asleep c_locked c_next c_memory_words c_registers c_flags_negative c_flags_zero c_flags_carry c_flags_overflow c_exceptions_pending c_exceptions_active c_exceptions_current c_exceptions_masked c_exceptions_priorities c_counter_number c_counter_reload c_counter_on ++ wd_ThumbCoreModel cI cB cZ b1 b2 b3 b4 b5 b6 b7 q c_flags_negative c_flags_zero c_flags_carry c_flags_overflow kf bad hh af en c_exceptions_masked c_asleep c_locked c_counter_on c_counter_number c_counter_reload c_exceptions_current (byt c_memory_words) c_registers kp (bt c_exceptions_pending) (bt c_exceptions_active) c_exceptions_priorities)) (hS : va_S (fun r : Nat => s.heap.size ≤ r) s.heap H locs) (hl : lv_has ls 4 [(0, .ref b), (1, .ref a1), (2, .ref b1), (3, .int i)]) (hs : ivS c_registers c_exceptions_pending c_exceptions_active c_exceptions_current) : W p l e room_1 s m #[Value.ref b] below meth c H locs 15 2717 Q (F0 m 392 ls []) := by
  obtain ⟨hx, hb, hml, hown, hts, hX, hbl, hK, hN, hZ, hm⟩ := C0
  have hA : ∀ r : Nat, s.heap.size ≤ r → (fun r : Nat => s.heap.size ≤ r) r := fun r h => h
  have hbA : ¬ (fun r : Nat => s.heap.size ≤ r) b := Nat.not_le.mpr hbl
  have hmR : tc_memR q := by
    obtain ⟨h1, h2, h3⟩ := hm
    unfold tc_memR
    omega
  refine lv_aload_n hx hb d_law_392 rfl (lv_at hl 1 rfl) ?_
  refine lv_aload_n hx hb d_law_393 rfl (lv_at hl 0 rfl) ?_
  refine lv_iload_n hx hb d_law_394 rfl (lv_at hl 3 rfl) ?_
  refine lv_iconst (v := 1) hx hb d_law_395 (by decide) ?_
  refine lv_iadd hx hb d_law_396 ?_
  refine va_sld hx hb hX hbl hbA hS hi1 d_law_397 ?_
  refine lv_aload_n hx hb d_law_398 rfl (lv_at hl 0 rfl) ?_
  refine lv_iload_n hx hb d_law_399 rfl (lv_at hl 3 rfl) ?_
  refine lv_iconst (v := 2) hx hb d_law_400 (by decide) ?_
  refine lv_iadd hx hb d_law_401 ?_
  refine va_sld hx hb hX hbl hbA hS hi2 d_law_402 ?_
  refine lv_if_eq (tgt := 410) hx hb d_law_403 (by decide) (fun gz => ?_) (fun gz => ?_)
  · have _ := gz
    refine lv_iconst (v := 0) hx hb d_law_410 (by decide) ?_
    refine tc_mz (wo := fun u => (wd_ThumbCore cI cB cZ a1 a2 a3 a4 a5 a6 a7 a8 q nw c_asleep c_locked c_next c_memory_words c_registers c_flags_negative c_flags_zero c_flags_carry c_flags_overflow c_exceptions_pending c_exceptions_active c_exceptions_current c_exceptions_masked c_exceptions_priorities u.2.1 u.2.2.1 u.2.2.2 ++ wd_ThumbCoreModel cI cB cZ b1 b2 b3 b4 b5 b6 b7 q c_flags_negative c_flags_zero c_flags_carry c_flags_overflow kf bad hh af en c_exceptions_masked c_asleep c_locked c_counter_on c_counter_number c_counter_reload c_exceptions_current (byt c_memory_words) c_registers kp (bt c_exceptions_pending) (bt c_exceptions_active) c_exceptions_priorities)) (va_runV (As := [.int (xs (i + 1).toNatClampNeg), .int (bI false)]) (rest := []) ⟨hx, hb, hml, hown, hts⟩ (c_ThumbCore_tick l D cI cB cZ a1 a2 a3 a4 a5 a6 a7 a8 H.size q nw c_asleep c_locked c_next c_memory_words c_registers c_flags_negative c_flags_zero c_flags_carry c_flags_overflow c_exceptions_pending c_exceptions_active c_exceptions_current c_exceptions_masked c_exceptions_priorities c_counter_number c_counter_reload c_counter_on (xs (i + 1).toNatClampNeg) false) (cwV 2 hts (tc_gV wl_ThumbCoreLaw_74 wm_ThumbCore_tick ws_ThumbCore_tick wi_ThumbCore wc_ThumbCore_tick) rfl rfl rfl (by decide +kernel) ⟨(Nat.le_of_ble_eq_true rfl), (Nat.le_of_ble_eq_true rfl)⟩) (tc_preV hK hN hP hD [0, 1, 2, 3, 4, 5, 6, 7] rfl (by decide) (q0 := 0) rfl rfl) rfl rfl hl.1 rfl (lv_room (Nat.le_of_ble_eq_true rfl)) d_law_411 (by decide)) hP hD hS hA [0, 1, 2, 3, 4, 5, 6, 7] [8, 9, 10, 11, 12, 13, 14] [7, 8, 9, 10, 11, 12, 13, 14, 0, 1, 2, 3, 4, 5, 6] rfl rfl (by decide) (by decide) (by decide) (fun _ => rfl) (fun u1 H locs hu1 hP hD hS => ?_)
    refine lv_aload_n hx hb d_law_414 rfl (lv_at hl 2 rfl) ?_
    refine lv_aload_n hx hb d_law_415 rfl (lv_at hl 0 rfl) ?_
    refine lv_iload_n hx hb d_law_416 rfl (lv_at hl 3 rfl) ?_
    refine lv_iconst (v := 1) hx hb d_law_417 (by decide) ?_
    refine lv_iadd hx hb d_law_418 ?_
    refine va_sld hx hb hX hbl hbA hS hi1 d_law_419 ?_
    refine lv_aload_n hx hb d_law_420 rfl (lv_at hl 0 rfl) ?_
    refine lv_iload_n hx hb d_law_421 rfl (lv_at hl 3 rfl) ?_
    refine lv_iconst (v := 2) hx hb d_law_422 (by decide) ?_
    refine lv_iadd hx hb d_law_423 ?_
    refine va_sld hx hb hX hbl hbA hS hi2 d_law_424 ?_
    refine lv_if_eq (tgt := 432) hx hb d_law_425 (by decide) (fun _ => ?_) (fun k => absurd gz k)
    refine lv_iconst (v := 0) hx hb d_law_432 (by decide) ?_
    refine tc_mz (wo := fun u => (wd_ThumbCore cI cB cZ a1 a2 a3 a4 a5 a6 a7 a8 q nw c_asleep c_locked c_next c_memory_words c_registers c_flags_negative c_flags_zero c_flags_carry c_flags_overflow c_exceptions_pending c_exceptions_active c_exceptions_current c_exceptions_masked c_exceptions_priorities u1.2.1 u1.2.2.1 u1.2.2.2 ++ wd_ThumbCoreModel cI cB cZ b1 b2 b3 b4 b5 b6 b7 q c_flags_negative c_flags_zero c_flags_carry c_flags_overflow kf bad hh af en c_exceptions_masked c_asleep c_locked u.2.1 u.2.2.1 u.2.2.2 c_exceptions_current (byt c_memory_words) c_registers kp (bt c_exceptions_pending) (bt c_exceptions_active) c_exceptions_priorities)) (va_runV (As := [.int (xs (i + 1).toNatClampNeg), .int (bI false)]) (rest := [.int (bI u1.1)]) ⟨hx, hb, hml, hown, hts⟩ (c_ThumbCoreModel_tick l D cI cB cZ b1 b2 b3 b4 b5 b6 b7 H.size q c_flags_negative c_flags_zero c_flags_carry c_flags_overflow kf bad hh af en c_exceptions_masked c_asleep c_locked c_counter_on c_counter_number c_counter_reload c_exceptions_current (byt c_memory_words) c_registers kp (bt c_exceptions_pending) (bt c_exceptions_active) c_exceptions_priorities (xs (i + 1).toNatClampNeg) false) (cwV 2 hts (tc_gV wl_ThumbCoreLaw_78 wm_ThumbCoreModel_tick ws_ThumbCoreModel_tick wi_ThumbCoreModel wc_ThumbCoreModel_tick) rfl rfl rfl (by decide +kernel) ⟨(Nat.le_of_ble_eq_true rfl), (Nat.le_of_ble_eq_true rfl)⟩) (tc_preV hK hN hP hD [8, 9, 10, 11, 12, 13, 14] rfl (by decide) (q0 := 8) rfl rfl) rfl rfl hl.1 rfl (lv_room (Nat.le_of_ble_eq_true rfl)) d_law_433 (by decide)) hP hD hS hA [8, 9, 10, 11, 12, 13, 14] [0, 1, 2, 3, 4, 5, 6, 7] [0, 1, 2, 3, 4, 5, 6, 7, 8, 9, 10, 11, 12, 13, 14] rfl rfl (by decide) (by decide) (by decide) (fun _ => rfl) (fun u2 H locs hu2 hP hD hS => ?_)
    have em := p_tick c_counter_number c_counter_reload c_counter_on (xs (i + 1).toNatClampNeg) false
    subst hu1
    subst hu2
    rw [em] at hP hD ⊢
    refine lv_icmp_eq (tgt := 441) hx hb d_law_436 (by decide) (fun _ => ?_) (fun k => (k rfl).elim)
    exact J H locs ls _ _ _ _ _ _ _ _ _ _ _ _ _ _ _ _ _ kf bad hh af en kp hP hD hS hl (hs)
  · have _ := gz
    refine lv_iconst (v := 1) hx hb d_law_406 (by decide) ?_
    refine lv_goto (tgt := 411) hx hb d_law_407 (by decide) ?_
    refine tc_mz (wo := fun u => (wd_ThumbCore cI cB cZ a1 a2 a3 a4 a5 a6 a7 a8 q nw c_asleep c_locked c_next c_memory_words c_registers c_flags_negative c_flags_zero c_flags_carry c_flags_overflow c_exceptions_pending c_exceptions_active c_exceptions_current c_exceptions_masked c_exceptions_priorities u.2.1 u.2.2.1 u.2.2.2 ++ wd_ThumbCoreModel cI cB cZ b1 b2 b3 b4 b5 b6 b7 q c_flags_negative c_flags_zero c_flags_carry c_flags_overflow kf bad hh af en c_exceptions_masked c_asleep c_locked c_counter_on c_counter_number c_counter_reload c_exceptions_current (byt c_memory_words) c_registers kp (bt c_exceptions_pending) (bt c_exceptions_active) c_exceptions_priorities)) (va_runV (As := [.int (xs (i + 1).toNatClampNeg), .int (bI true)]) (rest := []) ⟨hx, hb, hml, hown, hts⟩ (c_ThumbCore_tick l D cI cB cZ a1 a2 a3 a4 a5 a6 a7 a8 H.size q nw c_asleep c_locked c_next c_memory_words c_registers c_flags_negative c_flags_zero c_flags_carry c_flags_overflow c_exceptions_pending c_exceptions_active c_exceptions_current c_exceptions_masked c_exceptions_priorities c_counter_number c_counter_reload c_counter_on (xs (i + 1).toNatClampNeg) true) (cwV 2 hts (tc_gV wl_ThumbCoreLaw_74 wm_ThumbCore_tick ws_ThumbCore_tick wi_ThumbCore wc_ThumbCore_tick) rfl rfl rfl (by decide +kernel) ⟨(Nat.le_of_ble_eq_true rfl), (Nat.le_of_ble_eq_true rfl)⟩) (tc_preV hK hN hP hD [0, 1, 2, 3, 4, 5, 6, 7] rfl (by decide) (q0 := 0) rfl rfl) rfl rfl hl.1 rfl (lv_room (Nat.le_of_ble_eq_true rfl)) d_law_411 (by decide)) hP hD hS hA [0, 1, 2, 3, 4, 5, 6, 7] [8, 9, 10, 11, 12, 13, 14] [7, 8, 9, 10, 11, 12, 13, 14, 0, 1, 2, 3, 4, 5, 6] rfl rfl (by decide) (by decide) (by decide) (fun _ => rfl) (fun u1 H locs hu1 hP hD hS => ?_)
    refine lv_aload_n hx hb d_law_414 rfl (lv_at hl 2 rfl) ?_
    refine lv_aload_n hx hb d_law_415 rfl (lv_at hl 0 rfl) ?_
    refine lv_iload_n hx hb d_law_416 rfl (lv_at hl 3 rfl) ?_
    refine lv_iconst (v := 1) hx hb d_law_417 (by decide) ?_
    refine lv_iadd hx hb d_law_418 ?_
    refine va_sld hx hb hX hbl hbA hS hi1 d_law_419 ?_
    refine lv_aload_n hx hb d_law_420 rfl (lv_at hl 0 rfl) ?_
    refine lv_iload_n hx hb d_law_421 rfl (lv_at hl 3 rfl) ?_
    refine lv_iconst (v := 2) hx hb d_law_422 (by decide) ?_
    refine lv_iadd hx hb d_law_423 ?_
    refine va_sld hx hb hX hbl hbA hS hi2 d_law_424 ?_
    refine lv_if_eq (tgt := 432) hx hb d_law_425 (by decide) (fun k => absurd k gz) (fun _ => ?_)
    refine lv_iconst (v := 1) hx hb d_law_428 (by decide) ?_
    refine lv_goto (tgt := 433) hx hb d_law_429 (by decide) ?_
    refine tc_mz (wo := fun u => (wd_ThumbCore cI cB cZ a1 a2 a3 a4 a5 a6 a7 a8 q nw c_asleep c_locked c_next c_memory_words c_registers c_flags_negative c_flags_zero c_flags_carry c_flags_overflow c_exceptions_pending c_exceptions_active c_exceptions_current c_exceptions_masked c_exceptions_priorities u1.2.1 u1.2.2.1 u1.2.2.2 ++ wd_ThumbCoreModel cI cB cZ b1 b2 b3 b4 b5 b6 b7 q c_flags_negative c_flags_zero c_flags_carry c_flags_overflow kf bad hh af en c_exceptions_masked c_asleep c_locked u.2.1 u.2.2.1 u.2.2.2 c_exceptions_current (byt c_memory_words) c_registers kp (bt c_exceptions_pending) (bt c_exceptions_active) c_exceptions_priorities)) (va_runV (As := [.int (xs (i + 1).toNatClampNeg), .int (bI true)]) (rest := [.int (bI u1.1)]) ⟨hx, hb, hml, hown, hts⟩ (c_ThumbCoreModel_tick l D cI cB cZ b1 b2 b3 b4 b5 b6 b7 H.size q c_flags_negative c_flags_zero c_flags_carry c_flags_overflow kf bad hh af en c_exceptions_masked c_asleep c_locked c_counter_on c_counter_number c_counter_reload c_exceptions_current (byt c_memory_words) c_registers kp (bt c_exceptions_pending) (bt c_exceptions_active) c_exceptions_priorities (xs (i + 1).toNatClampNeg) true) (cwV 2 hts (tc_gV wl_ThumbCoreLaw_78 wm_ThumbCoreModel_tick ws_ThumbCoreModel_tick wi_ThumbCoreModel wc_ThumbCoreModel_tick) rfl rfl rfl (by decide +kernel) ⟨(Nat.le_of_ble_eq_true rfl), (Nat.le_of_ble_eq_true rfl)⟩) (tc_preV hK hN hP hD [8, 9, 10, 11, 12, 13, 14] rfl (by decide) (q0 := 8) rfl rfl) rfl rfl hl.1 rfl (lv_room (Nat.le_of_ble_eq_true rfl)) d_law_433 (by decide)) hP hD hS hA [8, 9, 10, 11, 12, 13, 14] [0, 1, 2, 3, 4, 5, 6, 7] [0, 1, 2, 3, 4, 5, 6, 7, 8, 9, 10, 11, 12, 13, 14] rfl rfl (by decide) (by decide) (by decide) (fun _ => rfl) (fun u2 H locs hu2 hP hD hS => ?_)
    have em := p_tick c_counter_number c_counter_reload c_counter_on (xs (i + 1).toNatClampNeg) true
    subst hu1
    subst hu2
    rw [em] at hP hD ⊢
    refine lv_icmp_eq (tgt := 441) hx hb d_law_436 (by decide) (fun _ => ?_) (fun k => (k rfl).elim)
    exact J H locs ls _ _ _ _ _ _ _ _ _ _ _ _ _ _ _ _ _ kf bad hh af en kp hP hD hS hl (hs)

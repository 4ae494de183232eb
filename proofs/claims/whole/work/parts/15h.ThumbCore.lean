def f_ThumbCore_tick (c_counter_number : Int32) (c_counter_reload : Int32) (c_counter_on : Bool) (x1 : Int32) (x2 : Bool) : Bool × Int32 × Int32 × Bool :=
  if x1 < 0 then ((false, c_counter_number, c_counter_reload, c_counter_on))
  else if x1 ≤ 1000 then (un3 (f_Counter_begin c_counter_number c_counter_reload c_counter_on x1 x2) (fun s1 s2 s3 =>
    (true, s1, s2, s3)))
  else (false, c_counter_number, c_counter_reload, c_counter_on)
abbrev rm_ThumbCore_tick : Room := { frames := 2, cells := 0, slots := 0, locals := 46 }
set_option maxHeartbeats 4000000 in
set_option maxRecDepth 100000 in
theorem c_ThumbCore_tick (l : Launch) (D : va_G) (cI cB cZ : ClassId) (h h_memory h_memory_words h_registers h_flags h_exceptions h_exceptions_priorities h_counter sz : Nat) (q_memory_size : Int32) (n_memory_words : Nat) (c_asleep : Bool) (c_locked : Bool) (c_next : Int32) (c_memory_words : Nat → Int32) (c_registers : Nat → Int32) (c_flags_negative : Bool) (c_flags_zero : Bool) (c_flags_carry : Bool) (c_flags_overflow : Bool) (c_exceptions_pending : Int32) (c_exceptions_active : Int32) (c_exceptions_current : Int32) (c_exceptions_masked : Bool) (c_exceptions_priorities : Nat → Int32) (c_counter_number : Int32) (c_counter_reload : Int32) (c_counter_on : Bool) (x1 : Int32) (x2 : Bool) : Met l y_ThumbCore_tick (.code y_ThumbCore_tick b_ThumbCore_tick 3 (some .boolean) :: tcb) rm_ThumbCore_tick (tc_Pw D tcl (tys cI cB cZ) (wd_ThumbCore cI cB cZ h h_memory h_memory_words h_registers h_flags h_exceptions h_exceptions_priorities h_counter q_memory_size n_memory_words c_asleep c_locked c_next c_memory_words c_registers c_flags_negative c_flags_zero c_flags_carry c_flags_overflow c_exceptions_pending c_exceptions_active c_exceptions_current c_exceptions_masked c_exceptions_priorities c_counter_number c_counter_reload c_counter_on) sz ([.ref h, .int x1, .int (bI x2)] : List Value) none) (tc_Qz D tcl (wd_ThumbCore cI cB cZ h h_memory h_memory_words h_registers h_flags h_exceptions h_exceptions_priorities h_counter q_memory_size n_memory_words c_asleep c_locked c_next c_memory_words c_registers c_flags_negative c_flags_zero c_flags_carry c_flags_overflow c_exceptions_pending c_exceptions_active c_exceptions_current c_exceptions_masked c_exceptions_priorities c_counter_number c_counter_reload c_counter_on) sz (fun u => (wd_ThumbCore cI cB cZ h h_memory h_memory_words h_registers h_flags h_exceptions h_exceptions_priorities h_counter q_memory_size n_memory_words c_asleep c_locked c_next c_memory_words c_registers c_flags_negative c_flags_zero c_flags_carry c_flags_overflow c_exceptions_pending c_exceptions_active c_exceptions_current c_exceptions_masked c_exceptions_priorities u.2.1 u.2.2.1 u.2.2.2)) (f_ThumbCore_tick c_counter_number c_counter_reload c_counter_on x1 x2)) 0 0 (va_A (wd_ThumbCore cI cB cZ h h_memory h_memory_words h_registers h_flags h_exceptions h_exceptions_priorities h_counter q_memory_size n_memory_words c_asleep c_locked c_next c_memory_words c_registers c_flags_negative c_flags_zero c_flags_carry c_flags_overflow c_exceptions_pending c_exceptions_active c_exceptions_current c_exceptions_masked c_exceptions_priorities c_counter_number c_counter_reload c_counter_on) sz) := by
  refine tc_mu_z (by decide) (Nat.le_of_ble_eq_true rfl) ?_
  intro p e s m below meth c A Q ls hx hb hml hts hown hK hN hP hD hA hZ hl RET
  have hS : va_S A s.heap s.heap [] := va_S.rf
  have hl : lv_has ls 3 [(0, .ref h), (1, .int x1), (2, .int (bI x2))] := hl
  generalize hF : f_ThumbCore_tick c_counter_number c_counter_reload c_counter_on x1 x2 = FF at RET
  have hq : FF = f_ThumbCore_tick c_counter_number c_counter_reload c_counter_on x1 x2 := hF.symm
  revert hP hD hS
  suffices G : ∀ (H : Heap) (locs : List Loc), va_P D tcl (wd_ThumbCore cI cB cZ h h_memory h_memory_words h_registers h_flags h_exceptions h_exceptions_priorities h_counter q_memory_size n_memory_words c_asleep c_locked c_next c_memory_words c_registers c_flags_negative c_flags_zero c_flags_carry c_flags_overflow c_exceptions_pending c_exceptions_active c_exceptions_current c_exceptions_masked c_exceptions_priorities c_counter_number c_counter_reload c_counter_on) H → va_D A (wd_ThumbCore cI cB cZ h h_memory h_memory_words h_registers h_flags h_exceptions h_exceptions_priorities h_counter q_memory_size n_memory_words c_asleep c_locked c_next c_memory_words c_registers c_flags_negative c_flags_zero c_flags_carry c_flags_overflow c_exceptions_pending c_exceptions_active c_exceptions_current c_exceptions_masked c_exceptions_priorities c_counter_number c_counter_reload c_counter_on) → va_S A s.heap H locs → W p l e rm_ThumbCore_tick s m ([.ref h, .int x1, .int (bI x2)] : List Value).toArray below meth c H locs 0 0 Q (F0 m 0 ls []) from fun hP hD hS => G _ _ hP hD hS
  intro H locs hP hD hS
  refine lv_iload_n hx hb d_ThumbCore_tick_0 rfl (lv_at hl 1 rfl) ?_
  refine lv_if_lt (tgt := 11) hx hb d_ThumbCore_tick_1 (by decide) (fun g_1 => ?_) (fun g_1 => ?_)
  · have hq := hq.trans (if_pos g_1)
    refine lv_iconst (v := 0) hx hb d_ThumbCore_tick_11 (by decide) ?_
    exact RET H locs ls 12 (false, c_counter_number, c_counter_reload, c_counter_on) d_ThumbCore_tick_12 hP hD hS hq
  · have hq := hq.trans (if_neg g_1)
    refine lv_iload_n hx hb d_ThumbCore_tick_4 rfl (lv_at hl 1 rfl) ?_
    refine lv_sipush (v := 1000) hx hb d_ThumbCore_tick_5 (by decide) ?_
    refine lv_icmp_le (tgt := 13) hx hb d_ThumbCore_tick_8 (by decide) (fun g_8 => ?_) (fun g_8 => ?_)
    · have hq := hq.trans (if_pos g_8)
      refine lv_aload_n hx hb d_ThumbCore_tick_13 rfl (lv_at hl 0 rfl) ?_
      refine va_get (D := D) (ci := 4) (v := .ref h_counter) (C := R_ThumbCore) (T := F_ThumbCore) (N := 8) hx hb hts u_ThumbCore hown hK hP 0 rfl rfl 4 (by decide) (hts _ wf_ThumbCore_48) (fun _ h9 => h9) rfl d_ThumbCore_tick_14 ?_
      refine lv_iload_n hx hb d_ThumbCore_tick_17 rfl (lv_at hl 1 rfl) ?_
      refine lv_iload_n hx hb d_ThumbCore_tick_18 rfl (lv_at hl 2 rfl) ?_
      refine tc_mv (wo := fun u => (wd_ThumbCore cI cB cZ h h_memory h_memory_words h_registers h_flags h_exceptions h_exceptions_priorities h_counter q_memory_size n_memory_words c_asleep c_locked c_next c_memory_words c_registers c_flags_negative c_flags_zero c_flags_carry c_flags_overflow c_exceptions_pending c_exceptions_active c_exceptions_current c_exceptions_masked c_exceptions_priorities u.1 u.2.1 u.2.2)) (va_runV (As := [.int x1, .int (bI x2)]) (rest := []) ⟨hx, hb, hml, hown, hts⟩ (c_Counter_begin l D cI cB cZ h_counter H.size c_counter_number c_counter_reload c_counter_on x1 x2) (cwV 2 hts (tc_gV wl_ThumbCore_76 wm_Counter_begin ws_Counter_begin wi_Counter wc_Counter_begin) rfl rfl rfl (by decide +kernel) ⟨Nat.le_of_ble_eq_true rfl, Nat.le_of_ble_eq_true rfl⟩) (tc_preV hK hN hP hD [7] rfl (by decide) (q0 := 7) rfl rfl) rfl rfl hl.1 rfl (lv_room (Nat.le_of_ble_eq_true rfl)) d_ThumbCore_tick_19 (by decide)) hP hD hS hA [7] [0, 1, 2, 3, 4, 5, 6] [0, 1, 2, 3, 4, 5, 6, 7] rfl rfl (by decide) (by decide) (by decide) (fun _ => rfl) (fun u H locs hu hP hD hS => ?_)
      obtain ⟨s1, s2, s3⟩ := u
      have hq := hq.trans (un3_eq hu _)
      have e_s1 := hu
      have hP : va_P D tcl (wd_ThumbCore cI cB cZ h h_memory h_memory_words h_registers h_flags h_exceptions h_exceptions_priorities h_counter q_memory_size n_memory_words c_asleep c_locked c_next c_memory_words c_registers c_flags_negative c_flags_zero c_flags_carry c_flags_overflow c_exceptions_pending c_exceptions_active c_exceptions_current c_exceptions_masked c_exceptions_priorities s1 s2 s3) H := hP
      have hD : va_D A (wd_ThumbCore cI cB cZ h h_memory h_memory_words h_registers h_flags h_exceptions h_exceptions_priorities h_counter q_memory_size n_memory_words c_asleep c_locked c_next c_memory_words c_registers c_flags_negative c_flags_zero c_flags_carry c_flags_overflow c_exceptions_pending c_exceptions_active c_exceptions_current c_exceptions_masked c_exceptions_priorities s1 s2 s3) := hD
      refine lv_iconst (v := 1) hx hb d_ThumbCore_tick_22 (by decide) ?_
      exact RET H locs ls 23 (true, s1, s2, s3) d_ThumbCore_tick_23 hP hD hS hq
    · have hq := hq.trans (if_neg g_8)
      refine lv_iconst (v := 0) hx hb d_ThumbCore_tick_11 (by decide) ?_
      exact RET H locs ls 12 (false, c_counter_number, c_counter_reload, c_counter_on) d_ThumbCore_tick_12 hP hD hS hq

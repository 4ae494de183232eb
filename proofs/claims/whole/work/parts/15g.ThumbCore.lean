abbrev rm_ThumbCore_fault : Room := { frames := 4, cells := 0, slots := 0, locals := 90 }
set_option maxHeartbeats 4000000 in
set_option maxRecDepth 100000 in
theorem c_ThumbCore_fault (l : Launch) (D : va_G) (cI cB cZ : ClassId) (h h_memory h_memory_words h_registers h_flags h_exceptions h_exceptions_priorities h_counter tL sz : Nat) (q_memory_size : Int32) (n_memory_words : Nat) (c_asleep : Bool) (c_locked : Bool) (c_next : Int32) (c_memory_words : Nat → Int32) (c_registers : Nat → Int32) (c_flags_negative : Bool) (c_flags_zero : Bool) (c_flags_carry : Bool) (c_flags_overflow : Bool) (c_exceptions_pending : Int32) (c_exceptions_active : Int32) (c_exceptions_current : Int32) (c_exceptions_masked : Bool) (c_exceptions_priorities : Nat → Int32) (c_counter_number : Int32) (c_counter_reload : Int32) (c_counter_on : Bool) (hm : tc_mem q_memory_size n_memory_words) : Met l y_ThumbCore_fault (.code y_ThumbCore_fault b_ThumbCore_fault 1 none :: tcb) rm_ThumbCore_fault (tc_Pw D tcl (tys cI cB cZ) (wd_ThumbCore cI cB cZ h h_memory h_memory_words h_registers h_flags h_exceptions h_exceptions_priorities h_counter q_memory_size n_memory_words c_asleep c_locked c_next c_memory_words c_registers c_flags_negative c_flags_zero c_flags_carry c_flags_overflow c_exceptions_pending c_exceptions_active c_exceptions_current c_exceptions_masked c_exceptions_priorities c_counter_number c_counter_reload c_counter_on) sz ([.ref h] : List Value) (some tL)) (tc_Qv D tcl (wd_ThumbCore cI cB cZ h h_memory h_memory_words h_registers h_flags h_exceptions h_exceptions_priorities h_counter q_memory_size n_memory_words c_asleep c_locked c_next c_memory_words c_registers c_flags_negative c_flags_zero c_flags_carry c_flags_overflow c_exceptions_pending c_exceptions_active c_exceptions_current c_exceptions_masked c_exceptions_priorities c_counter_number c_counter_reload c_counter_on) sz (fun u => (wd_ThumbCore cI cB cZ h h_memory h_memory_words h_registers h_flags h_exceptions h_exceptions_priorities h_counter q_memory_size n_memory_words c_asleep u.1 c_next u.2.1 u.2.2.1 c_flags_negative c_flags_zero c_flags_carry c_flags_overflow u.2.2.2.1 u.2.2.2.2.1 u.2.2.2.2.2 c_exceptions_masked c_exceptions_priorities c_counter_number c_counter_reload c_counter_on)) (f_ThumbCore_fault q_memory_size c_flags_negative c_flags_zero c_flags_carry c_flags_overflow c_exceptions_masked c_exceptions_priorities c_locked c_memory_words c_registers c_exceptions_pending c_exceptions_active c_exceptions_current)) 0 0 (va_A (wd_ThumbCore cI cB cZ h h_memory h_memory_words h_registers h_flags h_exceptions h_exceptions_priorities h_counter q_memory_size n_memory_words c_asleep c_locked c_next c_memory_words c_registers c_flags_negative c_flags_zero c_flags_carry c_flags_overflow c_exceptions_pending c_exceptions_active c_exceptions_current c_exceptions_masked c_exceptions_priorities c_counter_number c_counter_reload c_counter_on) sz) := by
  refine tc_mu_v (by decide) (Nat.le_of_ble_eq_true rfl) ?_
  intro p e s m below meth c A Q ls hx hb hml hts hown hK hN hP hD hA hZ hl RET
  have hS : va_S A s.heap s.heap [] := va_S.rf
  have hZ : va_Z "ThumbCore" "LAID" "[I" (.ref tL) A s s.heap ∧ va_T .int tL 6 (fun j => .int (laid j)) A s s.heap := hZ
  have hl : lv_has ls 1 [(0, .ref h)] := hl
  generalize hF : f_ThumbCore_fault q_memory_size c_flags_negative c_flags_zero c_flags_carry c_flags_overflow c_exceptions_masked c_exceptions_priorities c_locked c_memory_words c_registers c_exceptions_pending c_exceptions_active c_exceptions_current = FF at RET
  have hq : FF = f_ThumbCore_fault q_memory_size c_flags_negative c_flags_zero c_flags_carry c_flags_overflow c_exceptions_masked c_exceptions_priorities c_locked c_memory_words c_registers c_exceptions_pending c_exceptions_active c_exceptions_current := hF.symm
  revert hP hD hS
  suffices G : ∀ (H : Heap) (locs : List Loc), va_P D tcl (wd_ThumbCore cI cB cZ h h_memory h_memory_words h_registers h_flags h_exceptions h_exceptions_priorities h_counter q_memory_size n_memory_words c_asleep c_locked c_next c_memory_words c_registers c_flags_negative c_flags_zero c_flags_carry c_flags_overflow c_exceptions_pending c_exceptions_active c_exceptions_current c_exceptions_masked c_exceptions_priorities c_counter_number c_counter_reload c_counter_on) H → va_D A (wd_ThumbCore cI cB cZ h h_memory h_memory_words h_registers h_flags h_exceptions h_exceptions_priorities h_counter q_memory_size n_memory_words c_asleep c_locked c_next c_memory_words c_registers c_flags_negative c_flags_zero c_flags_carry c_flags_overflow c_exceptions_pending c_exceptions_active c_exceptions_current c_exceptions_masked c_exceptions_priorities c_counter_number c_counter_reload c_counter_on) → va_S A s.heap H locs → W p l e rm_ThumbCore_fault s m ([.ref h] : List Value).toArray below meth c H locs 0 0 Q (F0 m 0 ls []) from fun hP hD hS => G _ _ hP hD hS
  intro H locs hP hD hS
  refine lv_aload_n hx hb d_ThumbCore_fault_0 rfl (lv_at hl 0 rfl) ?_
  refine va_get (D := D) (ci := 4) (v := .ref h_exceptions) (C := R_ThumbCore) (T := F_ThumbCore) (N := 8) hx hb hts u_ThumbCore hown hK hP 0 rfl rfl 3 (by decide) (hts _ wf_ThumbCore_41) (fun _ h9 => h9) rfl d_ThumbCore_fault_1 ?_
  refine tc_rd (va_runV (As := []) (rest := []) ⟨hx, hb, hml, hown, hts⟩ (c_Exceptions_present l D cI cB cZ h_exceptions h_exceptions_priorities H.size c_exceptions_pending c_exceptions_active c_exceptions_current c_exceptions_masked c_exceptions_priorities) (cwV 0 hts (tc_gV wl_ThumbCore_101 wm_Exceptions_present ws_Exceptions_present wi_Exceptions wc_Exceptions_present) rfl rfl rfl (by decide +kernel) ⟨Nat.le_of_ble_eq_true rfl, Nat.le_of_ble_eq_true rfl⟩) (tc_preV hK hN hP hD [5, 6] rfl (by decide) (q0 := 5) rfl rfl) rfl rfl hl.1 rfl (lv_room (Nat.le_of_ble_eq_true rfl)) d_ThumbCore_fault_4 (by decide)) ?_
  refine lv_topi (fun v1 e_v1 => ?_)
  have hq := tc_nm hq e_v1
  refine lv_if_ge (tgt := 18) hx hb d_ThumbCore_fault_7 (by decide) (fun g_7 => ?_) (fun g_7 => ?_)
  · have hq := hq.trans (if_pos g_7)
    refine lv_aload_n hx hb d_ThumbCore_fault_18 rfl (lv_at hl 0 rfl) ?_
    refine lv_iconst (v := 3) hx hb d_ThumbCore_fault_19 (by decide) ?_
    refine lv_aload_n hx hb d_ThumbCore_fault_20 rfl (lv_at hl 0 rfl) ?_
    refine va_get (D := D) (ci := 4) (v := .ref h_registers) (C := R_ThumbCore) (T := F_ThumbCore) (N := 8) hx hb hts u_ThumbCore hown hK hP 0 rfl rfl 1 (by decide) (hts _ wf_ThumbCore_27) (fun _ h9 => h9) rfl d_ThumbCore_fault_21 ?_
    refine lv_bipush (v := 15) hx hb d_ThumbCore_fault_24 (by decide) ?_
    refine va_iald hx hb hK hP 3 0 rfl rfl (by show ¬ (_ ∨ _); decide) d_ThumbCore_fault_26 ?_
    refine tc_mv (wo := fun u => (wd_ThumbCore cI cB cZ h h_memory h_memory_words h_registers h_flags h_exceptions h_exceptions_priorities h_counter q_memory_size n_memory_words c_asleep u.1 c_next u.2.1 u.2.2.1 c_flags_negative c_flags_zero c_flags_carry c_flags_overflow u.2.2.2.1 u.2.2.2.2.1 u.2.2.2.2.2 c_exceptions_masked c_exceptions_priorities c_counter_number c_counter_reload c_counter_on)) (va_runV (As := [.int 3, .int (c_registers (15 : Int32).toNatClampNeg)]) (rest := []) ⟨hx, hb, hml, hown, hts⟩ (c_ThumbCore_enter l D cI cB cZ h h_memory h_memory_words h_registers h_flags h_exceptions h_exceptions_priorities h_counter tL H.size q_memory_size n_memory_words c_asleep c_locked c_next c_memory_words c_registers c_flags_negative c_flags_zero c_flags_carry c_flags_overflow c_exceptions_pending c_exceptions_active c_exceptions_current c_exceptions_masked c_exceptions_priorities c_counter_number c_counter_reload c_counter_on 3 (c_registers (15 : Int32).toNatClampNeg) hm (by show ¬ (_ ∨ _); decide)) (cwV 2 hts (tc_gV wl_ThumbCore_104 wm_ThumbCore_enter ws_ThumbCore_enter wi_ThumbCore wc_ThumbCore_enter) rfl rfl rfl (by decide +kernel) ⟨Nat.le_of_ble_eq_true rfl, Nat.le_of_ble_eq_true rfl⟩) (tc_preVZ hK hN hP hD hS hA hZ [0, 1, 2, 3, 4, 5, 6, 7] rfl (by decide) (q0 := 0) rfl rfl) rfl rfl hl.1 rfl (lv_room (Nat.le_of_ble_eq_true rfl)) d_ThumbCore_fault_27 (by decide)) hP hD hS hA [0, 1, 2, 3, 4, 5, 6, 7] [] [0, 1, 2, 3, 4, 5, 6, 7] rfl rfl (by decide) (by decide) (by decide) (fun _ => rfl) (fun u H locs hu hP hD hS => ?_)
    obtain ⟨s2, s3, s4, s5, s6, s7⟩ := u
    have hq := hq.trans (un6_eq hu _)
    have e_s2 := hu
    have hP : va_P D tcl (wd_ThumbCore cI cB cZ h h_memory h_memory_words h_registers h_flags h_exceptions h_exceptions_priorities h_counter q_memory_size n_memory_words c_asleep s2 c_next s3 s4 c_flags_negative c_flags_zero c_flags_carry c_flags_overflow s5 s6 s7 c_exceptions_masked c_exceptions_priorities c_counter_number c_counter_reload c_counter_on) H := hP
    have hD : va_D A (wd_ThumbCore cI cB cZ h h_memory h_memory_words h_registers h_flags h_exceptions h_exceptions_priorities h_counter q_memory_size n_memory_words c_asleep s2 c_next s3 s4 c_flags_negative c_flags_zero c_flags_carry c_flags_overflow s5 s6 s7 c_exceptions_masked c_exceptions_priorities c_counter_number c_counter_reload c_counter_on) := hD
    exact RET H locs ls 30 (s2, s3, s4, s5, s6, s7) d_ThumbCore_fault_30 hP hD hS hq
  · have hq := hq.trans (if_neg g_7)
    refine lv_aload_n hx hb d_ThumbCore_fault_10 rfl (lv_at hl 0 rfl) ?_
    refine lv_iconst (v := 1) hx hb d_ThumbCore_fault_11 (by decide) ?_
    refine va_put (D := D) (ci := 4) (v := .int (bI true)) (ty := .boolean) (C := R_ThumbCore) (T := F_ThumbCore) (N := 8) hx hb hts u_ThumbCore t_ThumbCore t_ThumbCore_ok n_ThumbCore hown hK hP hD hS 0 rfl rfl 6 (by decide) (hts _ wf_ThumbCore_84) (fun _ h9 => h9) rfl (by decide +kernel) (tc_nb true) (tc_fb true) (Nat.le_of_ble_eq_true rfl) d_ThumbCore_fault_12 (fun H locs hP hD hS => ?_)
    have hP : va_P D tcl (wd_ThumbCore cI cB cZ h h_memory h_memory_words h_registers h_flags h_exceptions h_exceptions_priorities h_counter q_memory_size n_memory_words c_asleep true c_next c_memory_words c_registers c_flags_negative c_flags_zero c_flags_carry c_flags_overflow c_exceptions_pending c_exceptions_active c_exceptions_current c_exceptions_masked c_exceptions_priorities c_counter_number c_counter_reload c_counter_on) H := hP
    have hD : va_D A (wd_ThumbCore cI cB cZ h h_memory h_memory_words h_registers h_flags h_exceptions h_exceptions_priorities h_counter q_memory_size n_memory_words c_asleep true c_next c_memory_words c_registers c_flags_negative c_flags_zero c_flags_carry c_flags_overflow c_exceptions_pending c_exceptions_active c_exceptions_current c_exceptions_masked c_exceptions_priorities c_counter_number c_counter_reload c_counter_on) := hD
    refine lv_goto (tgt := 30) hx hb d_ThumbCore_fault_15 (by decide) ?_
    exact RET H locs ls 30 (true, c_memory_words, c_registers, c_exceptions_pending, c_exceptions_active, c_exceptions_current) d_ThumbCore_fault_30 hP hD hS hq
abbrev rm_ThumbCore_step : Room := { frames := 7, cells := 0, slots := 0, locals := 155 }
set_option maxHeartbeats 4000000 in
set_option maxRecDepth 100000 in
theorem c_ThumbCore_step (l : Launch) (D : va_G) (cI cB cZ : ClassId) (h h_memory h_memory_words h_registers h_flags h_exceptions h_exceptions_priorities h_counter tL sz : Nat) (q_memory_size : Int32) (n_memory_words : Nat) (c_asleep : Bool) (c_locked : Bool) (c_next : Int32) (c_memory_words : Nat → Int32) (c_registers : Nat → Int32) (c_flags_negative : Bool) (c_flags_zero : Bool) (c_flags_carry : Bool) (c_flags_overflow : Bool) (c_exceptions_pending : Int32) (c_exceptions_active : Int32) (c_exceptions_current : Int32) (c_exceptions_masked : Bool) (c_exceptions_priorities : Nat → Int32) (c_counter_number : Int32) (c_counter_reload : Int32) (c_counter_on : Bool) (hm : tc_mem q_memory_size n_memory_words) : Met l y_ThumbCore_step (.code y_ThumbCore_step b_ThumbCore_step 2 (some .int) :: tcb) rm_ThumbCore_step (tc_Pw D tcl (tys cI cB cZ) (wd_ThumbCore cI cB cZ h h_memory h_memory_words h_registers h_flags h_exceptions h_exceptions_priorities h_counter q_memory_size n_memory_words c_asleep c_locked c_next c_memory_words c_registers c_flags_negative c_flags_zero c_flags_carry c_flags_overflow c_exceptions_pending c_exceptions_active c_exceptions_current c_exceptions_masked c_exceptions_priorities c_counter_number c_counter_reload c_counter_on) sz ([.ref h] : List Value) (some tL)) (tc_Qi D tcl (wd_ThumbCore cI cB cZ h h_memory h_memory_words h_registers h_flags h_exceptions h_exceptions_priorities h_counter q_memory_size n_memory_words c_asleep c_locked c_next c_memory_words c_registers c_flags_negative c_flags_zero c_flags_carry c_flags_overflow c_exceptions_pending c_exceptions_active c_exceptions_current c_exceptions_masked c_exceptions_priorities c_counter_number c_counter_reload c_counter_on) sz (fun u => (wd_ThumbCore cI cB cZ h h_memory h_memory_words h_registers h_flags h_exceptions h_exceptions_priorities h_counter q_memory_size n_memory_words u.2.1 u.2.2.1 u.2.2.2.1 u.2.2.2.2.1 u.2.2.2.2.2.1 u.2.2.2.2.2.2.1 u.2.2.2.2.2.2.2.1 u.2.2.2.2.2.2.2.2.1 u.2.2.2.2.2.2.2.2.2.1 u.2.2.2.2.2.2.2.2.2.2.1 u.2.2.2.2.2.2.2.2.2.2.2.1 u.2.2.2.2.2.2.2.2.2.2.2.2.1 u.2.2.2.2.2.2.2.2.2.2.2.2.2.1 c_exceptions_priorities u.2.2.2.2.2.2.2.2.2.2.2.2.2.2 c_counter_reload c_counter_on)) (f_ThumbCore_step q_memory_size c_exceptions_priorities c_counter_reload c_counter_on c_asleep c_locked c_next c_memory_words c_registers c_flags_negative c_flags_zero c_flags_carry c_flags_overflow c_exceptions_pending c_exceptions_active c_exceptions_current c_exceptions_masked c_counter_number)) 0 0 (va_A (wd_ThumbCore cI cB cZ h h_memory h_memory_words h_registers h_flags h_exceptions h_exceptions_priorities h_counter q_memory_size n_memory_words c_asleep c_locked c_next c_memory_words c_registers c_flags_negative c_flags_zero c_flags_carry c_flags_overflow c_exceptions_pending c_exceptions_active c_exceptions_current c_exceptions_masked c_exceptions_priorities c_counter_number c_counter_reload c_counter_on) sz) := by
  refine tc_mu_i (by decide) (Nat.le_of_ble_eq_true rfl) ?_
  intro p e s m below meth c A Q ls hx hb hml hts hown hK hN hP hD hA hZ hl RET
  have hS : va_S A s.heap s.heap [] := va_S.rf
  have hZ : va_Z "ThumbCore" "LAID" "[I" (.ref tL) A s s.heap ∧ va_T .int tL 6 (fun j => .int (laid j)) A s s.heap := hZ
  have hl : lv_has ls 2 [(0, .ref h)] := hl
  generalize hF : f_ThumbCore_step q_memory_size c_exceptions_priorities c_counter_reload c_counter_on c_asleep c_locked c_next c_memory_words c_registers c_flags_negative c_flags_zero c_flags_carry c_flags_overflow c_exceptions_pending c_exceptions_active c_exceptions_current c_exceptions_masked c_counter_number = FF at RET
  have J_118 : ∀ (H : Heap) (locs : List Loc) (ls : Array Slot) (c_asleep : Bool) (c_locked : Bool) (c_next : Int32) (c_memory_words : Nat → Int32) (c_registers : Nat → Int32) (c_flags_negative : Bool) (c_flags_zero : Bool) (c_flags_carry : Bool) (c_flags_overflow : Bool) (c_exceptions_pending : Int32) (c_exceptions_active : Int32) (c_exceptions_current : Int32) (c_exceptions_masked : Bool) (c_counter_number : Int32) (y1 : Int32), va_P D tcl (wd_ThumbCore cI cB cZ h h_memory h_memory_words h_registers h_flags h_exceptions h_exceptions_priorities h_counter q_memory_size n_memory_words c_asleep c_locked c_next c_memory_words c_registers c_flags_negative c_flags_zero c_flags_carry c_flags_overflow c_exceptions_pending c_exceptions_active c_exceptions_current c_exceptions_masked c_exceptions_priorities c_counter_number c_counter_reload c_counter_on) H → va_D A (wd_ThumbCore cI cB cZ h h_memory h_memory_words h_registers h_flags h_exceptions h_exceptions_priorities h_counter q_memory_size n_memory_words c_asleep c_locked c_next c_memory_words c_registers c_flags_negative c_flags_zero c_flags_carry c_flags_overflow c_exceptions_pending c_exceptions_active c_exceptions_current c_exceptions_masked c_exceptions_priorities c_counter_number c_counter_reload c_counter_on) → va_S A s.heap H locs → lv_has ls 2 [(0, .ref h), (1, .int y1)] → FF = k_ThumbCore_step_118 q_memory_size c_exceptions_priorities c_counter_reload c_counter_on c_asleep c_locked c_next c_memory_words c_registers c_flags_negative c_flags_zero c_flags_carry c_flags_overflow c_exceptions_pending c_exceptions_active c_exceptions_current c_exceptions_masked c_counter_number y1 → W p l e rm_ThumbCore_step s m ([.ref h] : List Value).toArray below meth c H locs 0 0 Q (F0 m 118 ls []) := by
    intro H locs ls c_asleep c_locked c_next c_memory_words c_registers c_flags_negative c_flags_zero c_flags_carry c_flags_overflow c_exceptions_pending c_exceptions_active c_exceptions_current c_exceptions_masked c_counter_number y1 hP hD hS hl hq
    refine lv_aload_n hx hb d_ThumbCore_step_118 rfl (lv_at hl 0 rfl) ?_
    refine va_get (D := D) (ci := 4) (v := .int (bI c_locked)) (C := R_ThumbCore) (T := F_ThumbCore) (N := 8) hx hb hts u_ThumbCore hown hK hP 0 rfl rfl 6 (by decide) (hts _ wf_ThumbCore_84) (fun _ h9 => h9) rfl d_ThumbCore_step_119 ?_
    refine lv_if_eq (tgt := 127) hx hb d_ThumbCore_step_122 (by decide) (fun g_122 => ?_) (fun g_122 => ?_)
    · have hq := hq.trans (if_pos g_122)
      refine lv_iload_n hx hb d_ThumbCore_step_127 rfl (lv_at hl 1 rfl) ?_
      refine lv_if_eq (tgt := 135) hx hb d_ThumbCore_step_128 (by decide) (fun g_128 => ?_) (fun g_128 => ?_)
      · have hq := hq.trans (if_pos g_128)
        refine lv_iconst (v := 0) hx hb d_ThumbCore_step_135 (by decide) ?_
        exact RET H locs ls 136 (0, c_asleep, c_locked, c_next, c_memory_words, c_registers, c_flags_negative, c_flags_zero, c_flags_carry, c_flags_overflow, c_exceptions_pending, c_exceptions_active, c_exceptions_current, c_exceptions_masked, c_counter_number) d_ThumbCore_step_136 hP hD hS hq
      · have hq := hq.trans (if_neg g_128)
        refine lv_iconst (v := 1) hx hb d_ThumbCore_step_131 (by decide) ?_
        refine lv_goto (tgt := 136) hx hb d_ThumbCore_step_132 (by decide) ?_
        exact RET H locs ls 136 (1, c_asleep, c_locked, c_next, c_memory_words, c_registers, c_flags_negative, c_flags_zero, c_flags_carry, c_flags_overflow, c_exceptions_pending, c_exceptions_active, c_exceptions_current, c_exceptions_masked, c_counter_number) d_ThumbCore_step_136 hP hD hS hq
    · have hq := hq.trans (if_neg g_122)
      refine lv_iconst (v := 3) hx hb d_ThumbCore_step_125 (by decide) ?_
      exact RET H locs ls 126 (3, c_asleep, c_locked, c_next, c_memory_words, c_registers, c_flags_negative, c_flags_zero, c_flags_carry, c_flags_overflow, c_exceptions_pending, c_exceptions_active, c_exceptions_current, c_exceptions_masked, c_counter_number) d_ThumbCore_step_126 hP hD hS hq
  have J_54 : ∀ (H : Heap) (locs : List Loc) (ls : Array Slot) (c_asleep : Bool) (c_locked : Bool) (c_next : Int32) (c_memory_words : Nat → Int32) (c_registers : Nat → Int32) (c_flags_negative : Bool) (c_flags_zero : Bool) (c_flags_carry : Bool) (c_flags_overflow : Bool) (c_exceptions_pending : Int32) (c_exceptions_active : Int32) (c_exceptions_current : Int32) (c_exceptions_masked : Bool) (c_counter_number : Int32), va_P D tcl (wd_ThumbCore cI cB cZ h h_memory h_memory_words h_registers h_flags h_exceptions h_exceptions_priorities h_counter q_memory_size n_memory_words c_asleep c_locked c_next c_memory_words c_registers c_flags_negative c_flags_zero c_flags_carry c_flags_overflow c_exceptions_pending c_exceptions_active c_exceptions_current c_exceptions_masked c_exceptions_priorities c_counter_number c_counter_reload c_counter_on) H → va_D A (wd_ThumbCore cI cB cZ h h_memory h_memory_words h_registers h_flags h_exceptions h_exceptions_priorities h_counter q_memory_size n_memory_words c_asleep c_locked c_next c_memory_words c_registers c_flags_negative c_flags_zero c_flags_carry c_flags_overflow c_exceptions_pending c_exceptions_active c_exceptions_current c_exceptions_masked c_exceptions_priorities c_counter_number c_counter_reload c_counter_on) → va_S A s.heap H locs → lv_has ls 2 [(0, .ref h)] → FF = k_ThumbCore_step_54 q_memory_size c_exceptions_priorities c_counter_reload c_counter_on c_asleep c_locked c_next c_memory_words c_registers c_flags_negative c_flags_zero c_flags_carry c_flags_overflow c_exceptions_pending c_exceptions_active c_exceptions_current c_exceptions_masked c_counter_number → W p l e rm_ThumbCore_step s m ([.ref h] : List Value).toArray below meth c H locs 0 0 Q (F0 m 54 ls []) := by
    intro H locs ls c_asleep c_locked c_next c_memory_words c_registers c_flags_negative c_flags_zero c_flags_carry c_flags_overflow c_exceptions_pending c_exceptions_active c_exceptions_current c_exceptions_masked c_counter_number hP hD hS hl hq
    refine lv_aload_n hx hb d_ThumbCore_step_54 rfl (lv_at hl 0 rfl) ?_
    refine lv_iconst (v := 0) hx hb d_ThumbCore_step_55 (by decide) ?_
    refine va_put (D := D) (ci := 4) (v := .int (bI false)) (ty := .boolean) (C := R_ThumbCore) (T := F_ThumbCore) (N := 8) hx hb hts u_ThumbCore t_ThumbCore t_ThumbCore_ok n_ThumbCore hown hK hP hD hS 0 rfl rfl 5 (by decide) (hts _ wf_ThumbCore_80) (fun _ h9 => h9) rfl (by decide +kernel) (tc_nb false) (tc_fb false) (Nat.le_of_ble_eq_true rfl) d_ThumbCore_step_56 (fun H locs hP hD hS => ?_)
    have hP : va_P D tcl (wd_ThumbCore cI cB cZ h h_memory h_memory_words h_registers h_flags h_exceptions h_exceptions_priorities h_counter q_memory_size n_memory_words false c_locked c_next c_memory_words c_registers c_flags_negative c_flags_zero c_flags_carry c_flags_overflow c_exceptions_pending c_exceptions_active c_exceptions_current c_exceptions_masked c_exceptions_priorities c_counter_number c_counter_reload c_counter_on) H := hP
    have hD : va_D A (wd_ThumbCore cI cB cZ h h_memory h_memory_words h_registers h_flags h_exceptions h_exceptions_priorities h_counter q_memory_size n_memory_words false c_locked c_next c_memory_words c_registers c_flags_negative c_flags_zero c_flags_carry c_flags_overflow c_exceptions_pending c_exceptions_active c_exceptions_current c_exceptions_masked c_exceptions_priorities c_counter_number c_counter_reload c_counter_on) := hD
    refine lv_aload_n hx hb d_ThumbCore_step_59 rfl (lv_at hl 0 rfl) ?_
    refine va_get (D := D) (ci := 4) (v := .ref h_exceptions) (C := R_ThumbCore) (T := F_ThumbCore) (N := 8) hx hb hts u_ThumbCore hown hK hP 0 rfl rfl 3 (by decide) (hts _ wf_ThumbCore_41) (fun _ h9 => h9) rfl d_ThumbCore_step_60 ?_
    refine lv_aload_n hx hb d_ThumbCore_step_63 rfl (lv_at hl 0 rfl) ?_
    refine va_get (D := D) (ci := 4) (v := .ref h_exceptions) (C := R_ThumbCore) (T := F_ThumbCore) (N := 8) hx hb hts u_ThumbCore hown hK hP 0 rfl rfl 3 (by decide) (hts _ wf_ThumbCore_41) (fun _ h9 => h9) rfl d_ThumbCore_step_64 ?_
    refine tc_rd (va_runV (As := []) (rest := [.ref h_exceptions]) ⟨hx, hb, hml, hown, hts⟩ (c_Exceptions_present l D cI cB cZ h_exceptions h_exceptions_priorities H.size c_exceptions_pending c_exceptions_active c_exceptions_current c_exceptions_masked c_exceptions_priorities) (cwV 0 hts (tc_gV wl_ThumbCore_101 wm_Exceptions_present ws_Exceptions_present wi_Exceptions wc_Exceptions_present) rfl rfl rfl (by decide +kernel) ⟨Nat.le_of_ble_eq_true rfl, Nat.le_of_ble_eq_true rfl⟩) (tc_preV hK hN hP hD [5, 6] rfl (by decide) (q0 := 5) rfl rfl) rfl rfl hl.1 rfl (lv_room (Nat.le_of_ble_eq_true rfl)) d_ThumbCore_step_67 (by decide)) ?_
    refine lv_topi (fun v1 e_v1 => ?_)
    have hq := tc_nm hq e_v1
    refine tc_rd (va_runV (As := [.int v1]) (rest := []) ⟨hx, hb, hml, hown, hts⟩ (c_Exceptions_mostUrgent l D cI cB cZ h_exceptions h_exceptions_priorities H.size c_exceptions_pending c_exceptions_active c_exceptions_current c_exceptions_masked c_exceptions_priorities v1) (cwV 1 hts (tc_gV wl_ThumbCore_98 wm_Exceptions_mostUrgent ws_Exceptions_mostUrgent wi_Exceptions wc_Exceptions_mostUrgent) rfl rfl rfl (by decide +kernel) ⟨Nat.le_of_ble_eq_true rfl, Nat.le_of_ble_eq_true rfl⟩) (tc_preV hK hN hP hD [5, 6] rfl (by decide) (q0 := 5) rfl rfl) rfl rfl hl.1 rfl (lv_room (Nat.le_of_ble_eq_true rfl)) d_ThumbCore_step_70 (by decide)) ?_
    refine lv_topi (fun v2 e_v2 => ?_)
    have hq := tc_nm hq e_v2
    refine lv_istore_n (lv' := [(1, .int v2), (0, .ref h)]) hx hb d_ThumbCore_step_73 rfl hl (by decide) rfl (fun ls hl => ?_)
    refine lv_iload_n hx hb d_ThumbCore_step_74 rfl (lv_at hl 0 rfl) ?_
    refine lv_if_eq (tgt := 93) hx hb d_ThumbCore_step_75 (by decide) (fun g_75 => ?_) (fun g_75 => ?_)
    · have hq := hq.trans (if_pos g_75)
      refine lv_aload_n hx hb d_ThumbCore_step_93 rfl (lv_at hl 1 rfl) ?_
      refine tc_mz (wo := fun u => (wd_ThumbCore cI cB cZ h h_memory h_memory_words h_registers h_flags h_exceptions h_exceptions_priorities h_counter q_memory_size n_memory_words u.2.1 u.2.2.1 u.2.2.2.1 u.2.2.2.2.1 u.2.2.2.2.2.1 u.2.2.2.2.2.2.1 u.2.2.2.2.2.2.2.1 u.2.2.2.2.2.2.2.2.1 u.2.2.2.2.2.2.2.2.2.1 u.2.2.2.2.2.2.2.2.2.2.1 u.2.2.2.2.2.2.2.2.2.2.2.1 u.2.2.2.2.2.2.2.2.2.2.2.2.1 u.2.2.2.2.2.2.2.2.2.2.2.2.2 c_exceptions_priorities c_counter_number c_counter_reload c_counter_on)) (va_runV (As := []) (rest := []) ⟨hx, hb, hml, hown, hts⟩ (c_ThumbCore_perform l D cI cB cZ h h_memory h_memory_words h_registers h_flags h_exceptions h_exceptions_priorities h_counter tL H.size q_memory_size n_memory_words false c_locked c_next c_memory_words c_registers c_flags_negative c_flags_zero c_flags_carry c_flags_overflow c_exceptions_pending c_exceptions_active c_exceptions_current c_exceptions_masked c_exceptions_priorities c_counter_number c_counter_reload c_counter_on hm) (cwV 0 hts (tc_gV wl_ThumbCore_108 wm_ThumbCore_perform ws_ThumbCore_perform wi_ThumbCore wc_ThumbCore_perform) rfl rfl rfl (by decide +kernel) ⟨Nat.le_of_ble_eq_true rfl, Nat.le_of_ble_eq_true rfl⟩) (tc_preVZ hK hN hP hD hS hA hZ [0, 1, 2, 3, 4, 5, 6, 7] rfl (by decide) (q0 := 0) rfl rfl) rfl rfl hl.1 rfl (lv_room (Nat.le_of_ble_eq_true rfl)) d_ThumbCore_step_94 (by decide)) hP hD hS hA [0, 1, 2, 3, 4, 5, 6, 7] [] [0, 1, 2, 3, 4, 5, 6, 7] rfl rfl (by decide) (by decide) (by decide) (fun _ => rfl) (fun u H locs hu hP hD hS => ?_)
      obtain ⟨r3, s4, s5, s6, s7, s8, s9, s10, s11, s12, s13, s14, s15, s16⟩ := u
      have hq := hq.trans (un14_eq hu _)
      have e_r3 := hu
      have hP : va_P D tcl (wd_ThumbCore cI cB cZ h h_memory h_memory_words h_registers h_flags h_exceptions h_exceptions_priorities h_counter q_memory_size n_memory_words s4 s5 s6 s7 s8 s9 s10 s11 s12 s13 s14 s15 s16 c_exceptions_priorities c_counter_number c_counter_reload c_counter_on) H := hP
      have hD : va_D A (wd_ThumbCore cI cB cZ h h_memory h_memory_words h_registers h_flags h_exceptions h_exceptions_priorities h_counter q_memory_size n_memory_words s4 s5 s6 s7 s8 s9 s10 s11 s12 s13 s14 s15 s16 c_exceptions_priorities c_counter_number c_counter_reload c_counter_on) := hD
      refine W.eq (g2 := F0 m 97 ls [.int (bI r3)]) rfl ?_
      refine lv_if_eq (tgt := 114) hx hb d_ThumbCore_step_97 (by decide) (fun g_97 => ?_) (fun g_97 => ?_)
      · have hq := hq.trans (if_pos g_97)
        refine lv_aload_n hx hb d_ThumbCore_step_114 rfl (lv_at hl 1 rfl) ?_
        refine tc_mv (wo := fun u => (wd_ThumbCore cI cB cZ h h_memory h_memory_words h_registers h_flags h_exceptions h_exceptions_priorities h_counter q_memory_size n_memory_words s4 u.1 s6 u.2.1 u.2.2.1 s9 s10 s11 s12 u.2.2.2.1 u.2.2.2.2.1 u.2.2.2.2.2 s16 c_exceptions_priorities c_counter_number c_counter_reload c_counter_on)) (va_runV (As := []) (rest := []) ⟨hx, hb, hml, hown, hts⟩ (c_ThumbCore_fault l D cI cB cZ h h_memory h_memory_words h_registers h_flags h_exceptions h_exceptions_priorities h_counter tL H.size q_memory_size n_memory_words s4 s5 s6 s7 s8 s9 s10 s11 s12 s13 s14 s15 s16 c_exceptions_priorities c_counter_number c_counter_reload c_counter_on hm) (cwV 0 hts (tc_gV wl_ThumbCore_115 wm_ThumbCore_fault ws_ThumbCore_fault wi_ThumbCore wc_ThumbCore_fault) rfl rfl rfl (by decide +kernel) ⟨Nat.le_of_ble_eq_true rfl, Nat.le_of_ble_eq_true rfl⟩) (tc_preVZ hK hN hP hD hS hA hZ [0, 1, 2, 3, 4, 5, 6, 7] rfl (by decide) (q0 := 0) rfl rfl) rfl rfl hl.1 rfl (lv_room (Nat.le_of_ble_eq_true rfl)) d_ThumbCore_step_115 (by decide)) hP hD hS hA [0, 1, 2, 3, 4, 5, 6, 7] [] [0, 1, 2, 3, 4, 5, 6, 7] rfl rfl (by decide) (by decide) (by decide) (fun _ => rfl) (fun u H locs hu hP hD hS => ?_)
        obtain ⟨s17, s18, s19, s20, s21, s22⟩ := u
        have hq := hq.trans (un6_eq hu _)
        have e_s17 := hu
        have hP : va_P D tcl (wd_ThumbCore cI cB cZ h h_memory h_memory_words h_registers h_flags h_exceptions h_exceptions_priorities h_counter q_memory_size n_memory_words s4 s17 s6 s18 s19 s9 s10 s11 s12 s20 s21 s22 s16 c_exceptions_priorities c_counter_number c_counter_reload c_counter_on) H := hP
        have hD : va_D A (wd_ThumbCore cI cB cZ h h_memory h_memory_words h_registers h_flags h_exceptions h_exceptions_priorities h_counter q_memory_size n_memory_words s4 s17 s6 s18 s19 s9 s10 s11 s12 s20 s21 s22 s16 c_exceptions_priorities c_counter_number c_counter_reload c_counter_on) := hD
        exact J_118 H locs ls s4 s17 s6 s18 s19 s9 s10 s11 s12 s20 s21 s22 s16 c_counter_number v2 hP hD hS (lv_sub hl [1, 0] rfl) hq
      · have hq := hq.trans (if_neg g_97)
        refine lv_aload_n hx hb d_ThumbCore_step_100 rfl (lv_at hl 1 rfl) ?_
        refine va_get (D := D) (ci := 4) (v := .ref h_registers) (C := R_ThumbCore) (T := F_ThumbCore) (N := 8) hx hb hts u_ThumbCore hown hK hP 0 rfl rfl 1 (by decide) (hts _ wf_ThumbCore_27) (fun _ h9 => h9) rfl d_ThumbCore_step_101 ?_
        refine lv_bipush (v := 15) hx hb d_ThumbCore_step_104 (by decide) ?_
        refine lv_aload_n hx hb d_ThumbCore_step_106 rfl (lv_at hl 1 rfl) ?_
        refine va_get (D := D) (ci := 4) (v := .int s6) (C := R_ThumbCore) (T := F_ThumbCore) (N := 8) hx hb hts u_ThumbCore hown hK hP 0 rfl rfl 7 (by decide) (hts _ wf_ThumbCore_111) (fun _ h9 => h9) rfl d_ThumbCore_step_107 ?_
        refine va_iast hx hb hK hP hD hS 3 0 rfl rfl (by show ¬ (_ ∨ _); decide) d_ThumbCore_step_110 (fun H locs hP hD hS => ?_)
        have hP : va_P D tcl (wd_ThumbCore cI cB cZ h h_memory h_memory_words h_registers h_flags h_exceptions h_exceptions_priorities h_counter q_memory_size n_memory_words s4 s5 s6 s7 (upd s8 (15 : Int32).toNatClampNeg s6) s9 s10 s11 s12 s13 s14 s15 s16 c_exceptions_priorities c_counter_number c_counter_reload c_counter_on) H := hP
        have hD : va_D A (wd_ThumbCore cI cB cZ h h_memory h_memory_words h_registers h_flags h_exceptions h_exceptions_priorities h_counter q_memory_size n_memory_words s4 s5 s6 s7 (upd s8 (15 : Int32).toNatClampNeg s6) s9 s10 s11 s12 s13 s14 s15 s16 c_exceptions_priorities c_counter_number c_counter_reload c_counter_on) := hD
        refine lv_goto (tgt := 118) hx hb d_ThumbCore_step_111 (by decide) ?_
        exact J_118 H locs ls s4 s5 s6 s7 (upd s8 (15 : Int32).toNatClampNeg s6) s9 s10 s11 s12 s13 s14 s15 s16 c_counter_number v2 hP hD hS (lv_sub hl [1, 0] rfl) hq
    · have hq := hq.trans (if_neg g_75)
      refine lv_aload_n hx hb d_ThumbCore_step_78 rfl (lv_at hl 1 rfl) ?_
      refine lv_iload_n hx hb d_ThumbCore_step_79 rfl (lv_at hl 0 rfl) ?_
      refine lv_aload_n hx hb d_ThumbCore_step_80 rfl (lv_at hl 1 rfl) ?_
      refine va_get (D := D) (ci := 4) (v := .ref h_registers) (C := R_ThumbCore) (T := F_ThumbCore) (N := 8) hx hb hts u_ThumbCore hown hK hP 0 rfl rfl 1 (by decide) (hts _ wf_ThumbCore_27) (fun _ h9 => h9) rfl d_ThumbCore_step_81 ?_
      refine lv_bipush (v := 15) hx hb d_ThumbCore_step_84 (by decide) ?_
      refine va_iald hx hb hK hP 3 0 rfl rfl (by show ¬ (_ ∨ _); decide) d_ThumbCore_step_86 ?_
      refine tc_mv (wo := fun u => (wd_ThumbCore cI cB cZ h h_memory h_memory_words h_registers h_flags h_exceptions h_exceptions_priorities h_counter q_memory_size n_memory_words false u.1 c_next u.2.1 u.2.2.1 c_flags_negative c_flags_zero c_flags_carry c_flags_overflow u.2.2.2.1 u.2.2.2.2.1 u.2.2.2.2.2 c_exceptions_masked c_exceptions_priorities c_counter_number c_counter_reload c_counter_on)) (va_runV (As := [.int v2, .int (c_registers (15 : Int32).toNatClampNeg)]) (rest := []) ⟨hx, hb, hml, hown, hts⟩ (c_ThumbCore_enter l D cI cB cZ h h_memory h_memory_words h_registers h_flags h_exceptions h_exceptions_priorities h_counter tL H.size q_memory_size n_memory_words false c_locked c_next c_memory_words c_registers c_flags_negative c_flags_zero c_flags_carry c_flags_overflow c_exceptions_pending c_exceptions_active c_exceptions_current c_exceptions_masked c_exceptions_priorities c_counter_number c_counter_reload c_counter_on v2 (c_registers (15 : Int32).toNatClampNeg) hm (tc_muIn e_v2)) (cwV 2 hts (tc_gV wl_ThumbCore_104 wm_ThumbCore_enter ws_ThumbCore_enter wi_ThumbCore wc_ThumbCore_enter) rfl rfl rfl (by decide +kernel) ⟨Nat.le_of_ble_eq_true rfl, Nat.le_of_ble_eq_true rfl⟩) (tc_preVZ hK hN hP hD hS hA hZ [0, 1, 2, 3, 4, 5, 6, 7] rfl (by decide) (q0 := 0) rfl rfl) rfl rfl hl.1 rfl (lv_room (Nat.le_of_ble_eq_true rfl)) d_ThumbCore_step_87 (by decide)) hP hD hS hA [0, 1, 2, 3, 4, 5, 6, 7] [] [0, 1, 2, 3, 4, 5, 6, 7] rfl rfl (by decide) (by decide) (by decide) (fun _ => rfl) (fun u H locs hu hP hD hS => ?_)
      obtain ⟨s23, s24, s25, s26, s27, s28⟩ := u
      have hq := hq.trans (un6_eq hu _)
      have e_s23 := hu
      have hP : va_P D tcl (wd_ThumbCore cI cB cZ h h_memory h_memory_words h_registers h_flags h_exceptions h_exceptions_priorities h_counter q_memory_size n_memory_words false s23 c_next s24 s25 c_flags_negative c_flags_zero c_flags_carry c_flags_overflow s26 s27 s28 c_exceptions_masked c_exceptions_priorities c_counter_number c_counter_reload c_counter_on) H := hP
      have hD : va_D A (wd_ThumbCore cI cB cZ h h_memory h_memory_words h_registers h_flags h_exceptions h_exceptions_priorities h_counter q_memory_size n_memory_words false s23 c_next s24 s25 c_flags_negative c_flags_zero c_flags_carry c_flags_overflow s26 s27 s28 c_exceptions_masked c_exceptions_priorities c_counter_number c_counter_reload c_counter_on) := hD
      refine lv_goto (tgt := 118) hx hb d_ThumbCore_step_90 (by decide) ?_
      exact J_118 H locs ls false s23 c_next s24 s25 c_flags_negative c_flags_zero c_flags_carry c_flags_overflow s26 s27 s28 c_exceptions_masked c_counter_number v2 hP hD hS (lv_sub hl [1, 0] rfl) hq
  have J_28 : ∀ (H : Heap) (locs : List Loc) (ls : Array Slot) (c_asleep : Bool) (c_locked : Bool) (c_next : Int32) (c_memory_words : Nat → Int32) (c_registers : Nat → Int32) (c_flags_negative : Bool) (c_flags_zero : Bool) (c_flags_carry : Bool) (c_flags_overflow : Bool) (c_exceptions_pending : Int32) (c_exceptions_active : Int32) (c_exceptions_current : Int32) (c_exceptions_masked : Bool) (c_counter_number : Int32), va_P D tcl (wd_ThumbCore cI cB cZ h h_memory h_memory_words h_registers h_flags h_exceptions h_exceptions_priorities h_counter q_memory_size n_memory_words c_asleep c_locked c_next c_memory_words c_registers c_flags_negative c_flags_zero c_flags_carry c_flags_overflow c_exceptions_pending c_exceptions_active c_exceptions_current c_exceptions_masked c_exceptions_priorities c_counter_number c_counter_reload c_counter_on) H → va_D A (wd_ThumbCore cI cB cZ h h_memory h_memory_words h_registers h_flags h_exceptions h_exceptions_priorities h_counter q_memory_size n_memory_words c_asleep c_locked c_next c_memory_words c_registers c_flags_negative c_flags_zero c_flags_carry c_flags_overflow c_exceptions_pending c_exceptions_active c_exceptions_current c_exceptions_masked c_exceptions_priorities c_counter_number c_counter_reload c_counter_on) → va_S A s.heap H locs → lv_has ls 2 [(0, .ref h)] → FF = k_ThumbCore_step_28 q_memory_size c_exceptions_priorities c_counter_reload c_counter_on c_asleep c_locked c_next c_memory_words c_registers c_flags_negative c_flags_zero c_flags_carry c_flags_overflow c_exceptions_pending c_exceptions_active c_exceptions_current c_exceptions_masked c_counter_number → W p l e rm_ThumbCore_step s m ([.ref h] : List Value).toArray below meth c H locs 0 0 Q (F0 m 28 ls []) := by
    intro H locs ls c_asleep c_locked c_next c_memory_words c_registers c_flags_negative c_flags_zero c_flags_carry c_flags_overflow c_exceptions_pending c_exceptions_active c_exceptions_current c_exceptions_masked c_counter_number hP hD hS hl hq
    refine lv_aload_n hx hb d_ThumbCore_step_28 rfl (lv_at hl 0 rfl) ?_
    refine va_get (D := D) (ci := 4) (v := .int (bI c_asleep)) (C := R_ThumbCore) (T := F_ThumbCore) (N := 8) hx hb hts u_ThumbCore hown hK hP 0 rfl rfl 5 (by decide) (hts _ wf_ThumbCore_80) (fun _ h9 => h9) rfl d_ThumbCore_step_29 ?_
    refine lv_if_eq (tgt := 54) hx hb d_ThumbCore_step_32 (by decide) (fun g_32 => ?_) (fun g_32 => ?_)
    · have hq := hq.trans (if_pos g_32)
      exact J_54 H locs ls c_asleep c_locked c_next c_memory_words c_registers c_flags_negative c_flags_zero c_flags_carry c_flags_overflow c_exceptions_pending c_exceptions_active c_exceptions_current c_exceptions_masked c_counter_number hP hD hS (lv_sub hl [0] rfl) hq
    · have hq := hq.trans (if_neg g_32)
      refine lv_aload_n hx hb d_ThumbCore_step_35 rfl (lv_at hl 0 rfl) ?_
      refine va_get (D := D) (ci := 4) (v := .ref h_exceptions) (C := R_ThumbCore) (T := F_ThumbCore) (N := 8) hx hb hts u_ThumbCore hown hK hP 0 rfl rfl 3 (by decide) (hts _ wf_ThumbCore_41) (fun _ h9 => h9) rfl d_ThumbCore_step_36 ?_
      refine lv_aload_n hx hb d_ThumbCore_step_39 rfl (lv_at hl 0 rfl) ?_
      refine va_get (D := D) (ci := 4) (v := .ref h_exceptions) (C := R_ThumbCore) (T := F_ThumbCore) (N := 8) hx hb hts u_ThumbCore hown hK hP 0 rfl rfl 3 (by decide) (hts _ wf_ThumbCore_41) (fun _ h9 => h9) rfl d_ThumbCore_step_40 ?_
      refine tc_rd (va_runV (As := []) (rest := [.ref h_exceptions]) ⟨hx, hb, hml, hown, hts⟩ (c_Exceptions_presentUnmasked l D cI cB cZ h_exceptions h_exceptions_priorities H.size c_exceptions_pending c_exceptions_active c_exceptions_current c_exceptions_masked c_exceptions_priorities) (cwV 0 hts (tc_gV wl_ThumbCore_94 wm_Exceptions_presentUnmasked ws_Exceptions_presentUnmasked wi_Exceptions wc_Exceptions_presentUnmasked) rfl rfl rfl (by decide +kernel) ⟨Nat.le_of_ble_eq_true rfl, Nat.le_of_ble_eq_true rfl⟩) (tc_preV hK hN hP hD [5, 6] rfl (by decide) (q0 := 5) rfl rfl) rfl rfl hl.1 rfl (lv_room (Nat.le_of_ble_eq_true rfl)) d_ThumbCore_step_43 (by decide)) ?_
      refine lv_topi (fun v1 e_v1 => ?_)
      have hq := tc_nm hq e_v1
      refine tc_rd (va_runV (As := [.int v1]) (rest := []) ⟨hx, hb, hml, hown, hts⟩ (c_Exceptions_mostUrgent l D cI cB cZ h_exceptions h_exceptions_priorities H.size c_exceptions_pending c_exceptions_active c_exceptions_current c_exceptions_masked c_exceptions_priorities v1) (cwV 1 hts (tc_gV wl_ThumbCore_98 wm_Exceptions_mostUrgent ws_Exceptions_mostUrgent wi_Exceptions wc_Exceptions_mostUrgent) rfl rfl rfl (by decide +kernel) ⟨Nat.le_of_ble_eq_true rfl, Nat.le_of_ble_eq_true rfl⟩) (tc_preV hK hN hP hD [5, 6] rfl (by decide) (q0 := 5) rfl rfl) rfl rfl hl.1 rfl (lv_room (Nat.le_of_ble_eq_true rfl)) d_ThumbCore_step_46 (by decide)) ?_
      refine lv_topi (fun v2 e_v2 => ?_)
      have hq := tc_nm hq e_v2
      refine lv_if_ne (tgt := 54) hx hb d_ThumbCore_step_49 (by decide) (fun g_49 => ?_) (fun g_49 => ?_)
      · have hq := hq.trans (if_pos g_49)
        exact J_54 H locs ls c_asleep c_locked c_next c_memory_words c_registers c_flags_negative c_flags_zero c_flags_carry c_flags_overflow c_exceptions_pending c_exceptions_active c_exceptions_current c_exceptions_masked c_counter_number hP hD hS (lv_sub hl [0] rfl) hq
      · have hq := hq.trans (if_neg (fun g => g g_49))
        refine lv_iconst (v := 2) hx hb d_ThumbCore_step_52 (by decide) ?_
        exact RET H locs ls 53 (2, c_asleep, c_locked, c_next, c_memory_words, c_registers, c_flags_negative, c_flags_zero, c_flags_carry, c_flags_overflow, c_exceptions_pending, c_exceptions_active, c_exceptions_current, c_exceptions_masked, c_counter_number) d_ThumbCore_step_53 hP hD hS hq
  have hq : FF = f_ThumbCore_step q_memory_size c_exceptions_priorities c_counter_reload c_counter_on c_asleep c_locked c_next c_memory_words c_registers c_flags_negative c_flags_zero c_flags_carry c_flags_overflow c_exceptions_pending c_exceptions_active c_exceptions_current c_exceptions_masked c_counter_number := hF.symm
  revert hP hD hS
  suffices G : ∀ (H : Heap) (locs : List Loc), va_P D tcl (wd_ThumbCore cI cB cZ h h_memory h_memory_words h_registers h_flags h_exceptions h_exceptions_priorities h_counter q_memory_size n_memory_words c_asleep c_locked c_next c_memory_words c_registers c_flags_negative c_flags_zero c_flags_carry c_flags_overflow c_exceptions_pending c_exceptions_active c_exceptions_current c_exceptions_masked c_exceptions_priorities c_counter_number c_counter_reload c_counter_on) H → va_D A (wd_ThumbCore cI cB cZ h h_memory h_memory_words h_registers h_flags h_exceptions h_exceptions_priorities h_counter q_memory_size n_memory_words c_asleep c_locked c_next c_memory_words c_registers c_flags_negative c_flags_zero c_flags_carry c_flags_overflow c_exceptions_pending c_exceptions_active c_exceptions_current c_exceptions_masked c_exceptions_priorities c_counter_number c_counter_reload c_counter_on) → va_S A s.heap H locs → W p l e rm_ThumbCore_step s m ([.ref h] : List Value).toArray below meth c H locs 0 0 Q (F0 m 0 ls []) from fun hP hD hS => G _ _ hP hD hS
  intro H locs hP hD hS
  refine lv_aload_n hx hb d_ThumbCore_step_0 rfl (lv_at hl 0 rfl) ?_
  refine va_get (D := D) (ci := 4) (v := .int (bI c_locked)) (C := R_ThumbCore) (T := F_ThumbCore) (N := 8) hx hb hts u_ThumbCore hown hK hP 0 rfl rfl 6 (by decide) (hts _ wf_ThumbCore_84) (fun _ h9 => h9) rfl d_ThumbCore_step_1 ?_
  refine lv_if_eq (tgt := 9) hx hb d_ThumbCore_step_4 (by decide) (fun g_4 => ?_) (fun g_4 => ?_)
  · have hq := hq.trans (if_pos g_4)
    refine lv_aload_n hx hb d_ThumbCore_step_9 rfl (lv_at hl 0 rfl) ?_
    refine va_get (D := D) (ci := 4) (v := .ref h_counter) (C := R_ThumbCore) (T := F_ThumbCore) (N := 8) hx hb hts u_ThumbCore hown hK hP 0 rfl rfl 4 (by decide) (hts _ wf_ThumbCore_48) (fun _ h9 => h9) rfl d_ThumbCore_step_10 ?_
    refine tc_mz (wo := fun u => (wd_ThumbCore cI cB cZ h h_memory h_memory_words h_registers h_flags h_exceptions h_exceptions_priorities h_counter q_memory_size n_memory_words c_asleep c_locked c_next c_memory_words c_registers c_flags_negative c_flags_zero c_flags_carry c_flags_overflow c_exceptions_pending c_exceptions_active c_exceptions_current c_exceptions_masked c_exceptions_priorities u.2 c_counter_reload c_counter_on)) (va_runV (As := []) (rest := []) ⟨hx, hb, hml, hown, hts⟩ (c_Counter_moves l D cI cB cZ h_counter H.size c_counter_number c_counter_reload c_counter_on) (cwV 0 hts (tc_gV wl_ThumbCore_87 wm_Counter_moves ws_Counter_moves wi_Counter wc_Counter_moves) rfl rfl rfl (by decide +kernel) ⟨Nat.le_of_ble_eq_true rfl, Nat.le_of_ble_eq_true rfl⟩) (tc_preV hK hN hP hD [7] rfl (by decide) (q0 := 7) rfl rfl) rfl rfl hl.1 rfl (lv_room (Nat.le_of_ble_eq_true rfl)) d_ThumbCore_step_13 (by decide)) hP hD hS hA [7] [0, 1, 2, 3, 4, 5, 6] [0, 1, 2, 3, 4, 5, 6, 7] rfl rfl (by decide) (by decide) (by decide) (fun _ => rfl) (fun u H locs hu hP hD hS => ?_)
    obtain ⟨r1, s2⟩ := u
    have hq := hq.trans (un2_eq hu _)
    have e_r1 := hu
    have hP : va_P D tcl (wd_ThumbCore cI cB cZ h h_memory h_memory_words h_registers h_flags h_exceptions h_exceptions_priorities h_counter q_memory_size n_memory_words c_asleep c_locked c_next c_memory_words c_registers c_flags_negative c_flags_zero c_flags_carry c_flags_overflow c_exceptions_pending c_exceptions_active c_exceptions_current c_exceptions_masked c_exceptions_priorities s2 c_counter_reload c_counter_on) H := hP
    have hD : va_D A (wd_ThumbCore cI cB cZ h h_memory h_memory_words h_registers h_flags h_exceptions h_exceptions_priorities h_counter q_memory_size n_memory_words c_asleep c_locked c_next c_memory_words c_registers c_flags_negative c_flags_zero c_flags_carry c_flags_overflow c_exceptions_pending c_exceptions_active c_exceptions_current c_exceptions_masked c_exceptions_priorities s2 c_counter_reload c_counter_on) := hD
    refine W.eq (g2 := F0 m 16 ls [.int (bI r1)]) rfl ?_
    refine lv_if_eq (tgt := 28) hx hb d_ThumbCore_step_16 (by decide) (fun g_16 => ?_) (fun g_16 => ?_)
    · have hq := hq.trans (if_pos g_16)
      exact J_28 H locs ls c_asleep c_locked c_next c_memory_words c_registers c_flags_negative c_flags_zero c_flags_carry c_flags_overflow c_exceptions_pending c_exceptions_active c_exceptions_current c_exceptions_masked s2 hP hD hS (lv_sub hl [0] rfl) hq
    · have hq := hq.trans (if_neg g_16)
      refine lv_aload_n hx hb d_ThumbCore_step_19 rfl (lv_at hl 0 rfl) ?_
      refine va_get (D := D) (ci := 4) (v := .ref h_exceptions) (C := R_ThumbCore) (T := F_ThumbCore) (N := 8) hx hb hts u_ThumbCore hown hK hP 0 rfl rfl 3 (by decide) (hts _ wf_ThumbCore_41) (fun _ h9 => h9) rfl d_ThumbCore_step_20 ?_
      refine lv_bipush (v := 15) hx hb d_ThumbCore_step_23 (by decide) ?_
      refine tc_mv (wo := fun u => (wd_ThumbCore cI cB cZ h h_memory h_memory_words h_registers h_flags h_exceptions h_exceptions_priorities h_counter q_memory_size n_memory_words c_asleep c_locked c_next c_memory_words c_registers c_flags_negative c_flags_zero c_flags_carry c_flags_overflow u c_exceptions_active c_exceptions_current c_exceptions_masked c_exceptions_priorities s2 c_counter_reload c_counter_on)) (va_runV (As := [.int 15]) (rest := []) ⟨hx, hb, hml, hown, hts⟩ (c_Exceptions_await l D cI cB cZ h_exceptions h_exceptions_priorities H.size c_exceptions_pending c_exceptions_active c_exceptions_current c_exceptions_masked c_exceptions_priorities 15) (cwV 1 hts (tc_gV wl_ThumbCore_91 wm_Exceptions_await ws_Exceptions_await wi_Exceptions wc_Exceptions_await) rfl rfl rfl (by decide +kernel) ⟨Nat.le_of_ble_eq_true rfl, Nat.le_of_ble_eq_true rfl⟩) (tc_preV hK hN hP hD [5, 6] rfl (by decide) (q0 := 5) rfl rfl) rfl rfl hl.1 rfl (lv_room (Nat.le_of_ble_eq_true rfl)) d_ThumbCore_step_25 (by decide)) hP hD hS hA [5, 6] [0, 1, 2, 3, 4, 7] [0, 1, 2, 3, 4, 6, 7, 5] rfl rfl (by decide) (by decide) (by decide) (fun _ => rfl) (fun s3 H locs e_s3 hP hD hS => ?_)
      have hq := tc_nm hq e_s3
      have hP : va_P D tcl (wd_ThumbCore cI cB cZ h h_memory h_memory_words h_registers h_flags h_exceptions h_exceptions_priorities h_counter q_memory_size n_memory_words c_asleep c_locked c_next c_memory_words c_registers c_flags_negative c_flags_zero c_flags_carry c_flags_overflow s3 c_exceptions_active c_exceptions_current c_exceptions_masked c_exceptions_priorities s2 c_counter_reload c_counter_on) H := hP
      have hD : va_D A (wd_ThumbCore cI cB cZ h h_memory h_memory_words h_registers h_flags h_exceptions h_exceptions_priorities h_counter q_memory_size n_memory_words c_asleep c_locked c_next c_memory_words c_registers c_flags_negative c_flags_zero c_flags_carry c_flags_overflow s3 c_exceptions_active c_exceptions_current c_exceptions_masked c_exceptions_priorities s2 c_counter_reload c_counter_on) := hD
      exact J_28 H locs ls c_asleep c_locked c_next c_memory_words c_registers c_flags_negative c_flags_zero c_flags_carry c_flags_overflow s3 c_exceptions_active c_exceptions_current c_exceptions_masked s2 hP hD hS (lv_sub hl [0] rfl) hq
  · have hq := hq.trans (if_neg g_4)
    refine lv_iconst (v := 3) hx hb d_ThumbCore_step_7 (by decide) ?_
    exact RET H locs ls 8 (3, c_asleep, c_locked, c_next, c_memory_words, c_registers, c_flags_negative, c_flags_zero, c_flags_carry, c_flags_overflow, c_exceptions_pending, c_exceptions_active, c_exceptions_current, c_exceptions_masked, c_counter_number) d_ThumbCore_step_8 hP hD hS hq
abbrev rm_ThumbCore_run : Room := { frames := 8, cells := 0, slots := 0, locals := 176 }
set_option maxHeartbeats 4000000 in
set_option maxRecDepth 100000 in
theorem c_ThumbCore_run (l : Launch) (D : va_G) (cI cB cZ : ClassId) (h h_memory h_memory_words h_registers h_flags h_exceptions h_exceptions_priorities h_counter tL sz : Nat) (q_memory_size : Int32) (n_memory_words : Nat) (c_asleep : Bool) (c_locked : Bool) (c_next : Int32) (c_memory_words : Nat → Int32) (c_registers : Nat → Int32) (c_flags_negative : Bool) (c_flags_zero : Bool) (c_flags_carry : Bool) (c_flags_overflow : Bool) (c_exceptions_pending : Int32) (c_exceptions_active : Int32) (c_exceptions_current : Int32) (c_exceptions_masked : Bool) (c_exceptions_priorities : Nat → Int32) (c_counter_number : Int32) (c_counter_reload : Int32) (c_counter_on : Bool) (x1 : Int32) (hm : tc_mem q_memory_size n_memory_words) : Met l y_ThumbCore_run (.code y_ThumbCore_run b_ThumbCore_run 4 (some .int) :: tcb) rm_ThumbCore_run (tc_Pw D tcl (tys cI cB cZ) (wd_ThumbCore cI cB cZ h h_memory h_memory_words h_registers h_flags h_exceptions h_exceptions_priorities h_counter q_memory_size n_memory_words c_asleep c_locked c_next c_memory_words c_registers c_flags_negative c_flags_zero c_flags_carry c_flags_overflow c_exceptions_pending c_exceptions_active c_exceptions_current c_exceptions_masked c_exceptions_priorities c_counter_number c_counter_reload c_counter_on) sz ([.ref h, .int x1] : List Value) (some tL)) (tc_Qi D tcl (wd_ThumbCore cI cB cZ h h_memory h_memory_words h_registers h_flags h_exceptions h_exceptions_priorities h_counter q_memory_size n_memory_words c_asleep c_locked c_next c_memory_words c_registers c_flags_negative c_flags_zero c_flags_carry c_flags_overflow c_exceptions_pending c_exceptions_active c_exceptions_current c_exceptions_masked c_exceptions_priorities c_counter_number c_counter_reload c_counter_on) sz (fun u => (wd_ThumbCore cI cB cZ h h_memory h_memory_words h_registers h_flags h_exceptions h_exceptions_priorities h_counter q_memory_size n_memory_words u.2.1 u.2.2.1 u.2.2.2.1 u.2.2.2.2.1 u.2.2.2.2.2.1 u.2.2.2.2.2.2.1 u.2.2.2.2.2.2.2.1 u.2.2.2.2.2.2.2.2.1 u.2.2.2.2.2.2.2.2.2.1 u.2.2.2.2.2.2.2.2.2.2.1 u.2.2.2.2.2.2.2.2.2.2.2.1 u.2.2.2.2.2.2.2.2.2.2.2.2.1 u.2.2.2.2.2.2.2.2.2.2.2.2.2.1 c_exceptions_priorities u.2.2.2.2.2.2.2.2.2.2.2.2.2.2 c_counter_reload c_counter_on)) (f_ThumbCore_run q_memory_size c_exceptions_priorities c_counter_reload c_counter_on c_asleep c_locked c_next c_memory_words c_registers c_flags_negative c_flags_zero c_flags_carry c_flags_overflow c_exceptions_pending c_exceptions_active c_exceptions_current c_exceptions_masked c_counter_number x1)) 0 0 (va_A (wd_ThumbCore cI cB cZ h h_memory h_memory_words h_registers h_flags h_exceptions h_exceptions_priorities h_counter q_memory_size n_memory_words c_asleep c_locked c_next c_memory_words c_registers c_flags_negative c_flags_zero c_flags_carry c_flags_overflow c_exceptions_pending c_exceptions_active c_exceptions_current c_exceptions_masked c_exceptions_priorities c_counter_number c_counter_reload c_counter_on) sz) := by
  refine tc_mu_i (by decide) (Nat.le_of_ble_eq_true rfl) ?_
  intro p e s m below meth c A Q ls hx hb hml hts hown hK hN hP hD hA hZ hl RET
  have hS : va_S A s.heap s.heap [] := va_S.rf
  have hZ : va_Z "ThumbCore" "LAID" "[I" (.ref tL) A s s.heap ∧ va_T .int tL 6 (fun j => .int (laid j)) A s s.heap := hZ
  have hl : lv_has ls 4 [(0, .ref h), (1, .int x1)] := hl
  generalize hF : f_ThumbCore_run q_memory_size c_exceptions_priorities c_counter_reload c_counter_on c_asleep c_locked c_next c_memory_words c_registers c_flags_negative c_flags_zero c_flags_carry c_flags_overflow c_exceptions_pending c_exceptions_active c_exceptions_current c_exceptions_masked c_counter_number x1 = FF at RET
  have J_14 : ∀ n : Nat, ∀ (H : Heap) (locs : List Loc) (ls : Array Slot) (c_asleep : Bool) (c_locked : Bool) (c_next : Int32) (c_memory_words : Nat → Int32) (c_registers : Nat → Int32) (c_flags_negative : Bool) (c_flags_zero : Bool) (c_flags_carry : Bool) (c_flags_overflow : Bool) (c_exceptions_pending : Int32) (c_exceptions_active : Int32) (c_exceptions_current : Int32) (c_exceptions_masked : Bool) (c_counter_number : Int32) (y1 : Int32) (y2 : Int32), va_P D tcl (wd_ThumbCore cI cB cZ h h_memory h_memory_words h_registers h_flags h_exceptions h_exceptions_priorities h_counter q_memory_size n_memory_words c_asleep c_locked c_next c_memory_words c_registers c_flags_negative c_flags_zero c_flags_carry c_flags_overflow c_exceptions_pending c_exceptions_active c_exceptions_current c_exceptions_masked c_exceptions_priorities c_counter_number c_counter_reload c_counter_on) H → va_D A (wd_ThumbCore cI cB cZ h h_memory h_memory_words h_registers h_flags h_exceptions h_exceptions_priorities h_counter q_memory_size n_memory_words c_asleep c_locked c_next c_memory_words c_registers c_flags_negative c_flags_zero c_flags_carry c_flags_overflow c_exceptions_pending c_exceptions_active c_exceptions_current c_exceptions_masked c_exceptions_priorities c_counter_number c_counter_reload c_counter_on) → va_S A s.heap H locs → lv_has ls 4 [(0, .ref h), (1, .int y1), (2, .int y2)] → FF = k_ThumbCore_run_14 q_memory_size c_exceptions_priorities c_counter_reload c_counter_on n c_asleep c_locked c_next c_memory_words c_registers c_flags_negative c_flags_zero c_flags_carry c_flags_overflow c_exceptions_pending c_exceptions_active c_exceptions_current c_exceptions_masked c_counter_number y1 y2 → (tc_lp y2 (Int32.toInt y1).toNat n) → W p l e rm_ThumbCore_run s m ([.ref h, .int x1] : List Value).toArray below meth c H locs 0 0 Q (F0 m 14 ls []) := by
    intro n
    induction n with
    | zero =>
      intro H locs ls c_asleep c_locked c_next c_memory_words c_registers c_flags_negative c_flags_zero c_flags_carry c_flags_overflow c_exceptions_pending c_exceptions_active c_exceptions_current c_exceptions_masked c_counter_number y1 y2 hP hD hS hl hq hinv
      exact (tc_lp0 hinv).elim
    | succ n_14 IH_14 =>
      intro H locs ls c_asleep c_locked c_next c_memory_words c_registers c_flags_negative c_flags_zero c_flags_carry c_flags_overflow c_exceptions_pending c_exceptions_active c_exceptions_current c_exceptions_masked c_counter_number y1 y2 hP hD hS hl hq hinv
      refine lv_iload_n hx hb d_ThumbCore_run_14 rfl (lv_at hl 2 rfl) ?_
      refine lv_iload_n hx hb d_ThumbCore_run_15 rfl (lv_at hl 1 rfl) ?_
      refine lv_icmp_ge (tgt := 42) hx hb d_ThumbCore_run_16 (by decide) (fun g_16 => ?_) (fun g_16 => ?_)
      · have hq := hq.trans (if_pos g_16)
        refine lv_iload_n hx hb d_ThumbCore_run_42 rfl (lv_at hl 1 rfl) ?_
        exact RET H locs ls 43 (y1, c_asleep, c_locked, c_next, c_memory_words, c_registers, c_flags_negative, c_flags_zero, c_flags_carry, c_flags_overflow, c_exceptions_pending, c_exceptions_active, c_exceptions_current, c_exceptions_masked, c_counter_number) d_ThumbCore_run_43 hP hD hS hq
      · have hq := hq.trans (if_neg g_16)
        have hgd := tc_ggl hinv g_16
        refine lv_aload_n hx hb d_ThumbCore_run_19 rfl (lv_at hl 0 rfl) ?_
        refine tc_mi (wo := fun u => (wd_ThumbCore cI cB cZ h h_memory h_memory_words h_registers h_flags h_exceptions h_exceptions_priorities h_counter q_memory_size n_memory_words u.2.1 u.2.2.1 u.2.2.2.1 u.2.2.2.2.1 u.2.2.2.2.2.1 u.2.2.2.2.2.2.1 u.2.2.2.2.2.2.2.1 u.2.2.2.2.2.2.2.2.1 u.2.2.2.2.2.2.2.2.2.1 u.2.2.2.2.2.2.2.2.2.2.1 u.2.2.2.2.2.2.2.2.2.2.2.1 u.2.2.2.2.2.2.2.2.2.2.2.2.1 u.2.2.2.2.2.2.2.2.2.2.2.2.2.1 c_exceptions_priorities u.2.2.2.2.2.2.2.2.2.2.2.2.2.2 c_counter_reload c_counter_on)) (va_runV (As := []) (rest := []) ⟨hx, hb, hml, hown, hts⟩ (c_ThumbCore_step l D cI cB cZ h h_memory h_memory_words h_registers h_flags h_exceptions h_exceptions_priorities h_counter tL H.size q_memory_size n_memory_words c_asleep c_locked c_next c_memory_words c_registers c_flags_negative c_flags_zero c_flags_carry c_flags_overflow c_exceptions_pending c_exceptions_active c_exceptions_current c_exceptions_masked c_exceptions_priorities c_counter_number c_counter_reload c_counter_on hm) (cwV 0 hts (tc_gV wl_ThumbCore_118 wm_ThumbCore_step ws_ThumbCore_step wi_ThumbCore wc_ThumbCore_step) rfl rfl rfl (by decide +kernel) ⟨Nat.le_of_ble_eq_true rfl, Nat.le_of_ble_eq_true rfl⟩) (tc_preVZ hK hN hP hD hS hA hZ [0, 1, 2, 3, 4, 5, 6, 7] rfl (by decide) (q0 := 0) rfl rfl) rfl rfl hl.1 rfl (lv_room (Nat.le_of_ble_eq_true rfl)) d_ThumbCore_run_20 (by decide)) hP hD hS hA [0, 1, 2, 3, 4, 5, 6, 7] [] [0, 1, 2, 3, 4, 5, 6, 7] rfl rfl (by decide) (by decide) (by decide) (fun _ => rfl) (fun u H locs hu hP hD hS => ?_)
        obtain ⟨r1, s2, s3, s4, s5, s6, s7, s8, s9, s10, s11, s12, s13, s14, s15⟩ := u
        have hq := hq.trans (un15_eq hu _)
        have e_r1 := hu
        have hP : va_P D tcl (wd_ThumbCore cI cB cZ h h_memory h_memory_words h_registers h_flags h_exceptions h_exceptions_priorities h_counter q_memory_size n_memory_words s2 s3 s4 s5 s6 s7 s8 s9 s10 s11 s12 s13 s14 c_exceptions_priorities s15 c_counter_reload c_counter_on) H := hP
        have hD : va_D A (wd_ThumbCore cI cB cZ h h_memory h_memory_words h_registers h_flags h_exceptions h_exceptions_priorities h_counter q_memory_size n_memory_words s2 s3 s4 s5 s6 s7 s8 s9 s10 s11 s12 s13 s14 c_exceptions_priorities s15 c_counter_reload c_counter_on) := hD
        refine W.eq (g2 := F0 m 23 ls [.int r1]) rfl ?_
        refine lv_istore_n (lv' := [(3, .int r1), (0, .ref h), (1, .int y1), (2, .int y2)]) hx hb d_ThumbCore_run_23 rfl hl (by decide) rfl (fun ls hl => ?_)
        refine lv_iload_n hx hb d_ThumbCore_run_24 rfl (lv_at hl 0 rfl) ?_
        refine lv_iconst (v := 2) hx hb d_ThumbCore_run_25 (by decide) ?_
        refine lv_icmp_eq (tgt := 34) hx hb d_ThumbCore_run_26 (by decide) (fun g_26 => ?_) (fun g_26 => ?_)
        · have hq := hq.trans (if_pos g_26)
          refine lv_iload_n hx hb d_ThumbCore_run_34 rfl (lv_at hl 3 rfl) ?_
          exact RET H locs ls 35 (y2, s2, s3, s4, s5, s6, s7, s8, s9, s10, s11, s12, s13, s14, s15) d_ThumbCore_run_35 hP hD hS hq
        · have hq := hq.trans (if_neg g_26)
          refine lv_iload_n hx hb d_ThumbCore_run_29 rfl (lv_at hl 0 rfl) ?_
          refine lv_iconst (v := 3) hx hb d_ThumbCore_run_30 (by decide) ?_
          refine lv_icmp_ne (tgt := 36) hx hb d_ThumbCore_run_31 (by decide) (fun g_31 => ?_) (fun g_31 => ?_)
          · have hq := hq.trans (if_pos g_31)
            refine lv_iinc (k := 3) (v := (y2 + 1)) (lv' := [(2, .int (y2 + 1)), (3, .int r1), (0, .ref h), (1, .int y1)]) hx hb d_ThumbCore_run_36 hl rfl rfl (by decide) rfl (fun ls hl => ?_)
            refine lv_goto (tgt := 14) hx hb d_ThumbCore_run_39 (by decide) ?_
            exact IH_14 H locs ls s2 s3 s4 s5 s6 s7 s8 s9 s10 s11 s12 s13 s14 s15 y1 (y2 + 1) hP hD hS (lv_sub hl [2, 3, 0] rfl) hq (tc_lpS hinv hgd (tc_tn _))
          · have hq := hq.trans (if_neg (fun g => g g_31))
            refine lv_iload_n hx hb d_ThumbCore_run_34 rfl (lv_at hl 3 rfl) ?_
            exact RET H locs ls 35 (y2, s2, s3, s4, s5, s6, s7, s8, s9, s10, s11, s12, s13, s14, s15) d_ThumbCore_run_35 hP hD hS hq
  have hq : FF = f_ThumbCore_run q_memory_size c_exceptions_priorities c_counter_reload c_counter_on c_asleep c_locked c_next c_memory_words c_registers c_flags_negative c_flags_zero c_flags_carry c_flags_overflow c_exceptions_pending c_exceptions_active c_exceptions_current c_exceptions_masked c_counter_number x1 := hF.symm
  revert hP hD hS
  suffices G : ∀ (H : Heap) (locs : List Loc), va_P D tcl (wd_ThumbCore cI cB cZ h h_memory h_memory_words h_registers h_flags h_exceptions h_exceptions_priorities h_counter q_memory_size n_memory_words c_asleep c_locked c_next c_memory_words c_registers c_flags_negative c_flags_zero c_flags_carry c_flags_overflow c_exceptions_pending c_exceptions_active c_exceptions_current c_exceptions_masked c_exceptions_priorities c_counter_number c_counter_reload c_counter_on) H → va_D A (wd_ThumbCore cI cB cZ h h_memory h_memory_words h_registers h_flags h_exceptions h_exceptions_priorities h_counter q_memory_size n_memory_words c_asleep c_locked c_next c_memory_words c_registers c_flags_negative c_flags_zero c_flags_carry c_flags_overflow c_exceptions_pending c_exceptions_active c_exceptions_current c_exceptions_masked c_exceptions_priorities c_counter_number c_counter_reload c_counter_on) → va_S A s.heap H locs → W p l e rm_ThumbCore_run s m ([.ref h, .int x1] : List Value).toArray below meth c H locs 0 0 Q (F0 m 0 ls []) from fun hP hD hS => G _ _ hP hD hS
  intro H locs hP hD hS
  refine lv_iload_n hx hb d_ThumbCore_run_0 rfl (lv_at hl 1 rfl) ?_
  refine lv_if_lt (tgt := 10) hx hb d_ThumbCore_run_1 (by decide) (fun g_1 => ?_) (fun g_1 => ?_)
  · have hq := hq.trans (if_pos g_1)
    refine lv_iconst (v := (-1)) hx hb d_ThumbCore_run_10 (by decide) ?_
    exact RET H locs ls 11 ((-1), c_asleep, c_locked, c_next, c_memory_words, c_registers, c_flags_negative, c_flags_zero, c_flags_carry, c_flags_overflow, c_exceptions_pending, c_exceptions_active, c_exceptions_current, c_exceptions_masked, c_counter_number) d_ThumbCore_run_11 hP hD hS hq
  · have hq := hq.trans (if_neg g_1)
    refine lv_iload_n hx hb d_ThumbCore_run_4 rfl (lv_at hl 1 rfl) ?_
    refine lv_bipush (v := 100) hx hb d_ThumbCore_run_5 (by decide) ?_
    refine lv_icmp_le (tgt := 12) hx hb d_ThumbCore_run_7 (by decide) (fun g_7 => ?_) (fun g_7 => ?_)
    · have hq := hq.trans (if_pos g_7)
      refine lv_iconst (v := 0) hx hb d_ThumbCore_run_12 (by decide) ?_
      refine lv_istore_n (lv' := [(2, .int 0), (0, .ref h), (1, .int x1)]) hx hb d_ThumbCore_run_13 rfl hl (by decide) rfl (fun ls hl => ?_)
      exact J_14 ((Int32.toInt x1).toNat.succ) H locs ls c_asleep c_locked c_next c_memory_words c_registers c_flags_negative c_flags_zero c_flags_carry c_flags_overflow c_exceptions_pending c_exceptions_active c_exceptions_current c_exceptions_masked c_counter_number x1 0 hP hD hS (lv_sub hl [1, 2, 0] rfl) hq (tc_lpE _)
    · have hq := hq.trans (if_neg g_7)
      refine lv_iconst (v := (-1)) hx hb d_ThumbCore_run_10 (by decide) ?_
      exact RET H locs ls 11 ((-1), c_asleep, c_locked, c_next, c_memory_words, c_registers, c_flags_negative, c_flags_zero, c_flags_carry, c_flags_overflow, c_exceptions_pending, c_exceptions_active, c_exceptions_current, c_exceptions_masked, c_counter_number) d_ThumbCore_run_11 hP hD hS hq
abbrev rm_ThumbCore_register : Room := { frames := 1, cells := 0, slots := 0, locals := 24 }
set_option maxHeartbeats 4000000 in
set_option maxRecDepth 100000 in
theorem c_ThumbCore_register (l : Launch) (D : va_G) (cI cB cZ : ClassId) (h h_memory h_memory_words h_registers h_flags h_exceptions h_exceptions_priorities h_counter sz : Nat) (q_memory_size : Int32) (n_memory_words : Nat) (c_asleep : Bool) (c_locked : Bool) (c_next : Int32) (c_memory_words : Nat → Int32) (c_registers : Nat → Int32) (c_flags_negative : Bool) (c_flags_zero : Bool) (c_flags_carry : Bool) (c_flags_overflow : Bool) (c_exceptions_pending : Int32) (c_exceptions_active : Int32) (c_exceptions_current : Int32) (c_exceptions_masked : Bool) (c_exceptions_priorities : Nat → Int32) (c_counter_number : Int32) (c_counter_reload : Int32) (c_counter_on : Bool) (x1 : Int32) : Met l y_ThumbCore_register (.code y_ThumbCore_register b_ThumbCore_register 2 (some .int) :: tcb) rm_ThumbCore_register (tc_Pw D tcl (tys cI cB cZ) (wd_ThumbCore cI cB cZ h h_memory h_memory_words h_registers h_flags h_exceptions h_exceptions_priorities h_counter q_memory_size n_memory_words c_asleep c_locked c_next c_memory_words c_registers c_flags_negative c_flags_zero c_flags_carry c_flags_overflow c_exceptions_pending c_exceptions_active c_exceptions_current c_exceptions_masked c_exceptions_priorities c_counter_number c_counter_reload c_counter_on) sz ([.ref h, .int x1] : List Value) none) (QcRead (f_ThumbCore_register c_registers x1)) 0 0 (fun _ => False) := by
  refine tc_rd_i (by decide) (Nat.le_of_ble_eq_true rfl) ?_
  intro p e s m below meth c Q ls hx hb hml hts hown hK hN hP hD hl RET
  have hl : lv_has ls 2 [(0, .ref h), (1, .int x1)] := hl
  generalize hF : f_ThumbCore_register c_registers x1 = FF at RET
  have hq : FF = f_ThumbCore_register c_registers x1 := hF.symm
  refine lv_iload_n hx hb d_ThumbCore_register_0 rfl (lv_at hl 1 rfl) ?_
  refine lv_if_lt (tgt := 19) hx hb d_ThumbCore_register_1 (by decide) (fun g_1 => ?_) (fun g_1 => ?_)
  · have hq := hq.trans (if_pos g_1)
    refine lv_iconst (v := 0) hx hb d_ThumbCore_register_19 (by decide) ?_
    exact RET ls 20 d_ThumbCore_register_20 hq
  · have hq := hq.trans (if_neg g_1)
    refine lv_iload_n hx hb d_ThumbCore_register_4 rfl (lv_at hl 1 rfl) ?_
    refine lv_bipush (v := 15) hx hb d_ThumbCore_register_5 (by decide) ?_
    refine lv_icmp_gt (tgt := 19) hx hb d_ThumbCore_register_7 (by decide) (fun g_7 => ?_) (fun g_7 => ?_)
    · have hq := hq.trans (if_pos g_7)
      refine lv_iconst (v := 0) hx hb d_ThumbCore_register_19 (by decide) ?_
      exact RET ls 20 d_ThumbCore_register_20 hq
    · have hq := hq.trans (if_neg g_7)
      refine lv_aload_n hx hb d_ThumbCore_register_10 rfl (lv_at hl 0 rfl) ?_
      refine va_get (D := D) (ci := 4) (v := .ref h_registers) (C := R_ThumbCore) (T := F_ThumbCore) (N := 8) hx hb hts u_ThumbCore hown hK hP 0 rfl rfl 1 (by decide) (hts _ wf_ThumbCore_27) (fun _ h9 => h9) rfl d_ThumbCore_register_11 ?_
      refine lv_iload_n hx hb d_ThumbCore_register_14 rfl (lv_at hl 1 rfl) ?_
      refine va_iald hx hb hK hP 3 0 rfl rfl (tc_gin g_1 g_7) d_ThumbCore_register_15 ?_
      refine lv_goto (tgt := 20) hx hb d_ThumbCore_register_16 (by decide) ?_
      exact RET ls 20 d_ThumbCore_register_20 hq
abbrev rm_ThumbCore_set : Room := { frames := 2, cells := 0, slots := 0, locals := 45 }
set_option maxHeartbeats 4000000 in
set_option maxRecDepth 100000 in
theorem c_ThumbCore_set (l : Launch) (D : va_G) (cI cB cZ : ClassId) (h h_memory h_memory_words h_registers h_flags h_exceptions h_exceptions_priorities h_counter sz : Nat) (q_memory_size : Int32) (n_memory_words : Nat) (c_asleep : Bool) (c_locked : Bool) (c_next : Int32) (c_memory_words : Nat → Int32) (c_registers : Nat → Int32) (c_flags_negative : Bool) (c_flags_zero : Bool) (c_flags_carry : Bool) (c_flags_overflow : Bool) (c_exceptions_pending : Int32) (c_exceptions_active : Int32) (c_exceptions_current : Int32) (c_exceptions_masked : Bool) (c_exceptions_priorities : Nat → Int32) (c_counter_number : Int32) (c_counter_reload : Int32) (c_counter_on : Bool) (x1 : Int32) (x2 : Int32) : Met l y_ThumbCore_set (.code y_ThumbCore_set b_ThumbCore_set 3 (some .boolean) :: tcb) rm_ThumbCore_set (tc_Pw D tcl (tys cI cB cZ) (wd_ThumbCore cI cB cZ h h_memory h_memory_words h_registers h_flags h_exceptions h_exceptions_priorities h_counter q_memory_size n_memory_words c_asleep c_locked c_next c_memory_words c_registers c_flags_negative c_flags_zero c_flags_carry c_flags_overflow c_exceptions_pending c_exceptions_active c_exceptions_current c_exceptions_masked c_exceptions_priorities c_counter_number c_counter_reload c_counter_on) sz ([.ref h, .int x1, .int x2] : List Value) none) (tc_Qz D tcl (wd_ThumbCore cI cB cZ h h_memory h_memory_words h_registers h_flags h_exceptions h_exceptions_priorities h_counter q_memory_size n_memory_words c_asleep c_locked c_next c_memory_words c_registers c_flags_negative c_flags_zero c_flags_carry c_flags_overflow c_exceptions_pending c_exceptions_active c_exceptions_current c_exceptions_masked c_exceptions_priorities c_counter_number c_counter_reload c_counter_on) sz (fun u => (wd_ThumbCore cI cB cZ h h_memory h_memory_words h_registers h_flags h_exceptions h_exceptions_priorities h_counter q_memory_size n_memory_words c_asleep c_locked c_next c_memory_words u.2 c_flags_negative c_flags_zero c_flags_carry c_flags_overflow c_exceptions_pending c_exceptions_active c_exceptions_current c_exceptions_masked c_exceptions_priorities c_counter_number c_counter_reload c_counter_on)) (f_ThumbCore_set c_registers x1 x2)) 0 0 (va_A (wd_ThumbCore cI cB cZ h h_memory h_memory_words h_registers h_flags h_exceptions h_exceptions_priorities h_counter q_memory_size n_memory_words c_asleep c_locked c_next c_memory_words c_registers c_flags_negative c_flags_zero c_flags_carry c_flags_overflow c_exceptions_pending c_exceptions_active c_exceptions_current c_exceptions_masked c_exceptions_priorities c_counter_number c_counter_reload c_counter_on) sz) := by
  refine tc_mu_z (by decide) (Nat.le_of_ble_eq_true rfl) ?_
  intro p e s m below meth c A Q ls hx hb hml hts hown hK hN hP hD hA hZ hl RET
  have hS : va_S A s.heap s.heap [] := va_S.rf
  have hl : lv_has ls 3 [(0, .ref h), (1, .int x1), (2, .int x2)] := hl
  generalize hF : f_ThumbCore_set c_registers x1 x2 = FF at RET
  have hq : FF = f_ThumbCore_set c_registers x1 x2 := hF.symm
  revert hP hD hS
  suffices G : ∀ (H : Heap) (locs : List Loc), va_P D tcl (wd_ThumbCore cI cB cZ h h_memory h_memory_words h_registers h_flags h_exceptions h_exceptions_priorities h_counter q_memory_size n_memory_words c_asleep c_locked c_next c_memory_words c_registers c_flags_negative c_flags_zero c_flags_carry c_flags_overflow c_exceptions_pending c_exceptions_active c_exceptions_current c_exceptions_masked c_exceptions_priorities c_counter_number c_counter_reload c_counter_on) H → va_D A (wd_ThumbCore cI cB cZ h h_memory h_memory_words h_registers h_flags h_exceptions h_exceptions_priorities h_counter q_memory_size n_memory_words c_asleep c_locked c_next c_memory_words c_registers c_flags_negative c_flags_zero c_flags_carry c_flags_overflow c_exceptions_pending c_exceptions_active c_exceptions_current c_exceptions_masked c_exceptions_priorities c_counter_number c_counter_reload c_counter_on) → va_S A s.heap H locs → W p l e rm_ThumbCore_set s m ([.ref h, .int x1, .int x2] : List Value).toArray below meth c H locs 0 0 Q (F0 m 0 ls []) from fun hP hD hS => G _ _ hP hD hS
  intro H locs hP hD hS
  refine lv_iload_n hx hb d_ThumbCore_set_0 rfl (lv_at hl 1 rfl) ?_
  refine lv_if_lt (tgt := 10) hx hb d_ThumbCore_set_1 (by decide) (fun g_1 => ?_) (fun g_1 => ?_)
  · have hq := hq.trans (if_pos g_1)
    refine lv_iconst (v := 0) hx hb d_ThumbCore_set_10 (by decide) ?_
    exact RET H locs ls 11 (false, c_registers) d_ThumbCore_set_11 hP hD hS hq
  · have hq := hq.trans (if_neg g_1)
    refine lv_iload_n hx hb d_ThumbCore_set_4 rfl (lv_at hl 1 rfl) ?_
    refine lv_bipush (v := 15) hx hb d_ThumbCore_set_5 (by decide) ?_
    refine lv_icmp_le (tgt := 12) hx hb d_ThumbCore_set_7 (by decide) (fun g_7 => ?_) (fun g_7 => ?_)
    · have hq := hq.trans (if_pos g_7)
      refine lv_aload_n hx hb d_ThumbCore_set_12 rfl (lv_at hl 0 rfl) ?_
      refine va_get (D := D) (ci := 4) (v := .ref h_registers) (C := R_ThumbCore) (T := F_ThumbCore) (N := 8) hx hb hts u_ThumbCore hown hK hP 0 rfl rfl 1 (by decide) (hts _ wf_ThumbCore_27) (fun _ h9 => h9) rfl d_ThumbCore_set_13 ?_
      refine lv_iload_n hx hb d_ThumbCore_set_16 rfl (lv_at hl 1 rfl) ?_
      refine lv_iload_n hx hb d_ThumbCore_set_17 rfl (lv_at hl 1 rfl) ?_
      refine lv_iload_n hx hb d_ThumbCore_set_18 rfl (lv_at hl 2 rfl) ?_
      refine tc_rd (va_runS (As := [.int x1, .int x2]) (rest := [.int x1, .ref h_registers]) ⟨hx, hb, hml, hown, hts⟩ (c_ThumbCore_fitting l x1 x2) (va_cwS 2 hts (tc_gS wl_ThumbCore_121 wt_ThumbCore_fitting wi_ThumbCore wc_ThumbCore_fitting) rfl rfl rfl (by decide +kernel) ⟨Nat.le_of_ble_eq_true rfl, Nat.le_of_ble_eq_true rfl⟩) tc_preS rfl rfl hl.1 rfl (lv_room (Nat.le_of_ble_eq_true rfl)) d_ThumbCore_set_19 (by decide)) ?_
      refine lv_topi (fun v1 e_v1 => ?_)
      have hq := tc_nm hq e_v1
      refine va_iast hx hb hK hP hD hS 3 0 rfl rfl (tc_gin2 g_1 g_7) d_ThumbCore_set_22 (fun H locs hP hD hS => ?_)
      have hP : va_P D tcl (wd_ThumbCore cI cB cZ h h_memory h_memory_words h_registers h_flags h_exceptions h_exceptions_priorities h_counter q_memory_size n_memory_words c_asleep c_locked c_next c_memory_words (upd c_registers x1.toNatClampNeg v1) c_flags_negative c_flags_zero c_flags_carry c_flags_overflow c_exceptions_pending c_exceptions_active c_exceptions_current c_exceptions_masked c_exceptions_priorities c_counter_number c_counter_reload c_counter_on) H := hP
      have hD : va_D A (wd_ThumbCore cI cB cZ h h_memory h_memory_words h_registers h_flags h_exceptions h_exceptions_priorities h_counter q_memory_size n_memory_words c_asleep c_locked c_next c_memory_words (upd c_registers x1.toNatClampNeg v1) c_flags_negative c_flags_zero c_flags_carry c_flags_overflow c_exceptions_pending c_exceptions_active c_exceptions_current c_exceptions_masked c_exceptions_priorities c_counter_number c_counter_reload c_counter_on) := hD
      refine lv_iconst (v := 1) hx hb d_ThumbCore_set_23 (by decide) ?_
      exact RET H locs ls 24 (true, (upd c_registers x1.toNatClampNeg v1)) d_ThumbCore_set_24 hP hD hS hq
    · have hq := hq.trans (if_neg g_7)
      refine lv_iconst (v := 0) hx hb d_ThumbCore_set_10 (by decide) ?_
      exact RET H locs ls 11 (false, c_registers) d_ThumbCore_set_11 hP hD hS hq
abbrev rm_ThumbCore_about : Room := { frames := 3, cells := 0, slots := 0, locals := 67 }
set_option maxHeartbeats 4000000 in
set_option maxRecDepth 100000 in
theorem c_ThumbCore_about (l : Launch) (D : va_G) (cI cB cZ : ClassId) (h h_memory h_memory_words h_registers h_flags h_exceptions h_exceptions_priorities h_counter sz : Nat) (q_memory_size : Int32) (n_memory_words : Nat) (c_asleep : Bool) (c_locked : Bool) (c_next : Int32) (c_memory_words : Nat → Int32) (c_registers : Nat → Int32) (c_flags_negative : Bool) (c_flags_zero : Bool) (c_flags_carry : Bool) (c_flags_overflow : Bool) (c_exceptions_pending : Int32) (c_exceptions_active : Int32) (c_exceptions_current : Int32) (c_exceptions_masked : Bool) (c_exceptions_priorities : Nat → Int32) (c_counter_number : Int32) (c_counter_reload : Int32) (c_counter_on : Bool) (x1 : Int32) : Met l y_ThumbCore_about (.code y_ThumbCore_about b_ThumbCore_about 2 (some .int) :: tcb) rm_ThumbCore_about (tc_Pw D tcl (tys cI cB cZ) (wd_ThumbCore cI cB cZ h h_memory h_memory_words h_registers h_flags h_exceptions h_exceptions_priorities h_counter q_memory_size n_memory_words c_asleep c_locked c_next c_memory_words c_registers c_flags_negative c_flags_zero c_flags_carry c_flags_overflow c_exceptions_pending c_exceptions_active c_exceptions_current c_exceptions_masked c_exceptions_priorities c_counter_number c_counter_reload c_counter_on) sz ([.ref h, .int x1] : List Value) none) (QcRead (f_ThumbCore_about c_asleep c_locked c_exceptions_active c_exceptions_current c_exceptions_masked c_exceptions_priorities c_counter_number x1)) 0 0 (fun _ => False) := by
  refine tc_rd_i (by decide) (Nat.le_of_ble_eq_true rfl) ?_
  intro p e s m below meth c Q ls hx hb hml hts hown hK hN hP hD hl RET
  have hl : lv_has ls 2 [(0, .ref h), (1, .int x1)] := hl
  generalize hF : f_ThumbCore_about c_asleep c_locked c_exceptions_active c_exceptions_current c_exceptions_masked c_exceptions_priorities c_counter_number x1 = FF at RET
  have hq : FF = f_ThumbCore_about c_asleep c_locked c_exceptions_active c_exceptions_current c_exceptions_masked c_exceptions_priorities c_counter_number x1 := hF.symm
  refine lv_iload_n hx hb d_ThumbCore_about_0 rfl (lv_at hl 1 rfl) ?_
  by_cases g_1_0 : x1 = 0
  · have hq := hq.trans (if_pos g_1_0)
    refine tc_tabIn (k := 0) (off := 43) (tgt := 44) hx hb d_ThumbCore_about_1 g_1_0 (by decide) (by decide) (by decide +kernel) (by decide) ?_
    refine lv_aload_n hx hb d_ThumbCore_about_44 rfl (lv_at hl 0 rfl) ?_
    refine va_get (D := D) (ci := 4) (v := .ref h_exceptions) (C := R_ThumbCore) (T := F_ThumbCore) (N := 8) hx hb hts u_ThumbCore hown hK hP 0 rfl rfl 3 (by decide) (hts _ wf_ThumbCore_41) (fun _ h9 => h9) rfl d_ThumbCore_about_45 ?_
    refine va_getN (D := D) (ci := 1) (v := .int c_exceptions_current) (C := R_Exceptions) (T := F_Exceptions) (N := 5) hx hb hts u_Exceptions hown hK hP 5 rfl rfl 3 (by decide) (va_Nw.use rfl (hN _ wf_ThumbCore_128)) (fun _ h9 => h9) rfl d_ThumbCore_about_48 ?_
    exact RET ls 51 d_ThumbCore_about_51 hq
  have hq := hq.trans (if_neg g_1_0)
  by_cases g_1_1 : x1 = 1
  · have hq := hq.trans (if_pos g_1_1)
    refine tc_tabIn (k := 1) (off := 51) (tgt := 52) hx hb d_ThumbCore_about_1 g_1_1 (by decide) (by decide) (by decide +kernel) (by decide) ?_
    refine lv_aload_n hx hb d_ThumbCore_about_52 rfl (lv_at hl 0 rfl) ?_
    refine va_get (D := D) (ci := 4) (v := .ref h_exceptions) (C := R_ThumbCore) (T := F_ThumbCore) (N := 8) hx hb hts u_ThumbCore hown hK hP 0 rfl rfl 3 (by decide) (hts _ wf_ThumbCore_41) (fun _ h9 => h9) rfl d_ThumbCore_about_53 ?_
    refine va_getN (D := D) (ci := 1) (v := .int c_exceptions_active) (C := R_Exceptions) (T := F_Exceptions) (N := 5) hx hb hts u_Exceptions hown hK hP 5 rfl rfl 2 (by decide) (va_Nw.use rfl (hN _ wf_ThumbCore_131)) (fun _ h9 => h9) rfl d_ThumbCore_about_56 ?_
    refine tc_rd (va_runS (As := [.int c_exceptions_active]) (rest := []) ⟨hx, hb, hml, hown, hts⟩ (c_Integer_bitCount l c_exceptions_active) (va_cwS 1 hts (tc_gS wl_ThumbCore_134 wt_Integer_bitCount wi_Integer wc_Integer_bitCount) rfl rfl rfl (by decide +kernel) ⟨Nat.le_of_ble_eq_true rfl, Nat.le_of_ble_eq_true rfl⟩) tc_preS rfl rfl hl.1 rfl (lv_room (Nat.le_of_ble_eq_true rfl)) d_ThumbCore_about_59 (by decide)) ?_
    refine lv_topi (fun v1 e_v1 => ?_)
    have hq := tc_nm hq e_v1
    exact RET ls 62 d_ThumbCore_about_62 hq
  have hq := hq.trans (if_neg g_1_1)
  by_cases g_1_2 : x1 = 2
  · have hq := hq.trans (if_pos g_1_2)
    refine tc_tabIn (k := 2) (off := 62) (tgt := 63) hx hb d_ThumbCore_about_1 g_1_2 (by decide) (by decide) (by decide +kernel) (by decide) ?_
    refine lv_aload_n hx hb d_ThumbCore_about_63 rfl (lv_at hl 0 rfl) ?_
    refine va_get (D := D) (ci := 4) (v := .ref h_exceptions) (C := R_ThumbCore) (T := F_ThumbCore) (N := 8) hx hb hts u_ThumbCore hown hK hP 0 rfl rfl 3 (by decide) (hts _ wf_ThumbCore_41) (fun _ h9 => h9) rfl d_ThumbCore_about_64 ?_
    refine va_getN (D := D) (ci := 1) (v := .int (bI c_exceptions_masked)) (C := R_Exceptions) (T := F_Exceptions) (N := 5) hx hb hts u_Exceptions hown hK hP 5 rfl rfl 4 (by decide) (va_Nw.use rfl (hN _ wf_ThumbCore_139)) (fun _ h9 => h9) rfl d_ThumbCore_about_67 ?_
    refine lv_if_eq (tgt := 77) hx hb d_ThumbCore_about_70 (by decide) (fun g_70 => ?_) (fun g_70 => ?_)
    · have hq := hq.trans (if_pos g_70)
      refine lv_iconst (v := 0) hx hb d_ThumbCore_about_77 (by decide) ?_
      exact RET ls 78 d_ThumbCore_about_78 hq
    · have hq := hq.trans (if_neg g_70)
      refine lv_iconst (v := 1) hx hb d_ThumbCore_about_73 (by decide) ?_
      refine lv_goto (tgt := 78) hx hb d_ThumbCore_about_74 (by decide) ?_
      exact RET ls 78 d_ThumbCore_about_78 hq
  have hq := hq.trans (if_neg g_1_2)
  by_cases g_1_3 : x1 = 3
  · have hq := hq.trans (if_pos g_1_3)
    refine tc_tabIn (k := 3) (off := 78) (tgt := 79) hx hb d_ThumbCore_about_1 g_1_3 (by decide) (by decide) (by decide +kernel) (by decide) ?_
    refine lv_aload_n hx hb d_ThumbCore_about_79 rfl (lv_at hl 0 rfl) ?_
    refine va_get (D := D) (ci := 4) (v := .int (bI c_asleep)) (C := R_ThumbCore) (T := F_ThumbCore) (N := 8) hx hb hts u_ThumbCore hown hK hP 0 rfl rfl 5 (by decide) (hts _ wf_ThumbCore_80) (fun _ h9 => h9) rfl d_ThumbCore_about_80 ?_
    refine lv_if_eq (tgt := 90) hx hb d_ThumbCore_about_83 (by decide) (fun g_83 => ?_) (fun g_83 => ?_)
    · have hq := hq.trans (if_pos g_83)
      refine lv_iconst (v := 0) hx hb d_ThumbCore_about_90 (by decide) ?_
      exact RET ls 91 d_ThumbCore_about_91 hq
    · have hq := hq.trans (if_neg g_83)
      refine lv_iconst (v := 1) hx hb d_ThumbCore_about_86 (by decide) ?_
      refine lv_goto (tgt := 91) hx hb d_ThumbCore_about_87 (by decide) ?_
      exact RET ls 91 d_ThumbCore_about_91 hq
  have hq := hq.trans (if_neg g_1_3)
  by_cases g_1_4 : x1 = 4
  · have hq := hq.trans (if_pos g_1_4)
    refine tc_tabIn (k := 4) (off := 91) (tgt := 92) hx hb d_ThumbCore_about_1 g_1_4 (by decide) (by decide) (by decide +kernel) (by decide) ?_
    refine lv_aload_n hx hb d_ThumbCore_about_92 rfl (lv_at hl 0 rfl) ?_
    refine va_get (D := D) (ci := 4) (v := .int (bI c_locked)) (C := R_ThumbCore) (T := F_ThumbCore) (N := 8) hx hb hts u_ThumbCore hown hK hP 0 rfl rfl 6 (by decide) (hts _ wf_ThumbCore_84) (fun _ h9 => h9) rfl d_ThumbCore_about_93 ?_
    refine lv_if_eq (tgt := 103) hx hb d_ThumbCore_about_96 (by decide) (fun g_96 => ?_) (fun g_96 => ?_)
    · have hq := hq.trans (if_pos g_96)
      refine lv_iconst (v := 0) hx hb d_ThumbCore_about_103 (by decide) ?_
      exact RET ls 104 d_ThumbCore_about_104 hq
    · have hq := hq.trans (if_neg g_96)
      refine lv_iconst (v := 1) hx hb d_ThumbCore_about_99 (by decide) ?_
      refine lv_goto (tgt := 104) hx hb d_ThumbCore_about_100 (by decide) ?_
      exact RET ls 104 d_ThumbCore_about_104 hq
  have hq := hq.trans (if_neg g_1_4)
  by_cases g_1_5 : x1 = 5
  · have hq := hq.trans (if_pos g_1_5)
    refine tc_tabIn (k := 5) (off := 104) (tgt := 105) hx hb d_ThumbCore_about_1 g_1_5 (by decide) (by decide) (by decide +kernel) (by decide) ?_
    refine lv_aload_n hx hb d_ThumbCore_about_105 rfl (lv_at hl 0 rfl) ?_
    refine va_get (D := D) (ci := 4) (v := .ref h_counter) (C := R_ThumbCore) (T := F_ThumbCore) (N := 8) hx hb hts u_ThumbCore hown hK hP 0 rfl rfl 4 (by decide) (hts _ wf_ThumbCore_48) (fun _ h9 => h9) rfl d_ThumbCore_about_106 ?_
    refine va_getN (D := D) (ci := 0) (v := .int c_counter_number) (C := R_Counter) (T := F_Counter) (N := 3) hx hb hts u_Counter hown hK hP 7 rfl rfl 0 (by decide) (va_Nw.use rfl (hN _ wf_ThumbCore_142)) (fun _ h9 => h9) rfl d_ThumbCore_about_109 ?_
    exact RET ls 112 d_ThumbCore_about_112 hq
  have hq := hq.trans (if_neg g_1_5)
  by_cases g_1_6 : x1 = 6
  · have hq := hq.trans (if_pos g_1_6)
    refine tc_tabIn (k := 6) (off := 112) (tgt := 113) hx hb d_ThumbCore_about_1 g_1_6 (by decide) (by decide) (by decide +kernel) (by decide) ?_
    refine lv_aload_n hx hb d_ThumbCore_about_113 rfl (lv_at hl 0 rfl) ?_
    refine va_get (D := D) (ci := 4) (v := .ref h_exceptions) (C := R_ThumbCore) (T := F_ThumbCore) (N := 8) hx hb hts u_ThumbCore hown hK hP 0 rfl rfl 3 (by decide) (hts _ wf_ThumbCore_41) (fun _ h9 => h9) rfl d_ThumbCore_about_114 ?_
    refine tc_rd (va_runV (As := []) (rest := []) ⟨hx, hb, hml, hown, hts⟩ (c_Exceptions_present l D cI cB cZ h_exceptions h_exceptions_priorities s.heap.size c_exceptions_pending c_exceptions_active c_exceptions_current c_exceptions_masked c_exceptions_priorities) (cwV 0 hts (tc_gV wl_ThumbCore_101 wm_Exceptions_present ws_Exceptions_present wi_Exceptions wc_Exceptions_present) rfl rfl rfl (by decide +kernel) ⟨Nat.le_of_ble_eq_true rfl, Nat.le_of_ble_eq_true rfl⟩) (tc_preV hK hN hP hD [5, 6] rfl (by decide) (q0 := 5) rfl rfl) rfl rfl hl.1 rfl (lv_room (Nat.le_of_ble_eq_true rfl)) d_ThumbCore_about_117 (by decide)) ?_
    refine lv_topi (fun v2 e_v2 => ?_)
    have hq := tc_nm hq e_v2
    exact RET ls 120 d_ThumbCore_about_120 hq
  have hq := hq.trans (if_neg g_1_6)
  have DF : W p l e rm_ThumbCore_about s m ([.ref h, .int x1] : List Value).toArray below meth c s.heap [] 0 0 Q (F0 m 121 ls []) := by
    refine lv_iconst (v := (-1)) hx hb d_ThumbCore_about_121 (by decide) ?_
    exact RET ls 122 d_ThumbCore_about_122 hq
  exact lv_tableOut (x := x1) hx hb d_ThumbCore_about_1 (by have n0 := tc_ne (j := 0) g_1_0 (by decide); have n1 := tc_ne (j := 1) g_1_1 (by decide); have n2 := tc_ne (j := 2) g_1_2 (by decide); have n3 := tc_ne (j := 3) g_1_3 (by decide); have n4 := tc_ne (j := 4) g_1_4 (by decide); have n5 := tc_ne (j := 5) g_1_5 (by decide); have n6 := tc_ne (j := 6) g_1_6 (by decide); omega) (by decide) DF
abbrev rm_ThumbCore_pend : Room := { frames := 2, cells := 0, slots := 0, locals := 45 }
set_option maxHeartbeats 4000000 in
set_option maxRecDepth 100000 in
theorem c_ThumbCore_pend (l : Launch) (D : va_G) (cI cB cZ : ClassId) (h h_memory h_memory_words h_registers h_flags h_exceptions h_exceptions_priorities h_counter sz : Nat) (q_memory_size : Int32) (n_memory_words : Nat) (c_asleep : Bool) (c_locked : Bool) (c_next : Int32) (c_memory_words : Nat → Int32) (c_registers : Nat → Int32) (c_flags_negative : Bool) (c_flags_zero : Bool) (c_flags_carry : Bool) (c_flags_overflow : Bool) (c_exceptions_pending : Int32) (c_exceptions_active : Int32) (c_exceptions_current : Int32) (c_exceptions_masked : Bool) (c_exceptions_priorities : Nat → Int32) (c_counter_number : Int32) (c_counter_reload : Int32) (c_counter_on : Bool) (x1 : Int32) : Met l y_ThumbCore_pend (.code y_ThumbCore_pend b_ThumbCore_pend 2 (some .boolean) :: tcb) rm_ThumbCore_pend (tc_Pw D tcl (tys cI cB cZ) (wd_ThumbCore cI cB cZ h h_memory h_memory_words h_registers h_flags h_exceptions h_exceptions_priorities h_counter q_memory_size n_memory_words c_asleep c_locked c_next c_memory_words c_registers c_flags_negative c_flags_zero c_flags_carry c_flags_overflow c_exceptions_pending c_exceptions_active c_exceptions_current c_exceptions_masked c_exceptions_priorities c_counter_number c_counter_reload c_counter_on) sz ([.ref h, .int x1] : List Value) none) (tc_Qz D tcl (wd_ThumbCore cI cB cZ h h_memory h_memory_words h_registers h_flags h_exceptions h_exceptions_priorities h_counter q_memory_size n_memory_words c_asleep c_locked c_next c_memory_words c_registers c_flags_negative c_flags_zero c_flags_carry c_flags_overflow c_exceptions_pending c_exceptions_active c_exceptions_current c_exceptions_masked c_exceptions_priorities c_counter_number c_counter_reload c_counter_on) sz (fun u => (wd_ThumbCore cI cB cZ h h_memory h_memory_words h_registers h_flags h_exceptions h_exceptions_priorities h_counter q_memory_size n_memory_words c_asleep c_locked c_next c_memory_words c_registers c_flags_negative c_flags_zero c_flags_carry c_flags_overflow u.2 c_exceptions_active c_exceptions_current c_exceptions_masked c_exceptions_priorities c_counter_number c_counter_reload c_counter_on)) (f_ThumbCore_pend c_exceptions_pending x1)) 0 0 (va_A (wd_ThumbCore cI cB cZ h h_memory h_memory_words h_registers h_flags h_exceptions h_exceptions_priorities h_counter q_memory_size n_memory_words c_asleep c_locked c_next c_memory_words c_registers c_flags_negative c_flags_zero c_flags_carry c_flags_overflow c_exceptions_pending c_exceptions_active c_exceptions_current c_exceptions_masked c_exceptions_priorities c_counter_number c_counter_reload c_counter_on) sz) := by
  refine tc_mu_z (by decide) (Nat.le_of_ble_eq_true rfl) ?_
  intro p e s m below meth c A Q ls hx hb hml hts hown hK hN hP hD hA hZ hl RET
  have hS : va_S A s.heap s.heap [] := va_S.rf
  have hl : lv_has ls 2 [(0, .ref h), (1, .int x1)] := hl
  generalize hF : f_ThumbCore_pend c_exceptions_pending x1 = FF at RET
  have J_19 : ∀ (H : Heap) (locs : List Loc) (ls : Array Slot) (c_exceptions_pending : Int32) (y1 : Int32), va_P D tcl (wd_ThumbCore cI cB cZ h h_memory h_memory_words h_registers h_flags h_exceptions h_exceptions_priorities h_counter q_memory_size n_memory_words c_asleep c_locked c_next c_memory_words c_registers c_flags_negative c_flags_zero c_flags_carry c_flags_overflow c_exceptions_pending c_exceptions_active c_exceptions_current c_exceptions_masked c_exceptions_priorities c_counter_number c_counter_reload c_counter_on) H → va_D A (wd_ThumbCore cI cB cZ h h_memory h_memory_words h_registers h_flags h_exceptions h_exceptions_priorities h_counter q_memory_size n_memory_words c_asleep c_locked c_next c_memory_words c_registers c_flags_negative c_flags_zero c_flags_carry c_flags_overflow c_exceptions_pending c_exceptions_active c_exceptions_current c_exceptions_masked c_exceptions_priorities c_counter_number c_counter_reload c_counter_on) → va_S A s.heap H locs → lv_has ls 2 [(0, .ref h), (1, .int y1)] → FF = k_ThumbCore_pend_19 c_exceptions_pending y1 → W p l e rm_ThumbCore_pend s m ([.ref h, .int x1] : List Value).toArray below meth c H locs 0 0 Q (F0 m 19 ls []) := by
    intro H locs ls c_exceptions_pending y1 hP hD hS hl hq
    refine lv_aload_n hx hb d_ThumbCore_pend_19 rfl (lv_at hl 0 rfl) ?_
    refine va_get (D := D) (ci := 4) (v := .ref h_exceptions) (C := R_ThumbCore) (T := F_ThumbCore) (N := 8) hx hb hts u_ThumbCore hown hK hP 0 rfl rfl 3 (by decide) (hts _ wf_ThumbCore_41) (fun _ h9 => h9) rfl d_ThumbCore_pend_20 ?_
    refine lv_iload_n hx hb d_ThumbCore_pend_23 rfl (lv_at hl 1 rfl) ?_
    refine tc_mv (wo := fun u => (wd_ThumbCore cI cB cZ h h_memory h_memory_words h_registers h_flags h_exceptions h_exceptions_priorities h_counter q_memory_size n_memory_words c_asleep c_locked c_next c_memory_words c_registers c_flags_negative c_flags_zero c_flags_carry c_flags_overflow u c_exceptions_active c_exceptions_current c_exceptions_masked c_exceptions_priorities c_counter_number c_counter_reload c_counter_on)) (va_runV (As := [.int y1]) (rest := []) ⟨hx, hb, hml, hown, hts⟩ (c_Exceptions_await l D cI cB cZ h_exceptions h_exceptions_priorities H.size c_exceptions_pending c_exceptions_active c_exceptions_current c_exceptions_masked c_exceptions_priorities y1) (cwV 1 hts (tc_gV wl_ThumbCore_91 wm_Exceptions_await ws_Exceptions_await wi_Exceptions wc_Exceptions_await) rfl rfl rfl (by decide +kernel) ⟨Nat.le_of_ble_eq_true rfl, Nat.le_of_ble_eq_true rfl⟩) (tc_preV hK hN hP hD [5, 6] rfl (by decide) (q0 := 5) rfl rfl) rfl rfl hl.1 rfl (lv_room (Nat.le_of_ble_eq_true rfl)) d_ThumbCore_pend_24 (by decide)) hP hD hS hA [5, 6] [0, 1, 2, 3, 4, 7] [0, 1, 2, 3, 4, 6, 7, 5] rfl rfl (by decide) (by decide) (by decide) (fun _ => rfl) (fun s1 H locs e_s1 hP hD hS => ?_)
    have hq := tc_nm hq e_s1
    have hP : va_P D tcl (wd_ThumbCore cI cB cZ h h_memory h_memory_words h_registers h_flags h_exceptions h_exceptions_priorities h_counter q_memory_size n_memory_words c_asleep c_locked c_next c_memory_words c_registers c_flags_negative c_flags_zero c_flags_carry c_flags_overflow s1 c_exceptions_active c_exceptions_current c_exceptions_masked c_exceptions_priorities c_counter_number c_counter_reload c_counter_on) H := hP
    have hD : va_D A (wd_ThumbCore cI cB cZ h h_memory h_memory_words h_registers h_flags h_exceptions h_exceptions_priorities h_counter q_memory_size n_memory_words c_asleep c_locked c_next c_memory_words c_registers c_flags_negative c_flags_zero c_flags_carry c_flags_overflow s1 c_exceptions_active c_exceptions_current c_exceptions_masked c_exceptions_priorities c_counter_number c_counter_reload c_counter_on) := hD
    refine lv_iconst (v := 1) hx hb d_ThumbCore_pend_27 (by decide) ?_
    exact RET H locs ls 28 (true, s1) d_ThumbCore_pend_28 hP hD hS hq
  have hq : FF = f_ThumbCore_pend c_exceptions_pending x1 := hF.symm
  revert hP hD hS
  suffices G : ∀ (H : Heap) (locs : List Loc), va_P D tcl (wd_ThumbCore cI cB cZ h h_memory h_memory_words h_registers h_flags h_exceptions h_exceptions_priorities h_counter q_memory_size n_memory_words c_asleep c_locked c_next c_memory_words c_registers c_flags_negative c_flags_zero c_flags_carry c_flags_overflow c_exceptions_pending c_exceptions_active c_exceptions_current c_exceptions_masked c_exceptions_priorities c_counter_number c_counter_reload c_counter_on) H → va_D A (wd_ThumbCore cI cB cZ h h_memory h_memory_words h_registers h_flags h_exceptions h_exceptions_priorities h_counter q_memory_size n_memory_words c_asleep c_locked c_next c_memory_words c_registers c_flags_negative c_flags_zero c_flags_carry c_flags_overflow c_exceptions_pending c_exceptions_active c_exceptions_current c_exceptions_masked c_exceptions_priorities c_counter_number c_counter_reload c_counter_on) → va_S A s.heap H locs → W p l e rm_ThumbCore_pend s m ([.ref h, .int x1] : List Value).toArray below meth c H locs 0 0 Q (F0 m 0 ls []) from fun hP hD hS => G _ _ hP hD hS
  intro H locs hP hD hS
  refine lv_iload_n hx hb d_ThumbCore_pend_0 rfl (lv_at hl 1 rfl) ?_
  refine lv_iconst (v := 2) hx hb d_ThumbCore_pend_1 (by decide) ?_
  refine lv_icmp_eq (tgt := 19) hx hb d_ThumbCore_pend_2 (by decide) (fun g_2 => ?_) (fun g_2 => ?_)
  · have hq := hq.trans (if_pos g_2)
    exact J_19 H locs ls c_exceptions_pending x1 hP hD hS (lv_sub hl [0, 1] rfl) hq
  · have hq := hq.trans (if_neg g_2)
    refine lv_iload_n hx hb d_ThumbCore_pend_5 rfl (lv_at hl 1 rfl) ?_
    refine lv_bipush (v := 14) hx hb d_ThumbCore_pend_6 (by decide) ?_
    refine lv_icmp_eq (tgt := 19) hx hb d_ThumbCore_pend_8 (by decide) (fun g_8 => ?_) (fun g_8 => ?_)
    · have hq := hq.trans (if_pos g_8)
      exact J_19 H locs ls c_exceptions_pending x1 hP hD hS (lv_sub hl [0, 1] rfl) hq
    · have hq := hq.trans (if_neg g_8)
      refine lv_iload_n hx hb d_ThumbCore_pend_11 rfl (lv_at hl 1 rfl) ?_
      refine lv_bipush (v := 15) hx hb d_ThumbCore_pend_12 (by decide) ?_
      refine lv_icmp_eq (tgt := 19) hx hb d_ThumbCore_pend_14 (by decide) (fun g_14 => ?_) (fun g_14 => ?_)
      · have hq := hq.trans (if_pos g_14)
        exact J_19 H locs ls c_exceptions_pending x1 hP hD hS (lv_sub hl [0, 1] rfl) hq
      · have hq := hq.trans (if_neg g_14)
        refine lv_iconst (v := 0) hx hb d_ThumbCore_pend_17 (by decide) ?_
        exact RET H locs ls 18 (false, c_exceptions_pending) d_ThumbCore_pend_18 hP hD hS hq
abbrev rm_ThumbCore_exception : Room := { frames := 2, cells := 0, slots := 0, locals := 45 }
set_option maxHeartbeats 4000000 in
set_option maxRecDepth 100000 in
theorem c_ThumbCore_exception (l : Launch) (D : va_G) (cI cB cZ : ClassId) (h h_memory h_memory_words h_registers h_flags h_exceptions h_exceptions_priorities h_counter sz : Nat) (q_memory_size : Int32) (n_memory_words : Nat) (c_asleep : Bool) (c_locked : Bool) (c_next : Int32) (c_memory_words : Nat → Int32) (c_registers : Nat → Int32) (c_flags_negative : Bool) (c_flags_zero : Bool) (c_flags_carry : Bool) (c_flags_overflow : Bool) (c_exceptions_pending : Int32) (c_exceptions_active : Int32) (c_exceptions_current : Int32) (c_exceptions_masked : Bool) (c_exceptions_priorities : Nat → Int32) (c_counter_number : Int32) (c_counter_reload : Int32) (c_counter_on : Bool) (x1 : Int32) : Met l y_ThumbCore_exception (.code y_ThumbCore_exception b_ThumbCore_exception 2 (some .int) :: tcb) rm_ThumbCore_exception (tc_Pw D tcl (tys cI cB cZ) (wd_ThumbCore cI cB cZ h h_memory h_memory_words h_registers h_flags h_exceptions h_exceptions_priorities h_counter q_memory_size n_memory_words c_asleep c_locked c_next c_memory_words c_registers c_flags_negative c_flags_zero c_flags_carry c_flags_overflow c_exceptions_pending c_exceptions_active c_exceptions_current c_exceptions_masked c_exceptions_priorities c_counter_number c_counter_reload c_counter_on) sz ([.ref h, .int x1] : List Value) none) (QcRead (f_ThumbCore_exception c_exceptions_pending c_exceptions_active x1)) 0 0 (fun _ => False) := by
  refine tc_rd_i (by decide) (Nat.le_of_ble_eq_true rfl) ?_
  intro p e s m below meth c Q ls hx hb hml hts hown hK hN hP hD hl RET
  have hl : lv_has ls 2 [(0, .ref h), (1, .int x1)] := hl
  generalize hF : f_ThumbCore_exception c_exceptions_pending c_exceptions_active x1 = FF at RET
  have J_16 : ∀ (ls : Array Slot) (y1 : Int32) (z0 : Bool), lv_has ls 2 [(0, .ref h), (1, .int y1)] → FF = k_ThumbCore_exception_16 c_exceptions_pending c_exceptions_active y1 z0 → W p l e rm_ThumbCore_exception s m ([.ref h, .int x1] : List Value).toArray below meth c s.heap [] 0 0 Q (F0 m 16 ls [.int (bI z0)]) := by
    intro ls y1 z0 hl hq
    refine lv_aload_n hx hb d_ThumbCore_exception_16 rfl (lv_at hl 0 rfl) ?_
    refine va_get (D := D) (ci := 4) (v := .ref h_exceptions) (C := R_ThumbCore) (T := F_ThumbCore) (N := 8) hx hb hts u_ThumbCore hown hK hP 0 rfl rfl 3 (by decide) (hts _ wf_ThumbCore_41) (fun _ h9 => h9) rfl d_ThumbCore_exception_17 ?_
    refine lv_iload_n hx hb d_ThumbCore_exception_20 rfl (lv_at hl 1 rfl) ?_
    refine tc_rd (va_runV (As := [.int y1]) (rest := [.int (bI z0)]) ⟨hx, hb, hml, hown, hts⟩ (c_Exceptions_isActive l D cI cB cZ h_exceptions h_exceptions_priorities s.heap.size c_exceptions_pending c_exceptions_active c_exceptions_current c_exceptions_masked c_exceptions_priorities y1) (cwV 1 hts (tc_gV wl_ThumbCore_149 wm_Exceptions_isActive ws_Exceptions_isActive wi_Exceptions wc_Exceptions_isActive) rfl rfl rfl (by decide +kernel) ⟨Nat.le_of_ble_eq_true rfl, Nat.le_of_ble_eq_true rfl⟩) (tc_preV hK hN hP hD [5, 6] rfl (by decide) (q0 := 5) rfl rfl) rfl rfl hl.1 rfl (lv_room (Nat.le_of_ble_eq_true rfl)) d_ThumbCore_exception_21 (by decide)) ?_
    refine tc_topb (fun v1 e_v1 => ?_)
    have hq := tc_nm hq e_v1
    refine lv_if_eq (tgt := 31) hx hb d_ThumbCore_exception_24 (by decide) (fun g_24 => ?_) (fun g_24 => ?_)
    · have hq := hq.trans (if_pos g_24)
      refine lv_iconst (v := 0) hx hb d_ThumbCore_exception_31 (by decide) ?_
      refine lv_iadd hx hb d_ThumbCore_exception_32 ?_
      exact RET ls 33 d_ThumbCore_exception_33 hq
    · have hq := hq.trans (if_neg g_24)
      refine lv_iconst (v := 2) hx hb d_ThumbCore_exception_27 (by decide) ?_
      refine lv_goto (tgt := 32) hx hb d_ThumbCore_exception_28 (by decide) ?_
      refine lv_iadd hx hb d_ThumbCore_exception_32 ?_
      exact RET ls 33 d_ThumbCore_exception_33 hq
  have hq : FF = f_ThumbCore_exception c_exceptions_pending c_exceptions_active x1 := hF.symm
  refine lv_aload_n hx hb d_ThumbCore_exception_0 rfl (lv_at hl 0 rfl) ?_
  refine va_get (D := D) (ci := 4) (v := .ref h_exceptions) (C := R_ThumbCore) (T := F_ThumbCore) (N := 8) hx hb hts u_ThumbCore hown hK hP 0 rfl rfl 3 (by decide) (hts _ wf_ThumbCore_41) (fun _ h9 => h9) rfl d_ThumbCore_exception_1 ?_
  refine lv_iload_n hx hb d_ThumbCore_exception_4 rfl (lv_at hl 1 rfl) ?_
  refine tc_rd (va_runV (As := [.int x1]) (rest := []) ⟨hx, hb, hml, hown, hts⟩ (c_Exceptions_isPending l D cI cB cZ h_exceptions h_exceptions_priorities s.heap.size c_exceptions_pending c_exceptions_active c_exceptions_current c_exceptions_masked c_exceptions_priorities x1) (cwV 1 hts (tc_gV wl_ThumbCore_145 wm_Exceptions_isPending ws_Exceptions_isPending wi_Exceptions wc_Exceptions_isPending) rfl rfl rfl (by decide +kernel) ⟨Nat.le_of_ble_eq_true rfl, Nat.le_of_ble_eq_true rfl⟩) (tc_preV hK hN hP hD [5, 6] rfl (by decide) (q0 := 5) rfl rfl) rfl rfl hl.1 rfl (lv_room (Nat.le_of_ble_eq_true rfl)) d_ThumbCore_exception_5 (by decide)) ?_
  refine tc_topb (fun v1 e_v1 => ?_)
  have hq := tc_nm hq e_v1
  refine lv_if_eq (tgt := 15) hx hb d_ThumbCore_exception_8 (by decide) (fun g_8 => ?_) (fun g_8 => ?_)
  · have hq := hq.trans (if_pos g_8)
    refine lv_iconst (v := 0) hx hb d_ThumbCore_exception_15 (by decide) ?_
    exact J_16 ls x1 false (lv_sub hl [0, 1] rfl) hq
  · have hq := hq.trans (if_neg g_8)
    refine lv_iconst (v := 1) hx hb d_ThumbCore_exception_11 (by decide) ?_
    refine lv_goto (tgt := 16) hx hb d_ThumbCore_exception_12 (by decide) ?_
    exact J_16 ls x1 true (lv_sub hl [0, 1] rfl) hq
abbrev rm_ThumbCore_priority : Room := { frames := 1, cells := 0, slots := 0, locals := 24 }
set_option maxHeartbeats 4000000 in
set_option maxRecDepth 100000 in
theorem c_ThumbCore_priority (l : Launch) (D : va_G) (cI cB cZ : ClassId) (h h_memory h_memory_words h_registers h_flags h_exceptions h_exceptions_priorities h_counter sz : Nat) (q_memory_size : Int32) (n_memory_words : Nat) (c_asleep : Bool) (c_locked : Bool) (c_next : Int32) (c_memory_words : Nat → Int32) (c_registers : Nat → Int32) (c_flags_negative : Bool) (c_flags_zero : Bool) (c_flags_carry : Bool) (c_flags_overflow : Bool) (c_exceptions_pending : Int32) (c_exceptions_active : Int32) (c_exceptions_current : Int32) (c_exceptions_masked : Bool) (c_exceptions_priorities : Nat → Int32) (c_counter_number : Int32) (c_counter_reload : Int32) (c_counter_on : Bool) (x1 : Int32) (x2 : Int32) : Met l y_ThumbCore_priority (.code y_ThumbCore_priority b_ThumbCore_priority 4 (some .boolean) :: tcb) rm_ThumbCore_priority (tc_Pw D tcl (tys cI cB cZ) (wd_ThumbCore cI cB cZ h h_memory h_memory_words h_registers h_flags h_exceptions h_exceptions_priorities h_counter q_memory_size n_memory_words c_asleep c_locked c_next c_memory_words c_registers c_flags_negative c_flags_zero c_flags_carry c_flags_overflow c_exceptions_pending c_exceptions_active c_exceptions_current c_exceptions_masked c_exceptions_priorities c_counter_number c_counter_reload c_counter_on) sz ([.ref h, .int x1, .int x2] : List Value) none) (tc_Qz D tcl (wd_ThumbCore cI cB cZ h h_memory h_memory_words h_registers h_flags h_exceptions h_exceptions_priorities h_counter q_memory_size n_memory_words c_asleep c_locked c_next c_memory_words c_registers c_flags_negative c_flags_zero c_flags_carry c_flags_overflow c_exceptions_pending c_exceptions_active c_exceptions_current c_exceptions_masked c_exceptions_priorities c_counter_number c_counter_reload c_counter_on) sz (fun u => (wd_ThumbCore cI cB cZ h h_memory h_memory_words h_registers h_flags h_exceptions h_exceptions_priorities h_counter q_memory_size n_memory_words c_asleep c_locked c_next c_memory_words c_registers c_flags_negative c_flags_zero c_flags_carry c_flags_overflow c_exceptions_pending c_exceptions_active c_exceptions_current c_exceptions_masked u.2 c_counter_number c_counter_reload c_counter_on)) (f_ThumbCore_priority c_exceptions_priorities x1 x2)) 0 0 (va_A (wd_ThumbCore cI cB cZ h h_memory h_memory_words h_registers h_flags h_exceptions h_exceptions_priorities h_counter q_memory_size n_memory_words c_asleep c_locked c_next c_memory_words c_registers c_flags_negative c_flags_zero c_flags_carry c_flags_overflow c_exceptions_pending c_exceptions_active c_exceptions_current c_exceptions_masked c_exceptions_priorities c_counter_number c_counter_reload c_counter_on) sz) := by
  refine tc_mu_z (by decide) (Nat.le_of_ble_eq_true rfl) ?_
  intro p e s m below meth c A Q ls hx hb hml hts hown hK hN hP hD hA hZ hl RET
  have hS : va_S A s.heap s.heap [] := va_S.rf
  have hl : lv_has ls 4 [(0, .ref h), (1, .int x1), (2, .int x2)] := hl
  generalize hF : f_ThumbCore_priority c_exceptions_priorities x1 x2 = FF at RET
  have J_23 : ∀ (H : Heap) (locs : List Loc) (ls : Array Slot) (c_exceptions_priorities : Nat → Int32) (y1 : Int32) (y2 : Int32) (z0 : Bool), va_P D tcl (wd_ThumbCore cI cB cZ h h_memory h_memory_words h_registers h_flags h_exceptions h_exceptions_priorities h_counter q_memory_size n_memory_words c_asleep c_locked c_next c_memory_words c_registers c_flags_negative c_flags_zero c_flags_carry c_flags_overflow c_exceptions_pending c_exceptions_active c_exceptions_current c_exceptions_masked c_exceptions_priorities c_counter_number c_counter_reload c_counter_on) H → va_D A (wd_ThumbCore cI cB cZ h h_memory h_memory_words h_registers h_flags h_exceptions h_exceptions_priorities h_counter q_memory_size n_memory_words c_asleep c_locked c_next c_memory_words c_registers c_flags_negative c_flags_zero c_flags_carry c_flags_overflow c_exceptions_pending c_exceptions_active c_exceptions_current c_exceptions_masked c_exceptions_priorities c_counter_number c_counter_reload c_counter_on) → va_S A s.heap H locs → lv_has ls 4 [(0, .ref h), (1, .int y1), (2, .int y2)] → FF = k_ThumbCore_priority_23 c_exceptions_priorities y1 y2 z0 → (z0 = true → vp_in y1 16) → W p l e rm_ThumbCore_priority s m ([.ref h, .int x1, .int x2] : List Value).toArray below meth c H locs 0 0 Q (F0 m 23 ls [.int (bI z0)]) := by
    intro H locs ls c_exceptions_priorities y1 y2 z0 hP hD hS hl hq hp
    refine lv_istore_n (lv' := [(3, .int (bI z0)), (0, .ref h), (1, .int y1), (2, .int y2)]) hx hb d_ThumbCore_priority_23 rfl hl (by decide) rfl (fun ls hl => ?_)
    refine lv_iload_n hx hb d_ThumbCore_priority_24 rfl (lv_at hl 0 rfl) ?_
    refine lv_if_eq (tgt := 37) hx hb d_ThumbCore_priority_25 (by decide) (fun g_25 => ?_) (fun g_25 => ?_)
    · have hq := hq.trans (if_pos g_25)
      refine lv_iconst (v := 0) hx hb d_ThumbCore_priority_37 (by decide) ?_
      exact RET H locs ls 38 (false, c_exceptions_priorities) d_ThumbCore_priority_38 hP hD hS hq
    · have hq := hq.trans (if_neg g_25)
      refine lv_iload_n hx hb d_ThumbCore_priority_28 rfl (lv_at hl 3 rfl) ?_
      refine lv_if_lt (tgt := 37) hx hb d_ThumbCore_priority_29 (by decide) (fun g_29 => ?_) (fun g_29 => ?_)
      · have hq := hq.trans (if_pos g_29)
        refine lv_iconst (v := 0) hx hb d_ThumbCore_priority_37 (by decide) ?_
        exact RET H locs ls 38 (false, c_exceptions_priorities) d_ThumbCore_priority_38 hP hD hS hq
      · have hq := hq.trans (if_neg g_29)
        refine lv_iload_n hx hb d_ThumbCore_priority_32 rfl (lv_at hl 3 rfl) ?_
        refine lv_iconst (v := 3) hx hb d_ThumbCore_priority_33 (by decide) ?_
        refine lv_icmp_le (tgt := 39) hx hb d_ThumbCore_priority_34 (by decide) (fun g_34 => ?_) (fun g_34 => ?_)
        · have hq := hq.trans (if_pos g_34)
          refine lv_aload_n hx hb d_ThumbCore_priority_39 rfl (lv_at hl 1 rfl) ?_
          refine va_get (D := D) (ci := 4) (v := .ref h_exceptions) (C := R_ThumbCore) (T := F_ThumbCore) (N := 8) hx hb hts u_ThumbCore hown hK hP 0 rfl rfl 3 (by decide) (hts _ wf_ThumbCore_41) (fun _ h9 => h9) rfl d_ThumbCore_priority_40 ?_
          refine va_getN (D := D) (ci := 1) (v := .ref h_exceptions_priorities) (C := R_Exceptions) (T := F_Exceptions) (N := 5) hx hb hts u_Exceptions hown hK hP 5 rfl rfl 0 (by decide) (va_Nw.use rfl (hN _ wf_ThumbCore_152)) (fun _ h9 => h9) rfl d_ThumbCore_priority_43 ?_
          refine lv_iload_n hx hb d_ThumbCore_priority_46 rfl (lv_at hl 2 rfl) ?_
          refine lv_iload_n hx hb d_ThumbCore_priority_47 rfl (lv_at hl 3 rfl) ?_
          refine va_iast hx hb hK hP hD hS 6 0 rfl rfl (hp (tc_bT rfl g_25)) d_ThumbCore_priority_48 (fun H locs hP hD hS => ?_)
          have hP : va_P D tcl (wd_ThumbCore cI cB cZ h h_memory h_memory_words h_registers h_flags h_exceptions h_exceptions_priorities h_counter q_memory_size n_memory_words c_asleep c_locked c_next c_memory_words c_registers c_flags_negative c_flags_zero c_flags_carry c_flags_overflow c_exceptions_pending c_exceptions_active c_exceptions_current c_exceptions_masked (upd c_exceptions_priorities y1.toNatClampNeg y2) c_counter_number c_counter_reload c_counter_on) H := hP
          have hD : va_D A (wd_ThumbCore cI cB cZ h h_memory h_memory_words h_registers h_flags h_exceptions h_exceptions_priorities h_counter q_memory_size n_memory_words c_asleep c_locked c_next c_memory_words c_registers c_flags_negative c_flags_zero c_flags_carry c_flags_overflow c_exceptions_pending c_exceptions_active c_exceptions_current c_exceptions_masked (upd c_exceptions_priorities y1.toNatClampNeg y2) c_counter_number c_counter_reload c_counter_on) := hD
          refine lv_iconst (v := 1) hx hb d_ThumbCore_priority_49 (by decide) ?_
          exact RET H locs ls 50 (true, (upd c_exceptions_priorities y1.toNatClampNeg y2)) d_ThumbCore_priority_50 hP hD hS hq
        · have hq := hq.trans (if_neg g_34)
          refine lv_iconst (v := 0) hx hb d_ThumbCore_priority_37 (by decide) ?_
          exact RET H locs ls 38 (false, c_exceptions_priorities) d_ThumbCore_priority_38 hP hD hS hq
  have J_18 : ∀ (H : Heap) (locs : List Loc) (ls : Array Slot) (c_exceptions_priorities : Nat → Int32) (y1 : Int32) (y2 : Int32), va_P D tcl (wd_ThumbCore cI cB cZ h h_memory h_memory_words h_registers h_flags h_exceptions h_exceptions_priorities h_counter q_memory_size n_memory_words c_asleep c_locked c_next c_memory_words c_registers c_flags_negative c_flags_zero c_flags_carry c_flags_overflow c_exceptions_pending c_exceptions_active c_exceptions_current c_exceptions_masked c_exceptions_priorities c_counter_number c_counter_reload c_counter_on) H → va_D A (wd_ThumbCore cI cB cZ h h_memory h_memory_words h_registers h_flags h_exceptions h_exceptions_priorities h_counter q_memory_size n_memory_words c_asleep c_locked c_next c_memory_words c_registers c_flags_negative c_flags_zero c_flags_carry c_flags_overflow c_exceptions_pending c_exceptions_active c_exceptions_current c_exceptions_masked c_exceptions_priorities c_counter_number c_counter_reload c_counter_on) → va_S A s.heap H locs → lv_has ls 4 [(0, .ref h), (1, .int y1), (2, .int y2)] → FF = k_ThumbCore_priority_18 c_exceptions_priorities y1 y2 → (vp_in y1 16) → W p l e rm_ThumbCore_priority s m ([.ref h, .int x1, .int x2] : List Value).toArray below meth c H locs 0 0 Q (F0 m 18 ls []) := by
    intro H locs ls c_exceptions_priorities y1 y2 hP hD hS hl hq hp
    refine lv_iconst (v := 1) hx hb d_ThumbCore_priority_18 (by decide) ?_
    refine lv_goto (tgt := 23) hx hb d_ThumbCore_priority_19 (by decide) ?_
    exact J_23 H locs ls c_exceptions_priorities y1 y2 true hP hD hS (lv_sub hl [0, 1, 2] rfl) hq (fun _ => hp)
  have hq : FF = f_ThumbCore_priority c_exceptions_priorities x1 x2 := hF.symm
  revert hP hD hS
  suffices G : ∀ (H : Heap) (locs : List Loc), va_P D tcl (wd_ThumbCore cI cB cZ h h_memory h_memory_words h_registers h_flags h_exceptions h_exceptions_priorities h_counter q_memory_size n_memory_words c_asleep c_locked c_next c_memory_words c_registers c_flags_negative c_flags_zero c_flags_carry c_flags_overflow c_exceptions_pending c_exceptions_active c_exceptions_current c_exceptions_masked c_exceptions_priorities c_counter_number c_counter_reload c_counter_on) H → va_D A (wd_ThumbCore cI cB cZ h h_memory h_memory_words h_registers h_flags h_exceptions h_exceptions_priorities h_counter q_memory_size n_memory_words c_asleep c_locked c_next c_memory_words c_registers c_flags_negative c_flags_zero c_flags_carry c_flags_overflow c_exceptions_pending c_exceptions_active c_exceptions_current c_exceptions_masked c_exceptions_priorities c_counter_number c_counter_reload c_counter_on) → va_S A s.heap H locs → W p l e rm_ThumbCore_priority s m ([.ref h, .int x1, .int x2] : List Value).toArray below meth c H locs 0 0 Q (F0 m 0 ls []) from fun hP hD hS => G _ _ hP hD hS
  intro H locs hP hD hS
  refine lv_iload_n hx hb d_ThumbCore_priority_0 rfl (lv_at hl 1 rfl) ?_
  refine lv_bipush (v := 11) hx hb d_ThumbCore_priority_1 (by decide) ?_
  refine lv_icmp_eq (tgt := 18) hx hb d_ThumbCore_priority_3 (by decide) (fun g_3 => ?_) (fun g_3 => ?_)
  · have hq := hq.trans (if_pos g_3)
    exact J_18 H locs ls c_exceptions_priorities x1 x2 hP hD hS (lv_sub hl [0, 1, 2] rfl) hq (tc_eqin g_3 (by show ¬ (_ ∨ _); decide))
  · have hq := hq.trans (if_neg g_3)
    refine lv_iload_n hx hb d_ThumbCore_priority_6 rfl (lv_at hl 1 rfl) ?_
    refine lv_bipush (v := 14) hx hb d_ThumbCore_priority_7 (by decide) ?_
    refine lv_icmp_eq (tgt := 18) hx hb d_ThumbCore_priority_9 (by decide) (fun g_9 => ?_) (fun g_9 => ?_)
    · have hq := hq.trans (if_pos g_9)
      exact J_18 H locs ls c_exceptions_priorities x1 x2 hP hD hS (lv_sub hl [0, 1, 2] rfl) hq (tc_eqin g_9 (by show ¬ (_ ∨ _); decide))
    · have hq := hq.trans (if_neg g_9)
      refine lv_iload_n hx hb d_ThumbCore_priority_12 rfl (lv_at hl 1 rfl) ?_
      refine lv_bipush (v := 15) hx hb d_ThumbCore_priority_13 (by decide) ?_
      refine lv_icmp_ne (tgt := 22) hx hb d_ThumbCore_priority_15 (by decide) (fun g_15 => ?_) (fun g_15 => ?_)
      · have hq := hq.trans (if_pos g_15)
        refine lv_iconst (v := 0) hx hb d_ThumbCore_priority_22 (by decide) ?_
        exact J_23 H locs ls c_exceptions_priorities x1 x2 false hP hD hS (lv_sub hl [0, 1, 2] rfl) hq (fun h => by cases h)
      · have hq := hq.trans (if_neg (fun g => g g_15))
        exact J_18 H locs ls c_exceptions_priorities x1 x2 hP hD hS (lv_sub hl [0, 1, 2] rfl) hq (tc_eqin g_15 (by show ¬ (_ ∨ _); decide))
abbrev rm_ThumbCore_tick : Room := { frames := 2, cells := 0, slots := 0, locals := 46 }
set_option maxHeartbeats 4000000 in
set_option maxRecDepth 100000 in
theorem c_ThumbCore_tick (l : Launch) (D : va_G) (cI cB cZ : ClassId) (h h_memory h_memory_words h_registers h_flags h_exceptions h_exceptions_priorities h_counter sz : Nat) (q_memory_size : Int32) (n_memory_words : Nat) (c_asleep : Bool) (c_locked : Bool) (c_next : Int32) (c_memory_words : Nat → Int32) (c_registers : Nat → Int32) (c_flags_negative : Bool) (c_flags_zero : Bool) (c_flags_carry : Bool) (c_flags_overflow : Bool) (c_exceptions_pending : Int32) (c_exceptions_active : Int32) (c_exceptions_current : Int32) (c_exceptions_masked : Bool) (c_exceptions_priorities : Nat → Int32) (c_counter_number : Int32) (c_counter_reload : Int32) (c_counter_on : Bool) (x1 : Int32) (x2 : Bool) : Met l y_ThumbCore_tick (.code y_ThumbCore_tick b_ThumbCore_tick 3 (some .boolean) :: tcb) rm_ThumbCore_tick (tc_Pw D tcl (tys cI cB cZ) (wd_ThumbCore cI cB cZ h h_memory h_memory_words h_registers h_flags h_exceptions h_exceptions_priorities h_counter q_memory_size n_memory_words c_asleep c_locked c_next c_memory_words c_registers c_flags_negative c_flags_zero c_flags_carry c_flags_overflow c_exceptions_pending c_exceptions_active c_exceptions_current c_exceptions_masked c_exceptions_priorities c_counter_number c_counter_reload c_counter_on) sz ([.ref h, .int x1, .int (bI x2)] : List Value) none) (tc_Qz D tcl (wd_ThumbCore cI cB cZ h h_memory h_memory_words h_registers h_flags h_exceptions h_exceptions_priorities h_counter q_memory_size n_memory_words c_asleep c_locked c_next c_memory_words c_registers c_flags_negative c_flags_zero c_flags_carry c_flags_overflow c_exceptions_pending c_exceptions_active c_exceptions_current c_exceptions_masked c_exceptions_priorities c_counter_number c_counter_reload c_counter_on) sz (fun u => (wd_ThumbCore cI cB cZ h h_memory h_memory_words h_registers h_flags h_exceptions h_exceptions_priorities h_counter q_memory_size n_memory_words c_asleep c_locked c_next c_memory_words c_registers c_flags_negative c_flags_zero c_flags_carry c_flags_overflow c_exceptions_pending c_exceptions_active c_exceptions_current c_exceptions_masked c_exceptions_priorities u.2.1 u.2.2.1 u.2.2.2)) (f_ThumbCore_tick c_counter_number c_counter_reload c_counter_on x1 x2)) 0 0 (va_A (wd_ThumbCore cI cB cZ h h_memory h_memory_words h_registers h_flags h_exceptions h_exceptions_priorities h_counter q_memory_size n_memory_words c_asleep c_locked c_next c_memory_words c_registers c_flags_negative c_flags_zero c_flags_carry c_flags_overflow c_exceptions_pending c_exceptions_active c_exceptions_current c_exceptions_masked c_exceptions_priorities c_counter_number c_counter_reload c_counter_on) sz) := by
  refine tc_mu_z (by decide) (Nat.le_of_ble_eq_true rfl) ?_
  intro p e s m below meth c A Q ls hx hb hml hts hown hK hN hP hD hA hZ hl RET
  have hS : va_S A s.heap s.heap [] := va_S.rf
  have hl : lv_has ls 3 [(0, .ref h), (1, .int x1), (2, .int (bI x2))] := hl
  generalize hF : f_ThumbCore_tick c_counter_number c_counter_reload c_counter_on x1 x2 = FF at RET
  have hq : FF = f_ThumbCore_tick c_counter_number c_counter_reload c_counter_on x1 x2 := hF.symm
  revert hP hD hS
  suffices G : ∀ (H : Heap) (locs : List Loc), va_P D tcl (wd_ThumbCore cI cB cZ h h_memory h_memory_words h_registers h_flags h_exceptions h_exceptions_priorities h_counter q_memory_size n_memory_words c_asleep c_locked c_next c_memory_words c_registers c_flags_negative c_flags_zero c_flags_carry c_flags_overflow c_exceptions_pending c_exceptions_active c_exceptions_current c_exceptions_masked c_exceptions_priorities c_counter_number c_counter_reload c_counter_on) H → va_D A (wd_ThumbCore cI cB cZ h h_memory h_memory_words h_registers h_flags h_exceptions h_exceptions_priorities h_counter q_memory_size n_memory_words c_asleep c_locked c_next c_memory_words c_registers c_flags_negative c_flags_zero c_flags_carry c_flags_overflow c_exceptions_pending c_exceptions_active c_exceptions_current c_exceptions_masked c_exceptions_priorities c_counter_number c_counter_reload c_counter_on) → va_S A s.heap H locs → W p l e rm_ThumbCore_tick s m ([.ref h, .int x1, .int (bI x2)] : List Value).toArray below meth c H locs 0 0 Q (F0 m 0 ls []) from fun hP hD hS => G _ _ hP hD hS
  intro H locs hP hD hS
  refine lv_iload_n hx hb d_ThumbCore_tick_0 rfl (lv_at hl 1 rfl) ?_
  refine lv_if_lt (tgt := 11) hx hb d_ThumbCore_tick_1 (by decide) (fun g_1 => ?_) (fun g_1 => ?_)
  · have hq := hq.trans (if_pos g_1)
    refine lv_iconst (v := 0) hx hb d_ThumbCore_tick_11 (by decide) ?_
    exact RET H locs ls 12 (false, c_counter_number, c_counter_reload, c_counter_on) d_ThumbCore_tick_12 hP hD hS hq
  · have hq := hq.trans (if_neg g_1)
    refine lv_iload_n hx hb d_ThumbCore_tick_4 rfl (lv_at hl 1 rfl) ?_
    refine lv_sipush (v := 1000) hx hb d_ThumbCore_tick_5 (by decide) ?_
    refine lv_icmp_le (tgt := 13) hx hb d_ThumbCore_tick_8 (by decide) (fun g_8 => ?_) (fun g_8 => ?_)
    · have hq := hq.trans (if_pos g_8)
      refine lv_aload_n hx hb d_ThumbCore_tick_13 rfl (lv_at hl 0 rfl) ?_
      refine va_get (D := D) (ci := 4) (v := .ref h_counter) (C := R_ThumbCore) (T := F_ThumbCore) (N := 8) hx hb hts u_ThumbCore hown hK hP 0 rfl rfl 4 (by decide) (hts _ wf_ThumbCore_48) (fun _ h9 => h9) rfl d_ThumbCore_tick_14 ?_
      refine lv_iload_n hx hb d_ThumbCore_tick_17 rfl (lv_at hl 1 rfl) ?_
      refine lv_iload_n hx hb d_ThumbCore_tick_18 rfl (lv_at hl 2 rfl) ?_
      refine tc_mv (wo := fun u => (wd_ThumbCore cI cB cZ h h_memory h_memory_words h_registers h_flags h_exceptions h_exceptions_priorities h_counter q_memory_size n_memory_words c_asleep c_locked c_next c_memory_words c_registers c_flags_negative c_flags_zero c_flags_carry c_flags_overflow c_exceptions_pending c_exceptions_active c_exceptions_current c_exceptions_masked c_exceptions_priorities u.1 u.2.1 u.2.2)) (va_runV (As := [.int x1, .int (bI x2)]) (rest := []) ⟨hx, hb, hml, hown, hts⟩ (c_Counter_begin l D cI cB cZ h_counter H.size c_counter_number c_counter_reload c_counter_on x1 x2) (cwV 2 hts (tc_gV wl_ThumbCore_76 wm_Counter_begin ws_Counter_begin wi_Counter wc_Counter_begin) rfl rfl rfl (by decide +kernel) ⟨Nat.le_of_ble_eq_true rfl, Nat.le_of_ble_eq_true rfl⟩) (tc_preV hK hN hP hD [7] rfl (by decide) (q0 := 7) rfl rfl) rfl rfl hl.1 rfl (lv_room (Nat.le_of_ble_eq_true rfl)) d_ThumbCore_tick_19 (by decide)) hP hD hS hA [7] [0, 1, 2, 3, 4, 5, 6] [0, 1, 2, 3, 4, 5, 6, 7] rfl rfl (by decide) (by decide) (by decide) (fun _ => rfl) (fun u H locs hu hP hD hS => ?_)
      obtain ⟨s1, s2, s3⟩ := u
      have hq := hq.trans (un3_eq hu _)
      have e_s1 := hu
      have hP : va_P D tcl (wd_ThumbCore cI cB cZ h h_memory h_memory_words h_registers h_flags h_exceptions h_exceptions_priorities h_counter q_memory_size n_memory_words c_asleep c_locked c_next c_memory_words c_registers c_flags_negative c_flags_zero c_flags_carry c_flags_overflow c_exceptions_pending c_exceptions_active c_exceptions_current c_exceptions_masked c_exceptions_priorities s1 s2 s3) H := hP
      have hD : va_D A (wd_ThumbCore cI cB cZ h h_memory h_memory_words h_registers h_flags h_exceptions h_exceptions_priorities h_counter q_memory_size n_memory_words c_asleep c_locked c_next c_memory_words c_registers c_flags_negative c_flags_zero c_flags_carry c_flags_overflow c_exceptions_pending c_exceptions_active c_exceptions_current c_exceptions_masked c_exceptions_priorities s1 s2 s3) := hD
      refine lv_iconst (v := 1) hx hb d_ThumbCore_tick_22 (by decide) ?_
      exact RET H locs ls 23 (true, s1, s2, s3) d_ThumbCore_tick_23 hP hD hS hq
    · have hq := hq.trans (if_neg g_8)
      refine lv_iconst (v := 0) hx hb d_ThumbCore_tick_11 (by decide) ?_
      exact RET H locs ls 12 (false, c_counter_number, c_counter_reload, c_counter_on) d_ThumbCore_tick_12 hP hD hS hq

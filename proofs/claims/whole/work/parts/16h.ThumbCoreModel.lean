abbrev rm_ThumbCoreModel_exception : Room := { frames := 1, cells := 0, slots := 0, locals := 24 }
set_option maxHeartbeats 4000000 in
set_option maxRecDepth 100000 in
theorem c_ThumbCoreModel_exception (l : Launch) (D : va_G) (cI cB cZ : ClassId) (h h_memory h_reg h_kept h_pending h_active h_priorities sz : Nat) (q_size : Int32) (c_n : Bool) (c_z : Bool) (c_c : Bool) (c_v : Bool) (c_keptFlags : Int32) (c_bad : Bool) (c_h : Int32) (c_after : Int32) (c_entered : Bool) (c_mask : Bool) (c_asleep : Bool) (c_lockup : Bool) (c_counts : Bool) (c_counter : Int32) (c_reload : Int32) (c_current : Int32) (c_memory : Nat → Int32) (c_reg : Nat → Int32) (c_kept : Nat → Int32) (c_pending : Nat → Bool) (c_active : Nat → Bool) (c_priorities : Nat → Int32) (x1 : Int32) : Met l y_ThumbCoreModel_exception (.code y_ThumbCoreModel_exception b_ThumbCoreModel_exception 2 (some .int) :: tcb) rm_ThumbCoreModel_exception (tc_Pw D tcl (tys cI cB cZ) (wd_ThumbCoreModel cI cB cZ h h_memory h_reg h_kept h_pending h_active h_priorities q_size c_n c_z c_c c_v c_keptFlags c_bad c_h c_after c_entered c_mask c_asleep c_lockup c_counts c_counter c_reload c_current c_memory c_reg c_kept c_pending c_active c_priorities) sz ([.ref h, .int x1] : List Value) none) (QcRead (f_ThumbCoreModel_exception c_pending c_active x1)) 0 0 (fun _ => False) := by
  refine tc_rd_i (by decide) (Nat.le_of_ble_eq_true rfl) ?_
  intro p e s m below meth c Q ls hx hb hml hts hown hK hN hP hD hl RET
  have hl : lv_has ls 2 [(0, .ref h), (1, .int x1)] := hl
  generalize hF : f_ThumbCoreModel_exception c_pending c_active x1 = FF at RET
  have J_28 : ∀ (ls : Array Slot) (y1 : Int32) (z0 : Bool), lv_has ls 2 [(0, .ref h), (1, .int y1)] → FF = k_ThumbCoreModel_exception_28 c_pending c_active y1 z0 → (vp_in y1 16) → W p l e rm_ThumbCoreModel_exception s m ([.ref h, .int x1] : List Value).toArray below meth c s.heap [] 0 0 Q (F0 m 28 ls [.int (bI z0)]) := by
    intro ls y1 z0 hl hq hi_y1
    refine lv_aload_n hx hb d_ThumbCoreModel_exception_28 rfl (lv_at hl 0 rfl) ?_
    refine va_get (D := D) (ci := 5) (v := .ref h_active) (C := R_ThumbCoreModel) (T := F_ThumbCoreModel) (N := 23) hx hb hts u_ThumbCoreModel hown hK hP 0 rfl rfl 21 (by decide) (hts _ wf_ThumbCoreModel_24) (fun _ h9 => h9) rfl d_ThumbCoreModel_exception_29 ?_
    refine lv_iload_n hx hb d_ThumbCoreModel_exception_32 rfl (lv_at hl 1 rfl) ?_
    refine va_zald hx hb hK hP 5 2 rfl rfl hi_y1 d_ThumbCoreModel_exception_33 ?_
    refine lv_if_eq (tgt := 41) hx hb d_ThumbCoreModel_exception_34 (by decide) (fun g_34 => ?_) (fun g_34 => ?_)
    · have hq := hq.trans (if_pos g_34)
      refine lv_iconst (v := 0) hx hb d_ThumbCoreModel_exception_41 (by decide) ?_
      refine lv_iadd hx hb d_ThumbCoreModel_exception_42 ?_
      exact RET ls 43 d_ThumbCoreModel_exception_43 hq
    · have hq := hq.trans (if_neg g_34)
      refine lv_iconst (v := 2) hx hb d_ThumbCoreModel_exception_37 (by decide) ?_
      refine lv_goto (tgt := 42) hx hb d_ThumbCoreModel_exception_38 (by decide) ?_
      refine lv_iadd hx hb d_ThumbCoreModel_exception_42 ?_
      exact RET ls 43 d_ThumbCoreModel_exception_43 hq
  have hq : FF = f_ThumbCoreModel_exception c_pending c_active x1 := hF.symm
  refine lv_iload_n hx hb d_ThumbCoreModel_exception_0 rfl (lv_at hl 1 rfl) ?_
  refine lv_if_lt (tgt := 10) hx hb d_ThumbCoreModel_exception_1 (by decide) (fun g_1 => ?_) (fun g_1 => ?_)
  · have hq := hq.trans (if_pos g_1)
    refine lv_iconst (v := 0) hx hb d_ThumbCoreModel_exception_10 (by decide) ?_
    refine lv_goto (tgt := 43) hx hb d_ThumbCoreModel_exception_11 (by decide) ?_
    exact RET ls 43 d_ThumbCoreModel_exception_43 hq
  · have hq := hq.trans (if_neg g_1)
    refine lv_iload_n hx hb d_ThumbCoreModel_exception_4 rfl (lv_at hl 1 rfl) ?_
    refine lv_bipush (v := 15) hx hb d_ThumbCoreModel_exception_5 (by decide) ?_
    refine lv_icmp_le (tgt := 14) hx hb d_ThumbCoreModel_exception_7 (by decide) (fun g_7 => ?_) (fun g_7 => ?_)
    · have hq := hq.trans (if_pos g_7)
      refine lv_aload_n hx hb d_ThumbCoreModel_exception_14 rfl (lv_at hl 0 rfl) ?_
      refine va_get (D := D) (ci := 5) (v := .ref h_pending) (C := R_ThumbCoreModel) (T := F_ThumbCoreModel) (N := 23) hx hb hts u_ThumbCoreModel hown hK hP 0 rfl rfl 20 (by decide) (hts _ wf_ThumbCoreModel_20) (fun _ h9 => h9) rfl d_ThumbCoreModel_exception_15 ?_
      refine lv_iload_n hx hb d_ThumbCoreModel_exception_18 rfl (lv_at hl 1 rfl) ?_
      refine va_zald hx hb hK hP 4 2 rfl rfl (tc_gin2 g_1 g_7) d_ThumbCoreModel_exception_19 ?_
      refine lv_if_eq (tgt := 27) hx hb d_ThumbCoreModel_exception_20 (by decide) (fun g_20 => ?_) (fun g_20 => ?_)
      · have hq := hq.trans (if_pos g_20)
        refine lv_iconst (v := 0) hx hb d_ThumbCoreModel_exception_27 (by decide) ?_
        exact J_28 ls x1 false (lv_sub hl [0, 1] rfl) hq (tc_gin2 g_1 g_7)
      · have hq := hq.trans (if_neg g_20)
        refine lv_iconst (v := 1) hx hb d_ThumbCoreModel_exception_23 (by decide) ?_
        refine lv_goto (tgt := 28) hx hb d_ThumbCoreModel_exception_24 (by decide) ?_
        exact J_28 ls x1 true (lv_sub hl [0, 1] rfl) hq (tc_gin2 g_1 g_7)
    · have hq := hq.trans (if_neg g_7)
      refine lv_iconst (v := 0) hx hb d_ThumbCoreModel_exception_10 (by decide) ?_
      refine lv_goto (tgt := 43) hx hb d_ThumbCoreModel_exception_11 (by decide) ?_
      exact RET ls 43 d_ThumbCoreModel_exception_43 hq
abbrev rm_ThumbCoreModel_priority : Room := { frames := 1, cells := 0, slots := 0, locals := 24 }
set_option maxHeartbeats 4000000 in
set_option maxRecDepth 100000 in
theorem c_ThumbCoreModel_priority (l : Launch) (D : va_G) (cI cB cZ : ClassId) (h h_memory h_reg h_kept h_pending h_active h_priorities sz : Nat) (q_size : Int32) (c_n : Bool) (c_z : Bool) (c_c : Bool) (c_v : Bool) (c_keptFlags : Int32) (c_bad : Bool) (c_h : Int32) (c_after : Int32) (c_entered : Bool) (c_mask : Bool) (c_asleep : Bool) (c_lockup : Bool) (c_counts : Bool) (c_counter : Int32) (c_reload : Int32) (c_current : Int32) (c_memory : Nat → Int32) (c_reg : Nat → Int32) (c_kept : Nat → Int32) (c_pending : Nat → Bool) (c_active : Nat → Bool) (c_priorities : Nat → Int32) (x1 : Int32) (x2 : Int32) : Met l y_ThumbCoreModel_priority (.code y_ThumbCoreModel_priority b_ThumbCoreModel_priority 3 (some .boolean) :: tcb) rm_ThumbCoreModel_priority (tc_Pw D tcl (tys cI cB cZ) (wd_ThumbCoreModel cI cB cZ h h_memory h_reg h_kept h_pending h_active h_priorities q_size c_n c_z c_c c_v c_keptFlags c_bad c_h c_after c_entered c_mask c_asleep c_lockup c_counts c_counter c_reload c_current c_memory c_reg c_kept c_pending c_active c_priorities) sz ([.ref h, .int x1, .int x2] : List Value) none) (tc_Qz D tcl (wd_ThumbCoreModel cI cB cZ h h_memory h_reg h_kept h_pending h_active h_priorities q_size c_n c_z c_c c_v c_keptFlags c_bad c_h c_after c_entered c_mask c_asleep c_lockup c_counts c_counter c_reload c_current c_memory c_reg c_kept c_pending c_active c_priorities) sz (fun u => (wd_ThumbCoreModel cI cB cZ h h_memory h_reg h_kept h_pending h_active h_priorities q_size c_n c_z c_c c_v c_keptFlags c_bad c_h c_after c_entered c_mask c_asleep c_lockup c_counts c_counter c_reload c_current c_memory c_reg c_kept c_pending c_active u.2)) (f_ThumbCoreModel_priority c_priorities x1 x2)) 0 0 (va_A (wd_ThumbCoreModel cI cB cZ h h_memory h_reg h_kept h_pending h_active h_priorities q_size c_n c_z c_c c_v c_keptFlags c_bad c_h c_after c_entered c_mask c_asleep c_lockup c_counts c_counter c_reload c_current c_memory c_reg c_kept c_pending c_active c_priorities) sz) := by
  refine tc_mu_z (by decide) (Nat.le_of_ble_eq_true rfl) ?_
  intro p e s m below meth c A Q ls hx hb hml hts hown hK hN hP hD hA hZ hl RET
  have hS : va_S A s.heap s.heap [] := va_S.rf
  have hl : lv_has ls 3 [(0, .ref h), (1, .int x1), (2, .int x2)] := hl
  generalize hF : f_ThumbCoreModel_priority c_priorities x1 x2 = FF at RET
  have J_18 : ∀ (H : Heap) (locs : List Loc) (ls : Array Slot) (c_priorities : Nat → Int32) (y1 : Int32) (y2 : Int32), va_P D tcl (wd_ThumbCoreModel cI cB cZ h h_memory h_reg h_kept h_pending h_active h_priorities q_size c_n c_z c_c c_v c_keptFlags c_bad c_h c_after c_entered c_mask c_asleep c_lockup c_counts c_counter c_reload c_current c_memory c_reg c_kept c_pending c_active c_priorities) H → va_D A (wd_ThumbCoreModel cI cB cZ h h_memory h_reg h_kept h_pending h_active h_priorities q_size c_n c_z c_c c_v c_keptFlags c_bad c_h c_after c_entered c_mask c_asleep c_lockup c_counts c_counter c_reload c_current c_memory c_reg c_kept c_pending c_active c_priorities) → va_S A s.heap H locs → lv_has ls 3 [(0, .ref h), (1, .int y1), (2, .int y2)] → FF = k_ThumbCoreModel_priority_18 c_priorities y1 y2 → (vp_in y1 16) → W p l e rm_ThumbCoreModel_priority s m ([.ref h, .int x1, .int x2] : List Value).toArray below meth c H locs 0 0 Q (F0 m 18 ls []) := by
    intro H locs ls c_priorities y1 y2 hP hD hS hl hq hi_y1
    refine lv_iload_n hx hb d_ThumbCoreModel_priority_18 rfl (lv_at hl 2 rfl) ?_
    refine lv_if_lt (tgt := 27) hx hb d_ThumbCoreModel_priority_19 (by decide) (fun g_19 => ?_) (fun g_19 => ?_)
    · have hq := hq.trans (if_pos g_19)
      refine lv_iconst (v := 0) hx hb d_ThumbCoreModel_priority_27 (by decide) ?_
      exact RET H locs ls 28 (false, c_priorities) d_ThumbCoreModel_priority_28 hP hD hS hq
    · have hq := hq.trans (if_neg g_19)
      refine lv_iload_n hx hb d_ThumbCoreModel_priority_22 rfl (lv_at hl 2 rfl) ?_
      refine lv_iconst (v := 3) hx hb d_ThumbCoreModel_priority_23 (by decide) ?_
      refine lv_icmp_le (tgt := 29) hx hb d_ThumbCoreModel_priority_24 (by decide) (fun g_24 => ?_) (fun g_24 => ?_)
      · have hq := hq.trans (if_pos g_24)
        refine lv_aload_n hx hb d_ThumbCoreModel_priority_29 rfl (lv_at hl 0 rfl) ?_
        refine va_get (D := D) (ci := 5) (v := .ref h_priorities) (C := R_ThumbCoreModel) (T := F_ThumbCoreModel) (N := 23) hx hb hts u_ThumbCoreModel hown hK hP 0 rfl rfl 22 (by decide) (hts _ wf_ThumbCoreModel_27) (fun _ h9 => h9) rfl d_ThumbCoreModel_priority_30 ?_
        refine lv_iload_n hx hb d_ThumbCoreModel_priority_33 rfl (lv_at hl 1 rfl) ?_
        refine lv_iload_n hx hb d_ThumbCoreModel_priority_34 rfl (lv_at hl 2 rfl) ?_
        refine va_iast hx hb hK hP hD hS 6 0 rfl rfl hi_y1 d_ThumbCoreModel_priority_35 (fun H locs hP hD hS => ?_)
        have hP : va_P D tcl (wd_ThumbCoreModel cI cB cZ h h_memory h_reg h_kept h_pending h_active h_priorities q_size c_n c_z c_c c_v c_keptFlags c_bad c_h c_after c_entered c_mask c_asleep c_lockup c_counts c_counter c_reload c_current c_memory c_reg c_kept c_pending c_active (upd c_priorities y1.toNatClampNeg y2)) H := hP
        have hD : va_D A (wd_ThumbCoreModel cI cB cZ h h_memory h_reg h_kept h_pending h_active h_priorities q_size c_n c_z c_c c_v c_keptFlags c_bad c_h c_after c_entered c_mask c_asleep c_lockup c_counts c_counter c_reload c_current c_memory c_reg c_kept c_pending c_active (upd c_priorities y1.toNatClampNeg y2)) := hD
        refine lv_iconst (v := 1) hx hb d_ThumbCoreModel_priority_36 (by decide) ?_
        exact RET H locs ls 37 (true, (upd c_priorities y1.toNatClampNeg y2)) d_ThumbCoreModel_priority_37 hP hD hS hq
      · have hq := hq.trans (if_neg g_24)
        refine lv_iconst (v := 0) hx hb d_ThumbCoreModel_priority_27 (by decide) ?_
        exact RET H locs ls 28 (false, c_priorities) d_ThumbCoreModel_priority_28 hP hD hS hq
  have hq : FF = f_ThumbCoreModel_priority c_priorities x1 x2 := hF.symm
  revert hP hD hS
  suffices G : ∀ (H : Heap) (locs : List Loc), va_P D tcl (wd_ThumbCoreModel cI cB cZ h h_memory h_reg h_kept h_pending h_active h_priorities q_size c_n c_z c_c c_v c_keptFlags c_bad c_h c_after c_entered c_mask c_asleep c_lockup c_counts c_counter c_reload c_current c_memory c_reg c_kept c_pending c_active c_priorities) H → va_D A (wd_ThumbCoreModel cI cB cZ h h_memory h_reg h_kept h_pending h_active h_priorities q_size c_n c_z c_c c_v c_keptFlags c_bad c_h c_after c_entered c_mask c_asleep c_lockup c_counts c_counter c_reload c_current c_memory c_reg c_kept c_pending c_active c_priorities) → va_S A s.heap H locs → W p l e rm_ThumbCoreModel_priority s m ([.ref h, .int x1, .int x2] : List Value).toArray below meth c H locs 0 0 Q (F0 m 0 ls []) from fun hP hD hS => G _ _ hP hD hS
  intro H locs hP hD hS
  refine lv_iload_n hx hb d_ThumbCoreModel_priority_0 rfl (lv_at hl 1 rfl) ?_
  refine lv_bipush (v := 11) hx hb d_ThumbCoreModel_priority_1 (by decide) ?_
  refine lv_icmp_eq (tgt := 18) hx hb d_ThumbCoreModel_priority_3 (by decide) (fun g_3 => ?_) (fun g_3 => ?_)
  · have hq := hq.trans (if_pos g_3)
    exact J_18 H locs ls c_priorities x1 x2 hP hD hS (lv_sub hl [0, 1, 2] rfl) hq (tc_eqin g_3 (by show ¬ (_ ∨ _); decide))
  · have hq := hq.trans (if_neg g_3)
    refine lv_iload_n hx hb d_ThumbCoreModel_priority_6 rfl (lv_at hl 1 rfl) ?_
    refine lv_bipush (v := 14) hx hb d_ThumbCoreModel_priority_7 (by decide) ?_
    refine lv_icmp_eq (tgt := 18) hx hb d_ThumbCoreModel_priority_9 (by decide) (fun g_9 => ?_) (fun g_9 => ?_)
    · have hq := hq.trans (if_pos g_9)
      exact J_18 H locs ls c_priorities x1 x2 hP hD hS (lv_sub hl [0, 1, 2] rfl) hq (tc_eqin g_9 (by show ¬ (_ ∨ _); decide))
    · have hq := hq.trans (if_neg g_9)
      refine lv_iload_n hx hb d_ThumbCoreModel_priority_12 rfl (lv_at hl 1 rfl) ?_
      refine lv_bipush (v := 15) hx hb d_ThumbCoreModel_priority_13 (by decide) ?_
      refine lv_icmp_ne (tgt := 27) hx hb d_ThumbCoreModel_priority_15 (by decide) (fun g_15 => ?_) (fun g_15 => ?_)
      · have hq := hq.trans (if_pos g_15)
        refine lv_iconst (v := 0) hx hb d_ThumbCoreModel_priority_27 (by decide) ?_
        exact RET H locs ls 28 (false, c_priorities) d_ThumbCoreModel_priority_28 hP hD hS hq
      · have hq := hq.trans (if_neg (fun g => g g_15))
        exact J_18 H locs ls c_priorities x1 x2 hP hD hS (lv_sub hl [0, 1, 2] rfl) hq (tc_eqin g_15 (by show ¬ (_ ∨ _); decide))
abbrev rm_ThumbCoreModel_tick : Room := { frames := 1, cells := 0, slots := 0, locals := 24 }
set_option maxHeartbeats 4000000 in
set_option maxRecDepth 100000 in
theorem c_ThumbCoreModel_tick (l : Launch) (D : va_G) (cI cB cZ : ClassId) (h h_memory h_reg h_kept h_pending h_active h_priorities sz : Nat) (q_size : Int32) (c_n : Bool) (c_z : Bool) (c_c : Bool) (c_v : Bool) (c_keptFlags : Int32) (c_bad : Bool) (c_h : Int32) (c_after : Int32) (c_entered : Bool) (c_mask : Bool) (c_asleep : Bool) (c_lockup : Bool) (c_counts : Bool) (c_counter : Int32) (c_reload : Int32) (c_current : Int32) (c_memory : Nat → Int32) (c_reg : Nat → Int32) (c_kept : Nat → Int32) (c_pending : Nat → Bool) (c_active : Nat → Bool) (c_priorities : Nat → Int32) (x1 : Int32) (x2 : Bool) : Met l y_ThumbCoreModel_tick (.code y_ThumbCoreModel_tick b_ThumbCoreModel_tick 3 (some .boolean) :: tcb) rm_ThumbCoreModel_tick (tc_Pw D tcl (tys cI cB cZ) (wd_ThumbCoreModel cI cB cZ h h_memory h_reg h_kept h_pending h_active h_priorities q_size c_n c_z c_c c_v c_keptFlags c_bad c_h c_after c_entered c_mask c_asleep c_lockup c_counts c_counter c_reload c_current c_memory c_reg c_kept c_pending c_active c_priorities) sz ([.ref h, .int x1, .int (bI x2)] : List Value) none) (tc_Qz D tcl (wd_ThumbCoreModel cI cB cZ h h_memory h_reg h_kept h_pending h_active h_priorities q_size c_n c_z c_c c_v c_keptFlags c_bad c_h c_after c_entered c_mask c_asleep c_lockup c_counts c_counter c_reload c_current c_memory c_reg c_kept c_pending c_active c_priorities) sz (fun u => (wd_ThumbCoreModel cI cB cZ h h_memory h_reg h_kept h_pending h_active h_priorities q_size c_n c_z c_c c_v c_keptFlags c_bad c_h c_after c_entered c_mask c_asleep c_lockup u.2.1 u.2.2.1 u.2.2.2 c_current c_memory c_reg c_kept c_pending c_active c_priorities)) (f_ThumbCoreModel_tick c_counts c_counter c_reload x1 x2)) 0 0 (va_A (wd_ThumbCoreModel cI cB cZ h h_memory h_reg h_kept h_pending h_active h_priorities q_size c_n c_z c_c c_v c_keptFlags c_bad c_h c_after c_entered c_mask c_asleep c_lockup c_counts c_counter c_reload c_current c_memory c_reg c_kept c_pending c_active c_priorities) sz) := by
  refine tc_mu_z (by decide) (Nat.le_of_ble_eq_true rfl) ?_
  intro p e s m below meth c A Q ls hx hb hml hts hown hK hN hP hD hA hZ hl RET
  have hS : va_S A s.heap s.heap [] := va_S.rf
  have hl : lv_has ls 3 [(0, .ref h), (1, .int x1), (2, .int (bI x2))] := hl
  generalize hF : f_ThumbCoreModel_tick c_counts c_counter c_reload x1 x2 = FF at RET
  have hq : FF = f_ThumbCoreModel_tick c_counts c_counter c_reload x1 x2 := hF.symm
  revert hP hD hS
  suffices G : ∀ (H : Heap) (locs : List Loc), va_P D tcl (wd_ThumbCoreModel cI cB cZ h h_memory h_reg h_kept h_pending h_active h_priorities q_size c_n c_z c_c c_v c_keptFlags c_bad c_h c_after c_entered c_mask c_asleep c_lockup c_counts c_counter c_reload c_current c_memory c_reg c_kept c_pending c_active c_priorities) H → va_D A (wd_ThumbCoreModel cI cB cZ h h_memory h_reg h_kept h_pending h_active h_priorities q_size c_n c_z c_c c_v c_keptFlags c_bad c_h c_after c_entered c_mask c_asleep c_lockup c_counts c_counter c_reload c_current c_memory c_reg c_kept c_pending c_active c_priorities) → va_S A s.heap H locs → W p l e rm_ThumbCoreModel_tick s m ([.ref h, .int x1, .int (bI x2)] : List Value).toArray below meth c H locs 0 0 Q (F0 m 0 ls []) from fun hP hD hS => G _ _ hP hD hS
  intro H locs hP hD hS
  refine lv_iload_n hx hb d_ThumbCoreModel_tick_0 rfl (lv_at hl 1 rfl) ?_
  refine lv_if_lt (tgt := 11) hx hb d_ThumbCoreModel_tick_1 (by decide) (fun g_1 => ?_) (fun g_1 => ?_)
  · have hq := hq.trans (if_pos g_1)
    refine lv_iconst (v := 0) hx hb d_ThumbCoreModel_tick_11 (by decide) ?_
    exact RET H locs ls 12 (false, c_counts, c_counter, c_reload) d_ThumbCoreModel_tick_12 hP hD hS hq
  · have hq := hq.trans (if_neg g_1)
    refine lv_iload_n hx hb d_ThumbCoreModel_tick_4 rfl (lv_at hl 1 rfl) ?_
    refine lv_sipush (v := 1000) hx hb d_ThumbCoreModel_tick_5 (by decide) ?_
    refine lv_icmp_le (tgt := 13) hx hb d_ThumbCoreModel_tick_8 (by decide) (fun g_8 => ?_) (fun g_8 => ?_)
    · have hq := hq.trans (if_pos g_8)
      refine lv_aload_n hx hb d_ThumbCoreModel_tick_13 rfl (lv_at hl 0 rfl) ?_
      refine lv_iload_n hx hb d_ThumbCoreModel_tick_14 rfl (lv_at hl 1 rfl) ?_
      refine va_put (D := D) (ci := 5) (v := .int x1) (ty := .int) (C := R_ThumbCoreModel) (T := F_ThumbCoreModel) (N := 23) hx hb hts u_ThumbCoreModel t_ThumbCoreModel t_ThumbCoreModel_ok n_ThumbCoreModel hown hK hP hD hS 0 rfl rfl 18 (by decide) (hts _ wf_ThumbCoreModel_68) (fun _ h9 => h9) rfl (by decide +kernel) rfl rfl (Nat.le_of_ble_eq_true rfl) d_ThumbCoreModel_tick_15 (fun H locs hP hD hS => ?_)
      have hP : va_P D tcl (wd_ThumbCoreModel cI cB cZ h h_memory h_reg h_kept h_pending h_active h_priorities q_size c_n c_z c_c c_v c_keptFlags c_bad c_h c_after c_entered c_mask c_asleep c_lockup c_counts c_counter x1 c_current c_memory c_reg c_kept c_pending c_active c_priorities) H := hP
      have hD : va_D A (wd_ThumbCoreModel cI cB cZ h h_memory h_reg h_kept h_pending h_active h_priorities q_size c_n c_z c_c c_v c_keptFlags c_bad c_h c_after c_entered c_mask c_asleep c_lockup c_counts c_counter x1 c_current c_memory c_reg c_kept c_pending c_active c_priorities) := hD
      refine lv_aload_n hx hb d_ThumbCoreModel_tick_18 rfl (lv_at hl 0 rfl) ?_
      refine lv_iconst (v := 0) hx hb d_ThumbCoreModel_tick_19 (by decide) ?_
      refine va_put (D := D) (ci := 5) (v := .int 0) (ty := .int) (C := R_ThumbCoreModel) (T := F_ThumbCoreModel) (N := 23) hx hb hts u_ThumbCoreModel t_ThumbCoreModel t_ThumbCoreModel_ok n_ThumbCoreModel hown hK hP hD hS 0 rfl rfl 17 (by decide) (hts _ wf_ThumbCoreModel_65) (fun _ h9 => h9) rfl (by decide +kernel) rfl rfl (Nat.le_of_ble_eq_true rfl) d_ThumbCoreModel_tick_20 (fun H locs hP hD hS => ?_)
      have hP : va_P D tcl (wd_ThumbCoreModel cI cB cZ h h_memory h_reg h_kept h_pending h_active h_priorities q_size c_n c_z c_c c_v c_keptFlags c_bad c_h c_after c_entered c_mask c_asleep c_lockup c_counts 0 x1 c_current c_memory c_reg c_kept c_pending c_active c_priorities) H := hP
      have hD : va_D A (wd_ThumbCoreModel cI cB cZ h h_memory h_reg h_kept h_pending h_active h_priorities q_size c_n c_z c_c c_v c_keptFlags c_bad c_h c_after c_entered c_mask c_asleep c_lockup c_counts 0 x1 c_current c_memory c_reg c_kept c_pending c_active c_priorities) := hD
      refine lv_aload_n hx hb d_ThumbCoreModel_tick_23 rfl (lv_at hl 0 rfl) ?_
      refine lv_iload_n hx hb d_ThumbCoreModel_tick_24 rfl (lv_at hl 2 rfl) ?_
      refine va_put (D := D) (ci := 5) (v := .int (bI x2)) (ty := .boolean) (C := R_ThumbCoreModel) (T := F_ThumbCoreModel) (N := 23) hx hb hts u_ThumbCoreModel t_ThumbCoreModel t_ThumbCoreModel_ok n_ThumbCoreModel hown hK hP hD hS 0 rfl rfl 16 (by decide) (hts _ wf_ThumbCoreModel_62) (fun _ h9 => h9) rfl (by decide +kernel) (tc_nb x2) (tc_fb x2) (Nat.le_of_ble_eq_true rfl) d_ThumbCoreModel_tick_25 (fun H locs hP hD hS => ?_)
      have hP : va_P D tcl (wd_ThumbCoreModel cI cB cZ h h_memory h_reg h_kept h_pending h_active h_priorities q_size c_n c_z c_c c_v c_keptFlags c_bad c_h c_after c_entered c_mask c_asleep c_lockup x2 0 x1 c_current c_memory c_reg c_kept c_pending c_active c_priorities) H := hP
      have hD : va_D A (wd_ThumbCoreModel cI cB cZ h h_memory h_reg h_kept h_pending h_active h_priorities q_size c_n c_z c_c c_v c_keptFlags c_bad c_h c_after c_entered c_mask c_asleep c_lockup x2 0 x1 c_current c_memory c_reg c_kept c_pending c_active c_priorities) := hD
      refine lv_iconst (v := 1) hx hb d_ThumbCoreModel_tick_28 (by decide) ?_
      exact RET H locs ls 29 (true, x2, 0, x1) d_ThumbCoreModel_tick_29 hP hD hS hq
    · have hq := hq.trans (if_neg g_8)
      refine lv_iconst (v := 0) hx hb d_ThumbCoreModel_tick_11 (by decide) ?_
      exact RET H locs ls 12 (false, c_counts, c_counter, c_reload) d_ThumbCoreModel_tick_12 hP hD hS hq

abbrev rm_ThumbCoreModel_returns : Room := { frames := 2, cells := 0, slots := 0, locals := 46 }
set_option maxHeartbeats 4000000 in
set_option maxRecDepth 100000 in
theorem c_ThumbCoreModel_returns (l : Launch) (D : va_G) (cI cB cZ : ClassId) (h h_memory h_reg h_kept h_pending h_active h_priorities sz : Nat) (q_size : Int32) (c_n : Bool) (c_z : Bool) (c_c : Bool) (c_v : Bool) (c_keptFlags : Int32) (c_bad : Bool) (c_h : Int32) (c_after : Int32) (c_entered : Bool) (c_mask : Bool) (c_asleep : Bool) (c_lockup : Bool) (c_counts : Bool) (c_counter : Int32) (c_reload : Int32) (c_current : Int32) (c_memory : Nat → Int32) (c_reg : Nat → Int32) (c_kept : Nat → Int32) (c_pending : Nat → Bool) (c_active : Nat → Bool) (c_priorities : Nat → Int32) (x1 : Int32) : Met l y_ThumbCoreModel_returns (.code y_ThumbCoreModel_returns b_ThumbCoreModel_returns 2 (some .boolean) :: tcb) rm_ThumbCoreModel_returns (tc_Pw D tcl (tys cI cB cZ) (wd_ThumbCoreModel cI cB cZ h h_memory h_reg h_kept h_pending h_active h_priorities q_size c_n c_z c_c c_v c_keptFlags c_bad c_h c_after c_entered c_mask c_asleep c_lockup c_counts c_counter c_reload c_current c_memory c_reg c_kept c_pending c_active c_priorities) sz ([.ref h, .int x1] : List Value) none) (QcRead (bI (f_ThumbCoreModel_returns c_active x1))) 0 0 (fun _ => False) := by
  refine tc_rd_z (by decide) (Nat.le_of_ble_eq_true rfl) ?_
  intro p e s m below meth c Q ls hx hb hml hts hown hK hN hP hD hl RET
  have hl : lv_has ls 2 [(0, .ref h), (1, .int x1)] := hl
  generalize hF : f_ThumbCoreModel_returns c_active x1 = FF at RET
  have hq : FF = f_ThumbCoreModel_returns c_active x1 := hF.symm
  refine lv_aload_n hx hb d_ThumbCoreModel_returns_0 rfl (lv_at hl 0 rfl) ?_
  refine tc_rd (va_runV (As := []) (rest := []) ⟨hx, hb, hml, hown, hts⟩ (c_ThumbCoreModel_actives l D cI cB cZ h h_memory h_reg h_kept h_pending h_active h_priorities s.heap.size q_size c_n c_z c_c c_v c_keptFlags c_bad c_h c_after c_entered c_mask c_asleep c_lockup c_counts c_counter c_reload c_current c_memory c_reg c_kept c_pending c_active c_priorities) (cwV 0 hts (tc_gV wl_ThumbCoreModel_104 wm_ThumbCoreModel_actives ws_ThumbCoreModel_actives wi_ThumbCoreModel wc_ThumbCoreModel_actives) rfl rfl rfl (by decide +kernel) ⟨Nat.le_of_ble_eq_true rfl, Nat.le_of_ble_eq_true rfl⟩) (tc_preV hK hN hP hD [0, 1, 2, 3, 4, 5, 6] rfl (by decide) (q0 := 0) rfl rfl) rfl rfl hl.1 rfl (lv_room (Nat.le_of_ble_eq_true rfl)) d_ThumbCoreModel_returns_1 (by decide)) ?_
  refine lv_topi (fun v1 e_v1 => ?_)
  have hq := tc_nm hq e_v1
  refine lv_if_le (tgt := 23) hx hb d_ThumbCoreModel_returns_4 (by decide) (fun g_4 => ?_) (fun g_4 => ?_)
  · have hq := hq.trans (if_pos g_4)
    refine lv_iconst (v := 0) hx hb d_ThumbCoreModel_returns_23 (by decide) ?_
    exact RET ls 24 d_ThumbCoreModel_returns_24 hq
  · have hq := hq.trans (if_neg g_4)
    refine lv_iload_n hx hb d_ThumbCoreModel_returns_7 rfl (lv_at hl 1 rfl) ?_
    refine lv_bipush (v := (-7)) hx hb d_ThumbCoreModel_returns_8 (by decide) ?_
    refine lv_icmp_eq (tgt := 19) hx hb d_ThumbCoreModel_returns_10 (by decide) (fun g_10 => ?_) (fun g_10 => ?_)
    · have hq := hq.trans (if_pos g_10)
      refine lv_iconst (v := 1) hx hb d_ThumbCoreModel_returns_19 (by decide) ?_
      refine lv_goto (tgt := 24) hx hb d_ThumbCoreModel_returns_20 (by decide) ?_
      exact RET ls 24 d_ThumbCoreModel_returns_24 hq
    · have hq := hq.trans (if_neg g_10)
      refine lv_iload_n hx hb d_ThumbCoreModel_returns_13 rfl (lv_at hl 1 rfl) ?_
      refine lv_bipush (v := (-15)) hx hb d_ThumbCoreModel_returns_14 (by decide) ?_
      refine lv_icmp_ne (tgt := 23) hx hb d_ThumbCoreModel_returns_16 (by decide) (fun g_16 => ?_) (fun g_16 => ?_)
      · have hq := hq.trans (if_pos g_16)
        refine lv_iconst (v := 0) hx hb d_ThumbCoreModel_returns_23 (by decide) ?_
        exact RET ls 24 d_ThumbCoreModel_returns_24 hq
      · have hq := hq.trans (if_neg (fun g => g g_16))
        refine lv_iconst (v := 1) hx hb d_ThumbCoreModel_returns_19 (by decide) ?_
        refine lv_goto (tgt := 24) hx hb d_ThumbCoreModel_returns_20 (by decide) ?_
        exact RET ls 24 d_ThumbCoreModel_returns_24 hq
abbrev rm_ThumbCoreModel_goTo : Room := { frames := 4, cells := 0, slots := 0, locals := 96 }
set_option maxHeartbeats 4000000 in
set_option maxRecDepth 100000 in
theorem c_ThumbCoreModel_goTo (l : Launch) (D : va_G) (cI cB cZ : ClassId) (h h_memory h_reg h_kept h_pending h_active h_priorities sz : Nat) (q_size : Int32) (c_n : Bool) (c_z : Bool) (c_c : Bool) (c_v : Bool) (c_keptFlags : Int32) (c_bad : Bool) (c_h : Int32) (c_after : Int32) (c_entered : Bool) (c_mask : Bool) (c_asleep : Bool) (c_lockup : Bool) (c_counts : Bool) (c_counter : Int32) (c_reload : Int32) (c_current : Int32) (c_memory : Nat → Int32) (c_reg : Nat → Int32) (c_kept : Nat → Int32) (c_pending : Nat → Bool) (c_active : Nat → Bool) (c_priorities : Nat → Int32) (x1 : Int32) (hm : tc_memR q_size) (hi_c_current : vp_in c_current 16) : Met l y_ThumbCoreModel_goTo (.code y_ThumbCoreModel_goTo b_ThumbCoreModel_goTo 2 none :: tcb) rm_ThumbCoreModel_goTo (tc_Pw D tcl (tys cI cB cZ) (wd_ThumbCoreModel cI cB cZ h h_memory h_reg h_kept h_pending h_active h_priorities q_size c_n c_z c_c c_v c_keptFlags c_bad c_h c_after c_entered c_mask c_asleep c_lockup c_counts c_counter c_reload c_current c_memory c_reg c_kept c_pending c_active c_priorities) sz ([.ref h, .int x1] : List Value) none) (tc_Qv D tcl (wd_ThumbCoreModel cI cB cZ h h_memory h_reg h_kept h_pending h_active h_priorities q_size c_n c_z c_c c_v c_keptFlags c_bad c_h c_after c_entered c_mask c_asleep c_lockup c_counts c_counter c_reload c_current c_memory c_reg c_kept c_pending c_active c_priorities) sz (fun u => (wd_ThumbCoreModel cI cB cZ h h_memory h_reg h_kept h_pending h_active h_priorities q_size u.1 u.2.1 u.2.2.1 u.2.2.2.1 c_keptFlags u.2.2.2.2.1 c_h u.2.2.2.2.2.1 c_entered c_mask c_asleep c_lockup c_counts c_counter c_reload u.2.2.2.2.2.2.1 c_memory u.2.2.2.2.2.2.2.1 c_kept c_pending u.2.2.2.2.2.2.2.2 c_priorities)) (f_ThumbCoreModel_goTo q_size c_memory c_n c_z c_c c_v c_bad c_after c_current c_reg c_active x1)) 0 0 (va_A (wd_ThumbCoreModel cI cB cZ h h_memory h_reg h_kept h_pending h_active h_priorities q_size c_n c_z c_c c_v c_keptFlags c_bad c_h c_after c_entered c_mask c_asleep c_lockup c_counts c_counter c_reload c_current c_memory c_reg c_kept c_pending c_active c_priorities) sz) := by
  refine tc_mu_v (by decide) (Nat.le_of_ble_eq_true rfl) ?_
  intro p e s m below meth c A Q ls hx hb hml hts hown hK hN hP hD hA hZ hl RET
  have hS : va_S A s.heap s.heap [] := va_S.rf
  have hl : lv_has ls 2 [(0, .ref h), (1, .int x1)] := hl
  generalize hF : f_ThumbCoreModel_goTo q_size c_memory c_n c_z c_c c_v c_bad c_after c_current c_reg c_active x1 = FF at RET
  have hq : FF = f_ThumbCoreModel_goTo q_size c_memory c_n c_z c_c c_v c_bad c_after c_current c_reg c_active x1 := hF.symm
  revert hP hD hS
  suffices G : ∀ (H : Heap) (locs : List Loc), va_P D tcl (wd_ThumbCoreModel cI cB cZ h h_memory h_reg h_kept h_pending h_active h_priorities q_size c_n c_z c_c c_v c_keptFlags c_bad c_h c_after c_entered c_mask c_asleep c_lockup c_counts c_counter c_reload c_current c_memory c_reg c_kept c_pending c_active c_priorities) H → va_D A (wd_ThumbCoreModel cI cB cZ h h_memory h_reg h_kept h_pending h_active h_priorities q_size c_n c_z c_c c_v c_keptFlags c_bad c_h c_after c_entered c_mask c_asleep c_lockup c_counts c_counter c_reload c_current c_memory c_reg c_kept c_pending c_active c_priorities) → va_S A s.heap H locs → W p l e rm_ThumbCoreModel_goTo s m ([.ref h, .int x1] : List Value).toArray below meth c H locs 0 0 Q (F0 m 0 ls []) from fun hP hD hS => G _ _ hP hD hS
  intro H locs hP hD hS
  refine lv_aload_n hx hb d_ThumbCoreModel_goTo_0 rfl (lv_at hl 0 rfl) ?_
  refine lv_iload_n hx hb d_ThumbCoreModel_goTo_1 rfl (lv_at hl 1 rfl) ?_
  refine tc_rd (va_runV (As := [.int x1]) (rest := []) ⟨hx, hb, hml, hown, hts⟩ (c_ThumbCoreModel_returns l D cI cB cZ h h_memory h_reg h_kept h_pending h_active h_priorities H.size q_size c_n c_z c_c c_v c_keptFlags c_bad c_h c_after c_entered c_mask c_asleep c_lockup c_counts c_counter c_reload c_current c_memory c_reg c_kept c_pending c_active c_priorities x1) (cwV 1 hts (tc_gV wl_ThumbCoreModel_118 wm_ThumbCoreModel_returns ws_ThumbCoreModel_returns wi_ThumbCoreModel wc_ThumbCoreModel_returns) rfl rfl rfl (by decide +kernel) ⟨Nat.le_of_ble_eq_true rfl, Nat.le_of_ble_eq_true rfl⟩) (tc_preV hK hN hP hD [0, 1, 2, 3, 4, 5, 6] rfl (by decide) (q0 := 0) rfl rfl) rfl rfl hl.1 rfl (lv_room (Nat.le_of_ble_eq_true rfl)) d_ThumbCoreModel_goTo_2 (by decide)) ?_
  refine tc_topb (fun v1 e_v1 => ?_)
  have hq := tc_nm hq e_v1
  refine lv_if_eq (tgt := 16) hx hb d_ThumbCoreModel_goTo_5 (by decide) (fun g_5 => ?_) (fun g_5 => ?_)
  · have hq := hq.trans (if_pos g_5)
    refine lv_iload_n hx hb d_ThumbCoreModel_goTo_16 rfl (lv_at hl 1 rfl) ?_
    refine lv_iconst (v := 1) hx hb d_ThumbCoreModel_goTo_17 (by decide) ?_
    refine lv_iand hx hb d_ThumbCoreModel_goTo_18 ?_
    refine lv_if_ne (tgt := 30) hx hb d_ThumbCoreModel_goTo_19 (by decide) (fun g_19 => ?_) (fun g_19 => ?_)
    · have hq := hq.trans (if_pos g_19)
      refine lv_aload_n hx hb d_ThumbCoreModel_goTo_30 rfl (lv_at hl 0 rfl) ?_
      refine lv_iload_n hx hb d_ThumbCoreModel_goTo_31 rfl (lv_at hl 1 rfl) ?_
      refine lv_iconst (v := 1) hx hb d_ThumbCoreModel_goTo_32 (by decide) ?_
      refine lv_isub hx hb d_ThumbCoreModel_goTo_33 ?_
      refine va_put (D := D) (ci := 5) (v := .int (x1 - 1)) (ty := .int) (C := R_ThumbCoreModel) (T := F_ThumbCoreModel) (N := 23) hx hb hts u_ThumbCoreModel t_ThumbCoreModel t_ThumbCoreModel_ok n_ThumbCoreModel hown hK hP hD hS 0 rfl rfl 11 (by decide) (hts _ wf_ThumbCoreModel_115) (fun _ h9 => h9) rfl (by decide +kernel) rfl rfl (Nat.le_of_ble_eq_true rfl) d_ThumbCoreModel_goTo_34 (fun H locs hP hD hS => ?_)
      have hP : va_P D tcl (wd_ThumbCoreModel cI cB cZ h h_memory h_reg h_kept h_pending h_active h_priorities q_size c_n c_z c_c c_v c_keptFlags c_bad c_h (x1 - 1) c_entered c_mask c_asleep c_lockup c_counts c_counter c_reload c_current c_memory c_reg c_kept c_pending c_active c_priorities) H := hP
      have hD : va_D A (wd_ThumbCoreModel cI cB cZ h h_memory h_reg h_kept h_pending h_active h_priorities q_size c_n c_z c_c c_v c_keptFlags c_bad c_h (x1 - 1) c_entered c_mask c_asleep c_lockup c_counts c_counter c_reload c_current c_memory c_reg c_kept c_pending c_active c_priorities) := hD
      exact RET H locs ls 37 (c_n, c_z, c_c, c_v, c_bad, (x1 - 1), c_current, c_reg, c_active) d_ThumbCoreModel_goTo_37 hP hD hS hq
    · have hq := hq.trans (if_neg (fun g => g g_19))
      refine lv_aload_n hx hb d_ThumbCoreModel_goTo_22 rfl (lv_at hl 0 rfl) ?_
      refine lv_iconst (v := 1) hx hb d_ThumbCoreModel_goTo_23 (by decide) ?_
      refine va_put (D := D) (ci := 5) (v := .int (bI true)) (ty := .boolean) (C := R_ThumbCoreModel) (T := F_ThumbCoreModel) (N := 23) hx hb hts u_ThumbCoreModel t_ThumbCoreModel t_ThumbCoreModel_ok n_ThumbCoreModel hown hK hP hD hS 0 rfl rfl 9 (by decide) (hts _ wf_ThumbCoreModel_41) (fun _ h9 => h9) rfl (by decide +kernel) (tc_nb true) (tc_fb true) (Nat.le_of_ble_eq_true rfl) d_ThumbCoreModel_goTo_24 (fun H locs hP hD hS => ?_)
      have hP : va_P D tcl (wd_ThumbCoreModel cI cB cZ h h_memory h_reg h_kept h_pending h_active h_priorities q_size c_n c_z c_c c_v c_keptFlags true c_h c_after c_entered c_mask c_asleep c_lockup c_counts c_counter c_reload c_current c_memory c_reg c_kept c_pending c_active c_priorities) H := hP
      have hD : va_D A (wd_ThumbCoreModel cI cB cZ h h_memory h_reg h_kept h_pending h_active h_priorities q_size c_n c_z c_c c_v c_keptFlags true c_h c_after c_entered c_mask c_asleep c_lockup c_counts c_counter c_reload c_current c_memory c_reg c_kept c_pending c_active c_priorities) := hD
      refine lv_goto (tgt := 37) hx hb d_ThumbCoreModel_goTo_27 (by decide) ?_
      exact RET H locs ls 37 (c_n, c_z, c_c, c_v, true, c_after, c_current, c_reg, c_active) d_ThumbCoreModel_goTo_37 hP hD hS hq
  · have hq := hq.trans (if_neg g_5)
    refine lv_aload_n hx hb d_ThumbCoreModel_goTo_8 rfl (lv_at hl 0 rfl) ?_
    refine lv_iload_n hx hb d_ThumbCoreModel_goTo_9 rfl (lv_at hl 1 rfl) ?_
    refine tc_mv (wo := fun u => (wd_ThumbCoreModel cI cB cZ h h_memory h_reg h_kept h_pending h_active h_priorities q_size u.1 u.2.1 u.2.2.1 u.2.2.2.1 c_keptFlags u.2.2.2.2.1 c_h u.2.2.2.2.2.1 c_entered c_mask c_asleep c_lockup c_counts c_counter c_reload u.2.2.2.2.2.2.1 c_memory u.2.2.2.2.2.2.2.1 c_kept c_pending u.2.2.2.2.2.2.2.2 c_priorities)) (va_runV (As := [.int x1]) (rest := []) ⟨hx, hb, hml, hown, hts⟩ (c_ThumbCoreModel_comeBack l D cI cB cZ h h_memory h_reg h_kept h_pending h_active h_priorities H.size q_size c_n c_z c_c c_v c_keptFlags c_bad c_h c_after c_entered c_mask c_asleep c_lockup c_counts c_counter c_reload c_current c_memory c_reg c_kept c_pending c_active c_priorities x1 hm hi_c_current) (cwV 1 hts (tc_gV wl_ThumbCoreModel_122 wm_ThumbCoreModel_comeBack ws_ThumbCoreModel_comeBack wi_ThumbCoreModel wc_ThumbCoreModel_comeBack) rfl rfl rfl (by decide +kernel) ⟨Nat.le_of_ble_eq_true rfl, Nat.le_of_ble_eq_true rfl⟩) (tc_preV hK hN hP hD [0, 1, 2, 3, 4, 5, 6] rfl (by decide) (q0 := 0) rfl rfl) rfl rfl hl.1 rfl (lv_room (Nat.le_of_ble_eq_true rfl)) d_ThumbCoreModel_goTo_10 (by decide)) hP hD hS hA [0, 1, 2, 3, 4, 5, 6] [] [0, 1, 2, 3, 4, 5, 6] rfl rfl (by decide) (by decide) (by decide) (fun _ => rfl) (fun u H locs hu hP hD hS => ?_)
    obtain ⟨s2, s3, s4, s5, s6, s7, s8, s9, s10⟩ := u
    have hq := hq.trans (un9_eq hu _)
    have e_s2 := hu
    have hP : va_P D tcl (wd_ThumbCoreModel cI cB cZ h h_memory h_reg h_kept h_pending h_active h_priorities q_size s2 s3 s4 s5 c_keptFlags s6 c_h s7 c_entered c_mask c_asleep c_lockup c_counts c_counter c_reload s8 c_memory s9 c_kept c_pending s10 c_priorities) H := hP
    have hD : va_D A (wd_ThumbCoreModel cI cB cZ h h_memory h_reg h_kept h_pending h_active h_priorities q_size s2 s3 s4 s5 c_keptFlags s6 c_h s7 c_entered c_mask c_asleep c_lockup c_counts c_counter c_reload s8 c_memory s9 c_kept c_pending s10 c_priorities) := hD
    refine lv_goto (tgt := 37) hx hb d_ThumbCoreModel_goTo_13 (by decide) ?_
    exact RET H locs ls 37 (s2, s3, s4, s5, s6, s7, s8, s9, s10) d_ThumbCoreModel_goTo_37 hP hD hS hq
abbrev rm_ThumbCoreModel_moved : Room := { frames := 2, cells := 0, slots := 0, locals := 45 }
set_option maxHeartbeats 4000000 in
set_option maxRecDepth 100000 in
theorem c_ThumbCoreModel_moved (l : Launch) (D : va_G) (cI cB cZ : ClassId) (h h_memory h_reg h_kept h_pending h_active h_priorities sz : Nat) (q_size : Int32) (c_n : Bool) (c_z : Bool) (c_c : Bool) (c_v : Bool) (c_keptFlags : Int32) (c_bad : Bool) (c_h : Int32) (c_after : Int32) (c_entered : Bool) (c_mask : Bool) (c_asleep : Bool) (c_lockup : Bool) (c_counts : Bool) (c_counter : Int32) (c_reload : Int32) (c_current : Int32) (c_memory : Nat → Int32) (c_reg : Nat → Int32) (c_kept : Nat → Int32) (c_pending : Nat → Bool) (c_active : Nat → Bool) (c_priorities : Nat → Int32) (x1 : Int32) (x2 : Int32) (x3 : Int32) : Met l y_ThumbCoreModel_moved (.code y_ThumbCoreModel_moved b_ThumbCoreModel_moved 9 (some .int) :: tcb) rm_ThumbCoreModel_moved (tc_Pw D tcl (tys cI cB cZ) (wd_ThumbCoreModel cI cB cZ h h_memory h_reg h_kept h_pending h_active h_priorities q_size c_n c_z c_c c_v c_keptFlags c_bad c_h c_after c_entered c_mask c_asleep c_lockup c_counts c_counter c_reload c_current c_memory c_reg c_kept c_pending c_active c_priorities) sz ([.ref h, .int x1, .int x2, .int x3] : List Value) none) (tc_Qi D tcl (wd_ThumbCoreModel cI cB cZ h h_memory h_reg h_kept h_pending h_active h_priorities q_size c_n c_z c_c c_v c_keptFlags c_bad c_h c_after c_entered c_mask c_asleep c_lockup c_counts c_counter c_reload c_current c_memory c_reg c_kept c_pending c_active c_priorities) sz (fun u => (wd_ThumbCoreModel cI cB cZ h h_memory h_reg h_kept h_pending h_active h_priorities q_size u.2.1 u.2.2.1 u.2.2.2 c_v c_keptFlags c_bad c_h c_after c_entered c_mask c_asleep c_lockup c_counts c_counter c_reload c_current c_memory c_reg c_kept c_pending c_active c_priorities)) (f_ThumbCoreModel_moved c_n c_z c_c x1 x2 x3)) 0 0 (va_A (wd_ThumbCoreModel cI cB cZ h h_memory h_reg h_kept h_pending h_active h_priorities q_size c_n c_z c_c c_v c_keptFlags c_bad c_h c_after c_entered c_mask c_asleep c_lockup c_counts c_counter c_reload c_current c_memory c_reg c_kept c_pending c_active c_priorities) sz) := by
  refine tc_mu_i (by decide) (Nat.le_of_ble_eq_true rfl) ?_
  intro p e s m below meth c A Q ls hx hb hml hts hown hK hN hP hD hA hZ hl RET
  have hS : va_S A s.heap s.heap [] := va_S.rf
  have hl : lv_has ls 9 [(0, .ref h), (1, .int x1), (2, .int x2), (3, .int x3)] := hl
  generalize hF : f_ThumbCoreModel_moved c_n c_z c_c x1 x2 x3 = FF at RET
  have J_108 : ∀ (H : Heap) (locs : List Loc) (ls : Array Slot) (c_n : Bool) (c_z : Bool) (c_c : Bool) (y4 : Int64) (y6 : Int32) (z1 : Bool), va_P D tcl (wd_ThumbCoreModel cI cB cZ h h_memory h_reg h_kept h_pending h_active h_priorities q_size c_n c_z c_c c_v c_keptFlags c_bad c_h c_after c_entered c_mask c_asleep c_lockup c_counts c_counter c_reload c_current c_memory c_reg c_kept c_pending c_active c_priorities) H → va_D A (wd_ThumbCoreModel cI cB cZ h h_memory h_reg h_kept h_pending h_active h_priorities q_size c_n c_z c_c c_v c_keptFlags c_bad c_h c_after c_entered c_mask c_asleep c_lockup c_counts c_counter c_reload c_current c_memory c_reg c_kept c_pending c_active c_priorities) → va_S A s.heap H locs → lv_has ls 9 [(0, .ref h), (4, .long y4), (6, .int y6)] → FF = k_ThumbCoreModel_moved_108 c_n c_z c_c y4 y6 z1 → W p l e rm_ThumbCoreModel_moved s m ([.ref h, .int x1, .int x2, .int x3] : List Value).toArray below meth c H locs 0 0 Q (F0 m 108 ls [.int (bI z1), .ref h]) := by
    intro H locs ls c_n c_z c_c y4 y6 z1 hP hD hS hl hq
    refine va_put (D := D) (ci := 5) (v := .int (bI z1)) (ty := .boolean) (C := R_ThumbCoreModel) (T := F_ThumbCoreModel) (N := 23) hx hb hts u_ThumbCoreModel t_ThumbCoreModel t_ThumbCoreModel_ok n_ThumbCoreModel hown hK hP hD hS 0 rfl rfl 5 (by decide) (hts _ wf_ThumbCoreModel_80) (fun _ h9 => h9) rfl (by decide +kernel) (tc_nb z1) (tc_fb z1) (Nat.le_of_ble_eq_true rfl) d_ThumbCoreModel_moved_108 (fun H locs hP hD hS => ?_)
    have hP : va_P D tcl (wd_ThumbCoreModel cI cB cZ h h_memory h_reg h_kept h_pending h_active h_priorities q_size c_n c_z z1 c_v c_keptFlags c_bad c_h c_after c_entered c_mask c_asleep c_lockup c_counts c_counter c_reload c_current c_memory c_reg c_kept c_pending c_active c_priorities) H := hP
    have hD : va_D A (wd_ThumbCoreModel cI cB cZ h h_memory h_reg h_kept h_pending h_active h_priorities q_size c_n c_z z1 c_v c_keptFlags c_bad c_h c_after c_entered c_mask c_asleep c_lockup c_counts c_counter c_reload c_current c_memory c_reg c_kept c_pending c_active c_priorities) := hD
    refine lv_aload_n hx hb d_ThumbCoreModel_moved_111 rfl (lv_at hl 0 rfl) ?_
    refine lv_lload hx hb d_ThumbCoreModel_moved_112 (lv_at hl 1 rfl) ?_
    refine lv_iload hx hb d_ThumbCoreModel_moved_114 (lv_at hl 2 rfl) ?_
    refine lv_lshr (v := (o_lshr y4 y6)) hx hb d_ThumbCoreModel_moved_116 rfl ?_
    refine lv_l2i (v := (o_lshr y4 y6).toInt32) hx hb d_ThumbCoreModel_moved_117 rfl ?_
    refine tc_mi (wo := fun u => (wd_ThumbCoreModel cI cB cZ h h_memory h_reg h_kept h_pending h_active h_priorities q_size u.2.1 u.2.2 z1 c_v c_keptFlags c_bad c_h c_after c_entered c_mask c_asleep c_lockup c_counts c_counter c_reload c_current c_memory c_reg c_kept c_pending c_active c_priorities)) (va_runV (As := [.int ((o_lshr y4 y6).toInt32)]) (rest := []) ⟨hx, hb, hml, hown, hts⟩ (c_ThumbCoreModel_shown l D cI cB cZ h h_memory h_reg h_kept h_pending h_active h_priorities H.size q_size c_n c_z z1 c_v c_keptFlags c_bad c_h c_after c_entered c_mask c_asleep c_lockup c_counts c_counter c_reload c_current c_memory c_reg c_kept c_pending c_active c_priorities ((o_lshr y4 y6).toInt32)) (cwV 1 hts (tc_gV wl_ThumbCoreModel_93 wm_ThumbCoreModel_shown ws_ThumbCoreModel_shown wi_ThumbCoreModel wc_ThumbCoreModel_shown) rfl rfl rfl (by decide +kernel) ⟨Nat.le_of_ble_eq_true rfl, Nat.le_of_ble_eq_true rfl⟩) (tc_preV hK hN hP hD [0, 1, 2, 3, 4, 5, 6] rfl (by decide) (q0 := 0) rfl rfl) rfl rfl hl.1 rfl (lv_room (Nat.le_of_ble_eq_true rfl)) d_ThumbCoreModel_moved_118 (by decide)) hP hD hS hA [0, 1, 2, 3, 4, 5, 6] [] [0, 1, 2, 3, 4, 5, 6] rfl rfl (by decide) (by decide) (by decide) (fun _ => rfl) (fun u H locs hu hP hD hS => ?_)
    obtain ⟨r1, s2, s3⟩ := u
    have hq := hq.trans (un3_eq hu _)
    have e_r1 := hu
    have hP : va_P D tcl (wd_ThumbCoreModel cI cB cZ h h_memory h_reg h_kept h_pending h_active h_priorities q_size s2 s3 z1 c_v c_keptFlags c_bad c_h c_after c_entered c_mask c_asleep c_lockup c_counts c_counter c_reload c_current c_memory c_reg c_kept c_pending c_active c_priorities) H := hP
    have hD : va_D A (wd_ThumbCoreModel cI cB cZ h h_memory h_reg h_kept h_pending h_active h_priorities q_size s2 s3 z1 c_v c_keptFlags c_bad c_h c_after c_entered c_mask c_asleep c_lockup c_counts c_counter c_reload c_current c_memory c_reg c_kept c_pending c_active c_priorities) := hD
    refine W.eq (g2 := F0 m 121 ls [.int r1]) rfl ?_
    exact RET H locs ls 121 (r1, s2, s3, z1) d_ThumbCoreModel_moved_121 hP hD hS hq
  have J_77 : ∀ (H : Heap) (locs : List Loc) (ls : Array Slot) (c_n : Bool) (c_z : Bool) (c_c : Bool) (y7 : Int64) (z1 : Bool), va_P D tcl (wd_ThumbCoreModel cI cB cZ h h_memory h_reg h_kept h_pending h_active h_priorities q_size c_n c_z c_c c_v c_keptFlags c_bad c_h c_after c_entered c_mask c_asleep c_lockup c_counts c_counter c_reload c_current c_memory c_reg c_kept c_pending c_active c_priorities) H → va_D A (wd_ThumbCoreModel cI cB cZ h h_memory h_reg h_kept h_pending h_active h_priorities q_size c_n c_z c_c c_v c_keptFlags c_bad c_h c_after c_entered c_mask c_asleep c_lockup c_counts c_counter c_reload c_current c_memory c_reg c_kept c_pending c_active c_priorities) → va_S A s.heap H locs → lv_has ls 9 [(0, .ref h), (7, .long y7)] → FF = k_ThumbCoreModel_moved_77 c_n c_z c_c y7 z1 → W p l e rm_ThumbCoreModel_moved s m ([.ref h, .int x1, .int x2, .int x3] : List Value).toArray below meth c H locs 0 0 Q (F0 m 77 ls [.int (bI z1), .ref h]) := by
    intro H locs ls c_n c_z c_c y7 z1 hP hD hS hl hq
    refine va_put (D := D) (ci := 5) (v := .int (bI z1)) (ty := .boolean) (C := R_ThumbCoreModel) (T := F_ThumbCoreModel) (N := 23) hx hb hts u_ThumbCoreModel t_ThumbCoreModel t_ThumbCoreModel_ok n_ThumbCoreModel hown hK hP hD hS 0 rfl rfl 5 (by decide) (hts _ wf_ThumbCoreModel_80) (fun _ h9 => h9) rfl (by decide +kernel) (tc_nb z1) (tc_fb z1) (Nat.le_of_ble_eq_true rfl) d_ThumbCoreModel_moved_77 (fun H locs hP hD hS => ?_)
    have hP : va_P D tcl (wd_ThumbCoreModel cI cB cZ h h_memory h_reg h_kept h_pending h_active h_priorities q_size c_n c_z z1 c_v c_keptFlags c_bad c_h c_after c_entered c_mask c_asleep c_lockup c_counts c_counter c_reload c_current c_memory c_reg c_kept c_pending c_active c_priorities) H := hP
    have hD : va_D A (wd_ThumbCoreModel cI cB cZ h h_memory h_reg h_kept h_pending h_active h_priorities q_size c_n c_z z1 c_v c_keptFlags c_bad c_h c_after c_entered c_mask c_asleep c_lockup c_counts c_counter c_reload c_current c_memory c_reg c_kept c_pending c_active c_priorities) := hD
    refine lv_aload_n hx hb d_ThumbCoreModel_moved_80 rfl (lv_at hl 0 rfl) ?_
    refine lv_lload hx hb d_ThumbCoreModel_moved_81 (lv_at hl 1 rfl) ?_
    refine lv_l2i (v := y7.toInt32) hx hb d_ThumbCoreModel_moved_83 rfl ?_
    refine tc_mi (wo := fun u => (wd_ThumbCoreModel cI cB cZ h h_memory h_reg h_kept h_pending h_active h_priorities q_size u.2.1 u.2.2 z1 c_v c_keptFlags c_bad c_h c_after c_entered c_mask c_asleep c_lockup c_counts c_counter c_reload c_current c_memory c_reg c_kept c_pending c_active c_priorities)) (va_runV (As := [.int y7.toInt32]) (rest := []) ⟨hx, hb, hml, hown, hts⟩ (c_ThumbCoreModel_shown l D cI cB cZ h h_memory h_reg h_kept h_pending h_active h_priorities H.size q_size c_n c_z z1 c_v c_keptFlags c_bad c_h c_after c_entered c_mask c_asleep c_lockup c_counts c_counter c_reload c_current c_memory c_reg c_kept c_pending c_active c_priorities y7.toInt32) (cwV 1 hts (tc_gV wl_ThumbCoreModel_93 wm_ThumbCoreModel_shown ws_ThumbCoreModel_shown wi_ThumbCoreModel wc_ThumbCoreModel_shown) rfl rfl rfl (by decide +kernel) ⟨Nat.le_of_ble_eq_true rfl, Nat.le_of_ble_eq_true rfl⟩) (tc_preV hK hN hP hD [0, 1, 2, 3, 4, 5, 6] rfl (by decide) (q0 := 0) rfl rfl) rfl rfl hl.1 rfl (lv_room (Nat.le_of_ble_eq_true rfl)) d_ThumbCoreModel_moved_84 (by decide)) hP hD hS hA [0, 1, 2, 3, 4, 5, 6] [] [0, 1, 2, 3, 4, 5, 6] rfl rfl (by decide) (by decide) (by decide) (fun _ => rfl) (fun u H locs hu hP hD hS => ?_)
    obtain ⟨r1, s2, s3⟩ := u
    have hq := hq.trans (un3_eq hu _)
    have e_r1 := hu
    have hP : va_P D tcl (wd_ThumbCoreModel cI cB cZ h h_memory h_reg h_kept h_pending h_active h_priorities q_size s2 s3 z1 c_v c_keptFlags c_bad c_h c_after c_entered c_mask c_asleep c_lockup c_counts c_counter c_reload c_current c_memory c_reg c_kept c_pending c_active c_priorities) H := hP
    have hD : va_D A (wd_ThumbCoreModel cI cB cZ h h_memory h_reg h_kept h_pending h_active h_priorities q_size s2 s3 z1 c_v c_keptFlags c_bad c_h c_after c_entered c_mask c_asleep c_lockup c_counts c_counter c_reload c_current c_memory c_reg c_kept c_pending c_active c_priorities) := hD
    refine W.eq (g2 := F0 m 87 ls [.int r1]) rfl ?_
    exact RET H locs ls 87 (r1, s2, s3, z1) d_ThumbCoreModel_moved_87 hP hD hS hq
  have J_76 : ∀ (H : Heap) (locs : List Loc) (ls : Array Slot) (c_n : Bool) (c_z : Bool) (c_c : Bool) (y7 : Int64), va_P D tcl (wd_ThumbCoreModel cI cB cZ h h_memory h_reg h_kept h_pending h_active h_priorities q_size c_n c_z c_c c_v c_keptFlags c_bad c_h c_after c_entered c_mask c_asleep c_lockup c_counts c_counter c_reload c_current c_memory c_reg c_kept c_pending c_active c_priorities) H → va_D A (wd_ThumbCoreModel cI cB cZ h h_memory h_reg h_kept h_pending h_active h_priorities q_size c_n c_z c_c c_v c_keptFlags c_bad c_h c_after c_entered c_mask c_asleep c_lockup c_counts c_counter c_reload c_current c_memory c_reg c_kept c_pending c_active c_priorities) → va_S A s.heap H locs → lv_has ls 9 [(0, .ref h), (7, .long y7)] → FF = k_ThumbCoreModel_moved_76 c_n c_z c_c y7 → W p l e rm_ThumbCoreModel_moved s m ([.ref h, .int x1, .int x2, .int x3] : List Value).toArray below meth c H locs 0 0 Q (F0 m 76 ls [.ref h]) := by
    intro H locs ls c_n c_z c_c y7 hP hD hS hl hq
    refine lv_iconst (v := 0) hx hb d_ThumbCoreModel_moved_76 (by decide) ?_
    exact J_77 H locs ls c_n c_z c_c y7 false hP hD hS (lv_sub hl [0, 1] rfl) hq
  have J_40 : ∀ (H : Heap) (locs : List Loc) (ls : Array Slot) (c_n : Bool) (c_z : Bool) (c_c : Bool) (y1 : Int32) (y3 : Int32) (y4 : Int64) (z0 : Int32), va_P D tcl (wd_ThumbCoreModel cI cB cZ h h_memory h_reg h_kept h_pending h_active h_priorities q_size c_n c_z c_c c_v c_keptFlags c_bad c_h c_after c_entered c_mask c_asleep c_lockup c_counts c_counter c_reload c_current c_memory c_reg c_kept c_pending c_active c_priorities) H → va_D A (wd_ThumbCoreModel cI cB cZ h h_memory h_reg h_kept h_pending h_active h_priorities q_size c_n c_z c_c c_v c_keptFlags c_bad c_h c_after c_entered c_mask c_asleep c_lockup c_counts c_counter c_reload c_current c_memory c_reg c_kept c_pending c_active c_priorities) → va_S A s.heap H locs → lv_has ls 9 [(0, .ref h), (1, .int y1), (3, .int y3), (4, .long y4)] → FF = k_ThumbCoreModel_moved_40 c_n c_z c_c y1 y3 y4 z0 → W p l e rm_ThumbCoreModel_moved s m ([.ref h, .int x1, .int x2, .int x3] : List Value).toArray below meth c H locs 0 0 Q (F0 m 40 ls [.int z0]) := by
    intro H locs ls c_n c_z c_c y1 y3 y4 z0 hP hD hS hl hq
    refine lv_istore (lv' := [(6, .int z0), (0, .ref h), (1, .int y1), (3, .int y3), (4, .long y4)]) hx hb d_ThumbCoreModel_moved_40 hl (by decide) rfl (fun ls hl => ?_)
    refine lv_iload_n hx hb d_ThumbCoreModel_moved_42 rfl (lv_at hl 2 rfl) ?_
    refine lv_if_ne (tgt := 88) hx hb d_ThumbCoreModel_moved_43 (by decide) (fun g_43 => ?_) (fun g_43 => ?_)
    · have hq := hq.trans (if_pos g_43)
      refine lv_aload_n hx hb d_ThumbCoreModel_moved_88 rfl (lv_at hl 1 rfl) ?_
      refine lv_lload hx hb d_ThumbCoreModel_moved_89 (lv_at hl 4 rfl) ?_
      refine lv_iload hx hb d_ThumbCoreModel_moved_91 (lv_at hl 0 rfl) ?_
      refine lv_iconst (v := 1) hx hb d_ThumbCoreModel_moved_93 (by decide) ?_
      refine lv_isub hx hb d_ThumbCoreModel_moved_94 ?_
      refine lv_lshr (v := (o_lshr y4 (z0 - 1))) hx hb d_ThumbCoreModel_moved_95 rfl ?_
      refine lv_lconst (v := 1) hx hb d_ThumbCoreModel_moved_96 (by decide) ?_
      refine lv_land hx hb d_ThumbCoreModel_moved_97 ?_
      refine lv_lconst (v := 1) hx hb d_ThumbCoreModel_moved_98 (by decide) ?_
      refine W.lcmp hx hb d_ThumbCoreModel_moved_99 ?_
      refine lv_if_ne (tgt := 107) hx hb d_ThumbCoreModel_moved_100 (by decide) (fun g_100 => ?_) (fun g_100 => ?_)
      · have hq := hq.trans (if_pos g_100)
        refine lv_iconst (v := 0) hx hb d_ThumbCoreModel_moved_107 (by decide) ?_
        exact J_108 H locs ls c_n c_z c_c y4 z0 false hP hD hS (lv_sub hl [1, 4, 0] rfl) hq
      · have hq := hq.trans (if_neg (fun g => g g_100))
        refine lv_iconst (v := 1) hx hb d_ThumbCoreModel_moved_103 (by decide) ?_
        refine lv_goto (tgt := 108) hx hb d_ThumbCoreModel_moved_104 (by decide) ?_
        exact J_108 H locs ls c_n c_z c_c y4 z0 true hP hD hS (lv_sub hl [1, 4, 0] rfl) hq
    · have hq := hq.trans (if_neg (fun g => g g_43))
      refine lv_lload hx hb d_ThumbCoreModel_moved_46 (lv_at hl 4 rfl) ?_
      refine lv_iload hx hb d_ThumbCoreModel_moved_48 (lv_at hl 0 rfl) ?_
      refine lv_lshl (v := (o_lshl y4 z0)) hx hb d_ThumbCoreModel_moved_50 rfl ?_
      refine lv_topl (fun v1 e_v1 => ?_)
      have hq := tc_nm hq e_v1
      refine lv_lstore (lv' := [(7, .long v1), (6, .int z0), (0, .ref h), (1, .int y1), (3, .int y3), (4, .long y4)]) hx hb d_ThumbCoreModel_moved_51 hl (by decide) rfl (fun ls hl => ?_)
      refine lv_aload_n hx hb d_ThumbCoreModel_moved_53 rfl (lv_at hl 2 rfl) ?_
      refine lv_iload_n hx hb d_ThumbCoreModel_moved_54 rfl (lv_at hl 4 rfl) ?_
      refine lv_bipush (v := 32) hx hb d_ThumbCoreModel_moved_55 (by decide) ?_
      refine lv_icmp_gt (tgt := 76) hx hb d_ThumbCoreModel_moved_57 (by decide) (fun g_57 => ?_) (fun g_57 => ?_)
      · have hq := hq.trans (if_pos g_57)
        exact J_76 H locs ls c_n c_z c_c v1 hP hD hS (lv_sub hl [2, 0] rfl) hq
      · have hq := hq.trans (if_neg g_57)
        refine lv_lload hx hb d_ThumbCoreModel_moved_60 (lv_at hl 0 rfl) ?_
        refine lv_bipush (v := 32) hx hb d_ThumbCoreModel_moved_62 (by decide) ?_
        refine lv_lshr (v := (o_lshr v1 32)) hx hb d_ThumbCoreModel_moved_64 rfl ?_
        refine lv_lconst (v := 1) hx hb d_ThumbCoreModel_moved_65 (by decide) ?_
        refine lv_land hx hb d_ThumbCoreModel_moved_66 ?_
        refine lv_lconst (v := 1) hx hb d_ThumbCoreModel_moved_67 (by decide) ?_
        refine W.lcmp hx hb d_ThumbCoreModel_moved_68 ?_
        refine lv_if_ne (tgt := 76) hx hb d_ThumbCoreModel_moved_69 (by decide) (fun g_69 => ?_) (fun g_69 => ?_)
        · have hq := hq.trans (if_pos g_69)
          exact J_76 H locs ls c_n c_z c_c v1 hP hD hS (lv_sub hl [2, 0] rfl) hq
        · have hq := hq.trans (if_neg (fun g => g g_69))
          refine lv_iconst (v := 1) hx hb d_ThumbCoreModel_moved_72 (by decide) ?_
          refine lv_goto (tgt := 77) hx hb d_ThumbCoreModel_moved_73 (by decide) ?_
          exact J_77 H locs ls c_n c_z c_c v1 true hP hD hS (lv_sub hl [2, 0] rfl) hq
  have J_26 : ∀ (H : Heap) (locs : List Loc) (ls : Array Slot) (c_n : Bool) (c_z : Bool) (c_c : Bool) (y1 : Int32) (y3 : Int32) (z0 : Int64), va_P D tcl (wd_ThumbCoreModel cI cB cZ h h_memory h_reg h_kept h_pending h_active h_priorities q_size c_n c_z c_c c_v c_keptFlags c_bad c_h c_after c_entered c_mask c_asleep c_lockup c_counts c_counter c_reload c_current c_memory c_reg c_kept c_pending c_active c_priorities) H → va_D A (wd_ThumbCoreModel cI cB cZ h h_memory h_reg h_kept h_pending h_active h_priorities q_size c_n c_z c_c c_v c_keptFlags c_bad c_h c_after c_entered c_mask c_asleep c_lockup c_counts c_counter c_reload c_current c_memory c_reg c_kept c_pending c_active c_priorities) → va_S A s.heap H locs → lv_has ls 9 [(0, .ref h), (1, .int y1), (3, .int y3)] → FF = k_ThumbCoreModel_moved_26 c_n c_z c_c y1 y3 z0 → W p l e rm_ThumbCoreModel_moved s m ([.ref h, .int x1, .int x2, .int x3] : List Value).toArray below meth c H locs 0 0 Q (F0 m 26 ls [.long z0]) := by
    intro H locs ls c_n c_z c_c y1 y3 z0 hP hD hS hl hq
    refine lv_lstore (lv' := [(4, .long z0), (0, .ref h), (1, .int y1), (3, .int y3)]) hx hb d_ThumbCoreModel_moved_26 hl (by decide) rfl (fun ls hl => ?_)
    refine lv_iload_n hx hb d_ThumbCoreModel_moved_28 rfl (lv_at hl 3 rfl) ?_
    refine lv_bipush (v := 40) hx hb d_ThumbCoreModel_moved_29 (by decide) ?_
    refine lv_icmp_le (tgt := 39) hx hb d_ThumbCoreModel_moved_31 (by decide) (fun g_31 => ?_) (fun g_31 => ?_)
    · have hq := hq.trans (if_pos g_31)
      refine lv_iload_n hx hb d_ThumbCoreModel_moved_39 rfl (lv_at hl 3 rfl) ?_
      exact J_40 H locs ls c_n c_z c_c y1 y3 z0 y3 hP hD hS (lv_sub hl [1, 2, 3, 0] rfl) hq
    · have hq := hq.trans (if_neg g_31)
      refine lv_bipush (v := 40) hx hb d_ThumbCoreModel_moved_34 (by decide) ?_
      refine lv_goto (tgt := 40) hx hb d_ThumbCoreModel_moved_36 (by decide) ?_
      exact J_40 H locs ls c_n c_z c_c y1 y3 z0 40 hP hD hS (lv_sub hl [1, 2, 3, 0] rfl) hq
  have hq : FF = f_ThumbCoreModel_moved c_n c_z c_c x1 x2 x3 := hF.symm
  revert hP hD hS
  suffices G : ∀ (H : Heap) (locs : List Loc), va_P D tcl (wd_ThumbCoreModel cI cB cZ h h_memory h_reg h_kept h_pending h_active h_priorities q_size c_n c_z c_c c_v c_keptFlags c_bad c_h c_after c_entered c_mask c_asleep c_lockup c_counts c_counter c_reload c_current c_memory c_reg c_kept c_pending c_active c_priorities) H → va_D A (wd_ThumbCoreModel cI cB cZ h h_memory h_reg h_kept h_pending h_active h_priorities q_size c_n c_z c_c c_v c_keptFlags c_bad c_h c_after c_entered c_mask c_asleep c_lockup c_counts c_counter c_reload c_current c_memory c_reg c_kept c_pending c_active c_priorities) → va_S A s.heap H locs → W p l e rm_ThumbCoreModel_moved s m ([.ref h, .int x1, .int x2, .int x3] : List Value).toArray below meth c H locs 0 0 Q (F0 m 0 ls []) from fun hP hD hS => G _ _ hP hD hS
  intro H locs hP hD hS
  refine lv_iload_n hx hb d_ThumbCoreModel_moved_0 rfl (lv_at hl 3 rfl) ?_
  refine lv_if_ne (tgt := 10) hx hb d_ThumbCoreModel_moved_1 (by decide) (fun g_1 => ?_) (fun g_1 => ?_)
  · have hq := hq.trans (if_pos g_1)
    refine lv_iload_n hx hb d_ThumbCoreModel_moved_10 rfl (lv_at hl 1 rfl) ?_
    refine lv_iconst (v := 2) hx hb d_ThumbCoreModel_moved_11 (by decide) ?_
    refine lv_icmp_ne (tgt := 20) hx hb d_ThumbCoreModel_moved_12 (by decide) (fun g_12 => ?_) (fun g_12 => ?_)
    · have hq := hq.trans (if_pos g_12)
      refine lv_iload_n hx hb d_ThumbCoreModel_moved_20 rfl (lv_at hl 2 rfl) ?_
      refine lv_i2l (v := x2.toInt64) hx hb d_ThumbCoreModel_moved_21 rfl ?_
      refine lv_ldc2 (v := 4294967295) hx hb hown (hts _ wk_ThumbCoreModel_91) d_ThumbCoreModel_moved_22 ?_
      refine lv_land hx hb d_ThumbCoreModel_moved_25 ?_
      exact J_26 H locs ls c_n c_z c_c x1 x3 (x2.toInt64 &&& 4294967295) hP hD hS (lv_sub hl [0, 1, 3] rfl) hq
    · have hq := hq.trans (if_neg (fun g => g g_12))
      refine lv_iload_n hx hb d_ThumbCoreModel_moved_15 rfl (lv_at hl 2 rfl) ?_
      refine lv_i2l (v := x2.toInt64) hx hb d_ThumbCoreModel_moved_16 rfl ?_
      refine lv_goto (tgt := 26) hx hb d_ThumbCoreModel_moved_17 (by decide) ?_
      exact J_26 H locs ls c_n c_z c_c x1 x3 x2.toInt64 hP hD hS (lv_sub hl [0, 1, 3] rfl) hq
  · have hq := hq.trans (if_neg (fun g => g g_1))
    refine lv_aload_n hx hb d_ThumbCoreModel_moved_4 rfl (lv_at hl 0 rfl) ?_
    refine lv_iload_n hx hb d_ThumbCoreModel_moved_5 rfl (lv_at hl 2 rfl) ?_
    refine tc_mi (wo := fun u => (wd_ThumbCoreModel cI cB cZ h h_memory h_reg h_kept h_pending h_active h_priorities q_size u.2.1 u.2.2 c_c c_v c_keptFlags c_bad c_h c_after c_entered c_mask c_asleep c_lockup c_counts c_counter c_reload c_current c_memory c_reg c_kept c_pending c_active c_priorities)) (va_runV (As := [.int x2]) (rest := []) ⟨hx, hb, hml, hown, hts⟩ (c_ThumbCoreModel_shown l D cI cB cZ h h_memory h_reg h_kept h_pending h_active h_priorities H.size q_size c_n c_z c_c c_v c_keptFlags c_bad c_h c_after c_entered c_mask c_asleep c_lockup c_counts c_counter c_reload c_current c_memory c_reg c_kept c_pending c_active c_priorities x2) (cwV 1 hts (tc_gV wl_ThumbCoreModel_93 wm_ThumbCoreModel_shown ws_ThumbCoreModel_shown wi_ThumbCoreModel wc_ThumbCoreModel_shown) rfl rfl rfl (by decide +kernel) ⟨Nat.le_of_ble_eq_true rfl, Nat.le_of_ble_eq_true rfl⟩) (tc_preV hK hN hP hD [0, 1, 2, 3, 4, 5, 6] rfl (by decide) (q0 := 0) rfl rfl) rfl rfl hl.1 rfl (lv_room (Nat.le_of_ble_eq_true rfl)) d_ThumbCoreModel_moved_6 (by decide)) hP hD hS hA [0, 1, 2, 3, 4, 5, 6] [] [0, 1, 2, 3, 4, 5, 6] rfl rfl (by decide) (by decide) (by decide) (fun _ => rfl) (fun u H locs hu hP hD hS => ?_)
    obtain ⟨r1, s2, s3⟩ := u
    have hq := hq.trans (un3_eq hu _)
    have e_r1 := hu
    have hP : va_P D tcl (wd_ThumbCoreModel cI cB cZ h h_memory h_reg h_kept h_pending h_active h_priorities q_size s2 s3 c_c c_v c_keptFlags c_bad c_h c_after c_entered c_mask c_asleep c_lockup c_counts c_counter c_reload c_current c_memory c_reg c_kept c_pending c_active c_priorities) H := hP
    have hD : va_D A (wd_ThumbCoreModel cI cB cZ h h_memory h_reg h_kept h_pending h_active h_priorities q_size s2 s3 c_c c_v c_keptFlags c_bad c_h c_after c_entered c_mask c_asleep c_lockup c_counts c_counter c_reload c_current c_memory c_reg c_kept c_pending c_active c_priorities) := hD
    refine W.eq (g2 := F0 m 9 ls [.int r1]) rfl ?_
    exact RET H locs ls 9 (r1, s2, s3, c_c) d_ThumbCoreModel_moved_9 hP hD hS hq
abbrev rm_ThumbCoreModel_field : Room := { frames := 1, cells := 0, slots := 0, locals := 24 }
set_option maxHeartbeats 4000000 in
set_option maxRecDepth 100000 in
theorem c_ThumbCoreModel_field (l : Launch) (D : va_G) (cI cB cZ : ClassId) (h h_memory h_reg h_kept h_pending h_active h_priorities sz : Nat) (q_size : Int32) (c_n : Bool) (c_z : Bool) (c_c : Bool) (c_v : Bool) (c_keptFlags : Int32) (c_bad : Bool) (c_h : Int32) (c_after : Int32) (c_entered : Bool) (c_mask : Bool) (c_asleep : Bool) (c_lockup : Bool) (c_counts : Bool) (c_counter : Int32) (c_reload : Int32) (c_current : Int32) (c_memory : Nat → Int32) (c_reg : Nat → Int32) (c_kept : Nat → Int32) (c_pending : Nat → Bool) (c_active : Nat → Bool) (c_priorities : Nat → Int32) (x1 : Int32) : Met l y_ThumbCoreModel_field (.code y_ThumbCoreModel_field b_ThumbCoreModel_field 2 (some .int) :: tcb) rm_ThumbCoreModel_field (tc_Pw D tcl (tys cI cB cZ) (wd_ThumbCoreModel cI cB cZ h h_memory h_reg h_kept h_pending h_active h_priorities q_size c_n c_z c_c c_v c_keptFlags c_bad c_h c_after c_entered c_mask c_asleep c_lockup c_counts c_counter c_reload c_current c_memory c_reg c_kept c_pending c_active c_priorities) sz ([.ref h, .int x1] : List Value) none) (QcRead (f_ThumbCoreModel_field c_h x1)) 0 0 (fun _ => False) := by
  refine tc_rd_i (by decide) (Nat.le_of_ble_eq_true rfl) ?_
  intro p e s m below meth c Q ls hx hb hml hts hown hK hN hP hD hl RET
  have hl : lv_has ls 2 [(0, .ref h), (1, .int x1)] := hl
  generalize hF : f_ThumbCoreModel_field c_h x1 = FF at RET
  have hq : FF = f_ThumbCoreModel_field c_h x1 := hF.symm
  refine lv_aload_n hx hb d_ThumbCoreModel_field_0 rfl (lv_at hl 0 rfl) ?_
  refine va_get (D := D) (ci := 5) (v := .int c_h) (C := R_ThumbCoreModel) (T := F_ThumbCoreModel) (N := 23) hx hb hts u_ThumbCoreModel hown hK hP 0 rfl rfl 10 (by decide) (hts _ wf_ThumbCoreModel_125) (fun _ h9 => h9) rfl d_ThumbCoreModel_field_1 ?_
  refine lv_iload_n hx hb d_ThumbCoreModel_field_4 rfl (lv_at hl 1 rfl) ?_
  refine lv_ishr hx hb d_ThumbCoreModel_field_5 ?_
  refine lv_bipush (v := 7) hx hb d_ThumbCoreModel_field_6 (by decide) ?_
  refine lv_iand hx hb d_ThumbCoreModel_field_8 ?_
  exact RET ls 9 d_ThumbCoreModel_field_9 hq
abbrev rm_ThumbCoreModel_threes : Room := { frames := 3, cells := 0, slots := 0, locals := 73 }
set_option maxHeartbeats 4000000 in
set_option maxRecDepth 100000 in
theorem c_ThumbCoreModel_threes (l : Launch) (D : va_G) (cI cB cZ : ClassId) (h h_memory h_reg h_kept h_pending h_active h_priorities sz : Nat) (q_size : Int32) (c_n : Bool) (c_z : Bool) (c_c : Bool) (c_v : Bool) (c_keptFlags : Int32) (c_bad : Bool) (c_h : Int32) (c_after : Int32) (c_entered : Bool) (c_mask : Bool) (c_asleep : Bool) (c_lockup : Bool) (c_counts : Bool) (c_counter : Int32) (c_reload : Int32) (c_current : Int32) (c_memory : Nat → Int32) (c_reg : Nat → Int32) (c_kept : Nat → Int32) (c_pending : Nat → Bool) (c_active : Nat → Bool) (c_priorities : Nat → Int32) : Met l y_ThumbCoreModel_threes (.code y_ThumbCoreModel_threes b_ThumbCoreModel_threes 5 none :: tcb) rm_ThumbCoreModel_threes (tc_Pw D tcl (tys cI cB cZ) (wd_ThumbCoreModel cI cB cZ h h_memory h_reg h_kept h_pending h_active h_priorities q_size c_n c_z c_c c_v c_keptFlags c_bad c_h c_after c_entered c_mask c_asleep c_lockup c_counts c_counter c_reload c_current c_memory c_reg c_kept c_pending c_active c_priorities) sz ([.ref h] : List Value) none) (tc_Qv D tcl (wd_ThumbCoreModel cI cB cZ h h_memory h_reg h_kept h_pending h_active h_priorities q_size c_n c_z c_c c_v c_keptFlags c_bad c_h c_after c_entered c_mask c_asleep c_lockup c_counts c_counter c_reload c_current c_memory c_reg c_kept c_pending c_active c_priorities) sz (fun u => (wd_ThumbCoreModel cI cB cZ h h_memory h_reg h_kept h_pending h_active h_priorities q_size u.1 u.2.1 u.2.2.1 u.2.2.2.1 c_keptFlags c_bad c_h c_after c_entered c_mask c_asleep c_lockup c_counts c_counter c_reload c_current c_memory u.2.2.2.2 c_kept c_pending c_active c_priorities)) (f_ThumbCoreModel_threes c_h c_n c_z c_c c_v c_reg)) 0 0 (va_A (wd_ThumbCoreModel cI cB cZ h h_memory h_reg h_kept h_pending h_active h_priorities q_size c_n c_z c_c c_v c_keptFlags c_bad c_h c_after c_entered c_mask c_asleep c_lockup c_counts c_counter c_reload c_current c_memory c_reg c_kept c_pending c_active c_priorities) sz) := by
  refine tc_mu_v (by decide) (Nat.le_of_ble_eq_true rfl) ?_
  intro p e s m below meth c A Q ls hx hb hml hts hown hK hN hP hD hA hZ hl RET
  have hS : va_S A s.heap s.heap [] := va_S.rf
  have hl : lv_has ls 5 [(0, .ref h)] := hl
  generalize hF : f_ThumbCoreModel_threes c_h c_n c_z c_c c_v c_reg = FF at RET
  have J_81 : ∀ (H : Heap) (locs : List Loc) (ls : Array Slot) (c_n : Bool) (c_z : Bool) (c_c : Bool) (c_v : Bool) (c_reg : Nat → Int32) (z1 : Int32) (z2 : Int32), va_P D tcl (wd_ThumbCoreModel cI cB cZ h h_memory h_reg h_kept h_pending h_active h_priorities q_size c_n c_z c_c c_v c_keptFlags c_bad c_h c_after c_entered c_mask c_asleep c_lockup c_counts c_counter c_reload c_current c_memory c_reg c_kept c_pending c_active c_priorities) H → va_D A (wd_ThumbCoreModel cI cB cZ h h_memory h_reg h_kept h_pending h_active h_priorities q_size c_n c_z c_c c_v c_keptFlags c_bad c_h c_after c_entered c_mask c_asleep c_lockup c_counts c_counter c_reload c_current c_memory c_reg c_kept c_pending c_active c_priorities) → va_S A s.heap H locs → lv_has ls 5 [] → FF = k_ThumbCoreModel_threes_81 c_h c_n c_z c_c c_v c_reg z1 z2 → (vp_in z1 16) → W p l e rm_ThumbCoreModel_threes s m ([.ref h] : List Value).toArray below meth c H locs 0 0 Q (F0 m 81 ls [.int z2, .int z1, .ref h_reg]) := by
    intro H locs ls c_n c_z c_c c_v c_reg z1 z2 hP hD hS hl hq hi_z1
    refine va_iast hx hb hK hP hD hS 2 0 rfl rfl hi_z1 d_ThumbCoreModel_threes_81 (fun H locs hP hD hS => ?_)
    have hP : va_P D tcl (wd_ThumbCoreModel cI cB cZ h h_memory h_reg h_kept h_pending h_active h_priorities q_size c_n c_z c_c c_v c_keptFlags c_bad c_h c_after c_entered c_mask c_asleep c_lockup c_counts c_counter c_reload c_current c_memory (upd c_reg z1.toNatClampNeg z2) c_kept c_pending c_active c_priorities) H := hP
    have hD : va_D A (wd_ThumbCoreModel cI cB cZ h h_memory h_reg h_kept h_pending h_active h_priorities q_size c_n c_z c_c c_v c_keptFlags c_bad c_h c_after c_entered c_mask c_asleep c_lockup c_counts c_counter c_reload c_current c_memory (upd c_reg z1.toNatClampNeg z2) c_kept c_pending c_active c_priorities) := hD
    exact RET H locs ls 82 (c_n, c_z, c_c, c_v, (upd c_reg z1.toNatClampNeg z2)) d_ThumbCoreModel_threes_82 hP hD hS hq
  have J_43 : ∀ (H : Heap) (locs : List Loc) (ls : Array Slot) (c_n : Bool) (c_z : Bool) (c_c : Bool) (c_v : Bool) (c_reg : Nat → Int32) (y1 : Int32) (y3 : Int32) (z0 : Int32), va_P D tcl (wd_ThumbCoreModel cI cB cZ h h_memory h_reg h_kept h_pending h_active h_priorities q_size c_n c_z c_c c_v c_keptFlags c_bad c_h c_after c_entered c_mask c_asleep c_lockup c_counts c_counter c_reload c_current c_memory c_reg c_kept c_pending c_active c_priorities) H → va_D A (wd_ThumbCoreModel cI cB cZ h h_memory h_reg h_kept h_pending h_active h_priorities q_size c_n c_z c_c c_v c_keptFlags c_bad c_h c_after c_entered c_mask c_asleep c_lockup c_counts c_counter c_reload c_current c_memory c_reg c_kept c_pending c_active c_priorities) → va_S A s.heap H locs → lv_has ls 5 [(0, .ref h), (1, .int y1), (3, .int y3)] → FF = k_ThumbCoreModel_threes_43 c_h c_n c_z c_c c_v c_reg y1 y3 z0 → W p l e rm_ThumbCoreModel_threes s m ([.ref h] : List Value).toArray below meth c H locs 0 0 Q (F0 m 43 ls [.int z0]) := by
    intro H locs ls c_n c_z c_c c_v c_reg y1 y3 z0 hP hD hS hl hq
    refine lv_istore (lv' := [(4, .int z0), (0, .ref h), (1, .int y1), (3, .int y3)]) hx hb d_ThumbCoreModel_threes_43 hl (by decide) rfl (fun ls hl => ?_)
    refine lv_aload_n hx hb d_ThumbCoreModel_threes_45 rfl (lv_at hl 1 rfl) ?_
    refine va_get (D := D) (ci := 5) (v := .ref h_reg) (C := R_ThumbCoreModel) (T := F_ThumbCoreModel) (N := 23) hx hb hts u_ThumbCoreModel hown hK hP 0 rfl rfl 2 (by decide) (hts _ wf_ThumbCoreModel_13) (fun _ h9 => h9) rfl d_ThumbCoreModel_threes_46 ?_
    refine lv_aload_n hx hb d_ThumbCoreModel_threes_49 rfl (lv_at hl 1 rfl) ?_
    refine lv_iconst (v := 0) hx hb d_ThumbCoreModel_threes_50 (by decide) ?_
    refine tc_rd (va_runV (As := [.int 0]) (rest := [.ref h_reg]) ⟨hx, hb, hml, hown, hts⟩ (c_ThumbCoreModel_field l D cI cB cZ h h_memory h_reg h_kept h_pending h_active h_priorities H.size q_size c_n c_z c_c c_v c_keptFlags c_bad c_h c_after c_entered c_mask c_asleep c_lockup c_counts c_counter c_reload c_current c_memory c_reg c_kept c_pending c_active c_priorities 0) (cwV 1 hts (tc_gV wl_ThumbCoreModel_128 wm_ThumbCoreModel_field ws_ThumbCoreModel_field wi_ThumbCoreModel wc_ThumbCoreModel_field) rfl rfl rfl (by decide +kernel) ⟨Nat.le_of_ble_eq_true rfl, Nat.le_of_ble_eq_true rfl⟩) (tc_preV hK hN hP hD [0, 1, 2, 3, 4, 5, 6] rfl (by decide) (q0 := 0) rfl rfl) rfl rfl hl.1 rfl (lv_room (Nat.le_of_ble_eq_true rfl)) d_ThumbCoreModel_threes_51 (by decide)) ?_
    refine lv_topi (fun v1 e_v1 => ?_)
    have hq := tc_nm hq e_v1
    refine lv_iload_n hx hb d_ThumbCoreModel_threes_54 rfl (lv_at hl 3 rfl) ?_
    refine lv_iconst (v := 2) hx hb d_ThumbCoreModel_threes_55 (by decide) ?_
    refine lv_irem hx hb d_ThumbCoreModel_threes_56 (by decide) ?_
    refine lv_if_ne (tgt := 71) hx hb d_ThumbCoreModel_threes_57 (by decide) (fun g_57 => ?_) (fun g_57 => ?_)
    · have hq := hq.trans (if_pos g_57)
      refine lv_aload_n hx hb d_ThumbCoreModel_threes_71 rfl (lv_at hl 1 rfl) ?_
      refine lv_iload_n hx hb d_ThumbCoreModel_threes_72 rfl (lv_at hl 2 rfl) ?_
      refine lv_iload hx hb d_ThumbCoreModel_threes_73 (lv_at hl 0 rfl) ?_
      refine lv_iconst (v := (-1)) hx hb d_ThumbCoreModel_threes_75 (by decide) ?_
      refine lv_ixor hx hb d_ThumbCoreModel_threes_76 ?_
      refine lv_iconst (v := 1) hx hb d_ThumbCoreModel_threes_77 (by decide) ?_
      refine tc_mi (wo := fun u => (wd_ThumbCoreModel cI cB cZ h h_memory h_reg h_kept h_pending h_active h_priorities q_size u.2.1 u.2.2.1 u.2.2.2.1 u.2.2.2.2 c_keptFlags c_bad c_h c_after c_entered c_mask c_asleep c_lockup c_counts c_counter c_reload c_current c_memory c_reg c_kept c_pending c_active c_priorities)) (va_runV (As := [.int y1, .int (z0 ^^^ (-1)), .int 1]) (rest := [.int v1, .ref h_reg]) ⟨hx, hb, hml, hown, hts⟩ (c_ThumbCoreModel_sum l D cI cB cZ h h_memory h_reg h_kept h_pending h_active h_priorities H.size q_size c_n c_z c_c c_v c_keptFlags c_bad c_h c_after c_entered c_mask c_asleep c_lockup c_counts c_counter c_reload c_current c_memory c_reg c_kept c_pending c_active c_priorities y1 (z0 ^^^ (-1)) 1) (cwV 3 hts (tc_gV wl_ThumbCoreModel_131 wm_ThumbCoreModel_sum ws_ThumbCoreModel_sum wi_ThumbCoreModel wc_ThumbCoreModel_sum) rfl rfl rfl (by decide +kernel) ⟨Nat.le_of_ble_eq_true rfl, Nat.le_of_ble_eq_true rfl⟩) (tc_preV hK hN hP hD [0, 1, 2, 3, 4, 5, 6] rfl (by decide) (q0 := 0) rfl rfl) rfl rfl hl.1 rfl (lv_room (Nat.le_of_ble_eq_true rfl)) d_ThumbCoreModel_threes_78 (by decide)) hP hD hS hA [0, 1, 2, 3, 4, 5, 6] [] [0, 1, 2, 3, 4, 5, 6] rfl rfl (by decide) (by decide) (by decide) (fun _ => rfl) (fun u H locs hu hP hD hS => ?_)
      obtain ⟨r2, s3, s4, s5, s6⟩ := u
      have hq := hq.trans (un5_eq hu _)
      have e_r2 := hu
      have hP : va_P D tcl (wd_ThumbCoreModel cI cB cZ h h_memory h_reg h_kept h_pending h_active h_priorities q_size s3 s4 s5 s6 c_keptFlags c_bad c_h c_after c_entered c_mask c_asleep c_lockup c_counts c_counter c_reload c_current c_memory c_reg c_kept c_pending c_active c_priorities) H := hP
      have hD : va_D A (wd_ThumbCoreModel cI cB cZ h h_memory h_reg h_kept h_pending h_active h_priorities q_size s3 s4 s5 s6 c_keptFlags c_bad c_h c_after c_entered c_mask c_asleep c_lockup c_counts c_counter c_reload c_current c_memory c_reg c_kept c_pending c_active c_priorities) := hD
      refine W.eq (g2 := F0 m 81 ls [.int r2, .int v1, .ref h_reg]) rfl ?_
      exact J_81 H locs ls s3 s4 s5 s6 c_reg v1 r2 hP hD hS (lv_sub hl [] rfl) hq (tc_enF e_v1)
    · have hq := hq.trans (if_neg (fun g => g g_57))
      refine lv_aload_n hx hb d_ThumbCoreModel_threes_60 rfl (lv_at hl 1 rfl) ?_
      refine lv_iload_n hx hb d_ThumbCoreModel_threes_61 rfl (lv_at hl 2 rfl) ?_
      refine lv_iload hx hb d_ThumbCoreModel_threes_62 (lv_at hl 0 rfl) ?_
      refine lv_iconst (v := 0) hx hb d_ThumbCoreModel_threes_64 (by decide) ?_
      refine tc_mi (wo := fun u => (wd_ThumbCoreModel cI cB cZ h h_memory h_reg h_kept h_pending h_active h_priorities q_size u.2.1 u.2.2.1 u.2.2.2.1 u.2.2.2.2 c_keptFlags c_bad c_h c_after c_entered c_mask c_asleep c_lockup c_counts c_counter c_reload c_current c_memory c_reg c_kept c_pending c_active c_priorities)) (va_runV (As := [.int y1, .int z0, .int 0]) (rest := [.int v1, .ref h_reg]) ⟨hx, hb, hml, hown, hts⟩ (c_ThumbCoreModel_sum l D cI cB cZ h h_memory h_reg h_kept h_pending h_active h_priorities H.size q_size c_n c_z c_c c_v c_keptFlags c_bad c_h c_after c_entered c_mask c_asleep c_lockup c_counts c_counter c_reload c_current c_memory c_reg c_kept c_pending c_active c_priorities y1 z0 0) (cwV 3 hts (tc_gV wl_ThumbCoreModel_131 wm_ThumbCoreModel_sum ws_ThumbCoreModel_sum wi_ThumbCoreModel wc_ThumbCoreModel_sum) rfl rfl rfl (by decide +kernel) ⟨Nat.le_of_ble_eq_true rfl, Nat.le_of_ble_eq_true rfl⟩) (tc_preV hK hN hP hD [0, 1, 2, 3, 4, 5, 6] rfl (by decide) (q0 := 0) rfl rfl) rfl rfl hl.1 rfl (lv_room (Nat.le_of_ble_eq_true rfl)) d_ThumbCoreModel_threes_65 (by decide)) hP hD hS hA [0, 1, 2, 3, 4, 5, 6] [] [0, 1, 2, 3, 4, 5, 6] rfl rfl (by decide) (by decide) (by decide) (fun _ => rfl) (fun u H locs hu hP hD hS => ?_)
      obtain ⟨r7, s8, s9, s10, s11⟩ := u
      have hq := hq.trans (un5_eq hu _)
      have e_r7 := hu
      have hP : va_P D tcl (wd_ThumbCoreModel cI cB cZ h h_memory h_reg h_kept h_pending h_active h_priorities q_size s8 s9 s10 s11 c_keptFlags c_bad c_h c_after c_entered c_mask c_asleep c_lockup c_counts c_counter c_reload c_current c_memory c_reg c_kept c_pending c_active c_priorities) H := hP
      have hD : va_D A (wd_ThumbCoreModel cI cB cZ h h_memory h_reg h_kept h_pending h_active h_priorities q_size s8 s9 s10 s11 c_keptFlags c_bad c_h c_after c_entered c_mask c_asleep c_lockup c_counts c_counter c_reload c_current c_memory c_reg c_kept c_pending c_active c_priorities) := hD
      refine W.eq (g2 := F0 m 68 ls [.int r7, .int v1, .ref h_reg]) rfl ?_
      refine lv_goto (tgt := 81) hx hb d_ThumbCoreModel_threes_68 (by decide) ?_
      exact J_81 H locs ls s8 s9 s10 s11 c_reg v1 r7 hP hD hS (lv_sub hl [] rfl) hq (tc_enF e_v1)
  have hq : FF = f_ThumbCoreModel_threes c_h c_n c_z c_c c_v c_reg := hF.symm
  revert hP hD hS
  suffices G : ∀ (H : Heap) (locs : List Loc), va_P D tcl (wd_ThumbCoreModel cI cB cZ h h_memory h_reg h_kept h_pending h_active h_priorities q_size c_n c_z c_c c_v c_keptFlags c_bad c_h c_after c_entered c_mask c_asleep c_lockup c_counts c_counter c_reload c_current c_memory c_reg c_kept c_pending c_active c_priorities) H → va_D A (wd_ThumbCoreModel cI cB cZ h h_memory h_reg h_kept h_pending h_active h_priorities q_size c_n c_z c_c c_v c_keptFlags c_bad c_h c_after c_entered c_mask c_asleep c_lockup c_counts c_counter c_reload c_current c_memory c_reg c_kept c_pending c_active c_priorities) → va_S A s.heap H locs → W p l e rm_ThumbCoreModel_threes s m ([.ref h] : List Value).toArray below meth c H locs 0 0 Q (F0 m 0 ls []) from fun hP hD hS => G _ _ hP hD hS
  intro H locs hP hD hS
  refine lv_aload_n hx hb d_ThumbCoreModel_threes_0 rfl (lv_at hl 0 rfl) ?_
  refine va_get (D := D) (ci := 5) (v := .ref h_reg) (C := R_ThumbCoreModel) (T := F_ThumbCoreModel) (N := 23) hx hb hts u_ThumbCoreModel hown hK hP 0 rfl rfl 2 (by decide) (hts _ wf_ThumbCoreModel_13) (fun _ h9 => h9) rfl d_ThumbCoreModel_threes_1 ?_
  refine lv_aload_n hx hb d_ThumbCoreModel_threes_4 rfl (lv_at hl 0 rfl) ?_
  refine lv_iconst (v := 3) hx hb d_ThumbCoreModel_threes_5 (by decide) ?_
  refine tc_rd (va_runV (As := [.int 3]) (rest := [.ref h_reg]) ⟨hx, hb, hml, hown, hts⟩ (c_ThumbCoreModel_field l D cI cB cZ h h_memory h_reg h_kept h_pending h_active h_priorities H.size q_size c_n c_z c_c c_v c_keptFlags c_bad c_h c_after c_entered c_mask c_asleep c_lockup c_counts c_counter c_reload c_current c_memory c_reg c_kept c_pending c_active c_priorities 3) (cwV 1 hts (tc_gV wl_ThumbCoreModel_128 wm_ThumbCoreModel_field ws_ThumbCoreModel_field wi_ThumbCoreModel wc_ThumbCoreModel_field) rfl rfl rfl (by decide +kernel) ⟨Nat.le_of_ble_eq_true rfl, Nat.le_of_ble_eq_true rfl⟩) (tc_preV hK hN hP hD [0, 1, 2, 3, 4, 5, 6] rfl (by decide) (q0 := 0) rfl rfl) rfl rfl hl.1 rfl (lv_room (Nat.le_of_ble_eq_true rfl)) d_ThumbCoreModel_threes_6 (by decide)) ?_
  refine lv_topi (fun v1 e_v1 => ?_)
  have hq := tc_nm hq e_v1
  refine va_iald hx hb hK hP 2 0 rfl rfl (tc_enF e_v1) d_ThumbCoreModel_threes_9 ?_
  refine lv_topi (fun v2 e_v2 => ?_)
  have hq := tc_nm hq e_v2
  refine lv_istore_n (lv' := [(1, .int v2), (0, .ref h)]) hx hb d_ThumbCoreModel_threes_10 rfl hl (by decide) rfl (fun ls hl => ?_)
  refine lv_aload_n hx hb d_ThumbCoreModel_threes_11 rfl (lv_at hl 1 rfl) ?_
  refine lv_bipush (v := 6) hx hb d_ThumbCoreModel_threes_12 (by decide) ?_
  refine tc_rd (va_runV (As := [.int 6]) (rest := []) ⟨hx, hb, hml, hown, hts⟩ (c_ThumbCoreModel_field l D cI cB cZ h h_memory h_reg h_kept h_pending h_active h_priorities H.size q_size c_n c_z c_c c_v c_keptFlags c_bad c_h c_after c_entered c_mask c_asleep c_lockup c_counts c_counter c_reload c_current c_memory c_reg c_kept c_pending c_active c_priorities 6) (cwV 1 hts (tc_gV wl_ThumbCoreModel_128 wm_ThumbCoreModel_field ws_ThumbCoreModel_field wi_ThumbCoreModel wc_ThumbCoreModel_field) rfl rfl rfl (by decide +kernel) ⟨Nat.le_of_ble_eq_true rfl, Nat.le_of_ble_eq_true rfl⟩) (tc_preV hK hN hP hD [0, 1, 2, 3, 4, 5, 6] rfl (by decide) (q0 := 0) rfl rfl) rfl rfl hl.1 rfl (lv_room (Nat.le_of_ble_eq_true rfl)) d_ThumbCoreModel_threes_14 (by decide)) ?_
  refine lv_topi (fun v3 e_v3 => ?_)
  have hq := tc_nm hq e_v3
  refine lv_istore_n (lv' := [(2, .int v3), (1, .int v2), (0, .ref h)]) hx hb d_ThumbCoreModel_threes_17 rfl hl (by decide) rfl (fun ls hl => ?_)
  refine lv_aload_n hx hb d_ThumbCoreModel_threes_18 rfl (lv_at hl 2 rfl) ?_
  refine va_get (D := D) (ci := 5) (v := .int c_h) (C := R_ThumbCoreModel) (T := F_ThumbCoreModel) (N := 23) hx hb hts u_ThumbCoreModel hown hK hP 0 rfl rfl 10 (by decide) (hts _ wf_ThumbCoreModel_125) (fun _ h9 => h9) rfl d_ThumbCoreModel_threes_19 ?_
  refine lv_bipush (v := 9) hx hb d_ThumbCoreModel_threes_22 (by decide) ?_
  refine lv_ishr hx hb d_ThumbCoreModel_threes_24 ?_
  refine lv_iconst (v := 3) hx hb d_ThumbCoreModel_threes_25 (by decide) ?_
  refine lv_iand hx hb d_ThumbCoreModel_threes_26 ?_
  refine lv_topi (fun v4 e_v4 => ?_)
  have hq := tc_nm hq e_v4
  refine lv_istore_n (lv' := [(3, .int v4), (2, .int v3), (1, .int v2), (0, .ref h)]) hx hb d_ThumbCoreModel_threes_27 rfl hl (by decide) rfl (fun ls hl => ?_)
  refine lv_iload_n hx hb d_ThumbCoreModel_threes_28 rfl (lv_at hl 0 rfl) ?_
  refine lv_iconst (v := 2) hx hb d_ThumbCoreModel_threes_29 (by decide) ?_
  refine lv_icmp_ge (tgt := 42) hx hb d_ThumbCoreModel_threes_30 (by decide) (fun g_30 => ?_) (fun g_30 => ?_)
  · have hq := hq.trans (if_pos g_30)
    refine lv_iload_n hx hb d_ThumbCoreModel_threes_42 rfl (lv_at hl 1 rfl) ?_
    exact J_43 H locs ls c_n c_z c_c c_v c_reg v2 v4 v3 hP hD hS (lv_sub hl [3, 2, 0] rfl) hq
  · have hq := hq.trans (if_neg g_30)
    refine lv_aload_n hx hb d_ThumbCoreModel_threes_33 rfl (lv_at hl 3 rfl) ?_
    refine va_get (D := D) (ci := 5) (v := .ref h_reg) (C := R_ThumbCoreModel) (T := F_ThumbCoreModel) (N := 23) hx hb hts u_ThumbCoreModel hown hK hP 0 rfl rfl 2 (by decide) (hts _ wf_ThumbCoreModel_13) (fun _ h9 => h9) rfl d_ThumbCoreModel_threes_34 ?_
    refine lv_iload_n hx hb d_ThumbCoreModel_threes_37 rfl (lv_at hl 1 rfl) ?_
    refine va_iald hx hb hK hP 2 0 rfl rfl (tc_enF e_v3) d_ThumbCoreModel_threes_38 ?_
    refine lv_goto (tgt := 43) hx hb d_ThumbCoreModel_threes_39 (by decide) ?_
    exact J_43 H locs ls c_n c_z c_c c_v c_reg v2 v4 (c_reg v3.toNatClampNeg) hP hD hS (lv_sub hl [3, 2, 0] rfl) hq
abbrev rm_ThumbCoreModel_bytes : Room := { frames := 3, cells := 0, slots := 0, locals := 73 }
set_option maxHeartbeats 4000000 in
set_option maxRecDepth 100000 in
theorem c_ThumbCoreModel_bytes (l : Launch) (D : va_G) (cI cB cZ : ClassId) (h h_memory h_reg h_kept h_pending h_active h_priorities sz : Nat) (q_size : Int32) (c_n : Bool) (c_z : Bool) (c_c : Bool) (c_v : Bool) (c_keptFlags : Int32) (c_bad : Bool) (c_h : Int32) (c_after : Int32) (c_entered : Bool) (c_mask : Bool) (c_asleep : Bool) (c_lockup : Bool) (c_counts : Bool) (c_counter : Int32) (c_reload : Int32) (c_current : Int32) (c_memory : Nat → Int32) (c_reg : Nat → Int32) (c_kept : Nat → Int32) (c_pending : Nat → Bool) (c_active : Nat → Bool) (c_priorities : Nat → Int32) (x1 : Int32) : Met l y_ThumbCoreModel_bytes (.code y_ThumbCoreModel_bytes b_ThumbCoreModel_bytes 5 none :: tcb) rm_ThumbCoreModel_bytes (tc_Pw D tcl (tys cI cB cZ) (wd_ThumbCoreModel cI cB cZ h h_memory h_reg h_kept h_pending h_active h_priorities q_size c_n c_z c_c c_v c_keptFlags c_bad c_h c_after c_entered c_mask c_asleep c_lockup c_counts c_counter c_reload c_current c_memory c_reg c_kept c_pending c_active c_priorities) sz ([.ref h, .int x1] : List Value) none) (tc_Qv D tcl (wd_ThumbCoreModel cI cB cZ h h_memory h_reg h_kept h_pending h_active h_priorities q_size c_n c_z c_c c_v c_keptFlags c_bad c_h c_after c_entered c_mask c_asleep c_lockup c_counts c_counter c_reload c_current c_memory c_reg c_kept c_pending c_active c_priorities) sz (fun u => (wd_ThumbCoreModel cI cB cZ h h_memory h_reg h_kept h_pending h_active h_priorities q_size u.1 u.2.1 u.2.2.1 u.2.2.2.1 c_keptFlags c_bad c_h c_after c_entered c_mask c_asleep c_lockup c_counts c_counter c_reload c_current c_memory u.2.2.2.2 c_kept c_pending c_active c_priorities)) (f_ThumbCoreModel_bytes c_h c_n c_z c_c c_v c_reg x1)) 0 0 (va_A (wd_ThumbCoreModel cI cB cZ h h_memory h_reg h_kept h_pending h_active h_priorities q_size c_n c_z c_c c_v c_keptFlags c_bad c_h c_after c_entered c_mask c_asleep c_lockup c_counts c_counter c_reload c_current c_memory c_reg c_kept c_pending c_active c_priorities) sz) := by
  refine tc_mu_v (by decide) (Nat.le_of_ble_eq_true rfl) ?_
  intro p e s m below meth c A Q ls hx hb hml hts hown hK hN hP hD hA hZ hl RET
  have hS : va_S A s.heap s.heap [] := va_S.rf
  have hl : lv_has ls 5 [(0, .ref h), (1, .int x1)] := hl
  generalize hF : f_ThumbCoreModel_bytes c_h c_n c_z c_c c_v c_reg x1 = FF at RET
  have J_99 : ∀ (H : Heap) (locs : List Loc) (ls : Array Slot) (c_n : Bool) (c_z : Bool) (c_c : Bool) (c_v : Bool) (c_reg : Nat → Int32) (z1 : Int32) (z2 : Int32), va_P D tcl (wd_ThumbCoreModel cI cB cZ h h_memory h_reg h_kept h_pending h_active h_priorities q_size c_n c_z c_c c_v c_keptFlags c_bad c_h c_after c_entered c_mask c_asleep c_lockup c_counts c_counter c_reload c_current c_memory c_reg c_kept c_pending c_active c_priorities) H → va_D A (wd_ThumbCoreModel cI cB cZ h h_memory h_reg h_kept h_pending h_active h_priorities q_size c_n c_z c_c c_v c_keptFlags c_bad c_h c_after c_entered c_mask c_asleep c_lockup c_counts c_counter c_reload c_current c_memory c_reg c_kept c_pending c_active c_priorities) → va_S A s.heap H locs → lv_has ls 5 [] → FF = k_ThumbCoreModel_bytes_99 c_h c_n c_z c_c c_v c_reg z1 z2 → (vp_in z1 16) → W p l e rm_ThumbCoreModel_bytes s m ([.ref h, .int x1] : List Value).toArray below meth c H locs 0 0 Q (F0 m 99 ls [.int z2, .int z1, .ref h_reg]) := by
    intro H locs ls c_n c_z c_c c_v c_reg z1 z2 hP hD hS hl hq hi_z1
    refine va_iast hx hb hK hP hD hS 2 0 rfl rfl hi_z1 d_ThumbCoreModel_bytes_99 (fun H locs hP hD hS => ?_)
    have hP : va_P D tcl (wd_ThumbCoreModel cI cB cZ h h_memory h_reg h_kept h_pending h_active h_priorities q_size c_n c_z c_c c_v c_keptFlags c_bad c_h c_after c_entered c_mask c_asleep c_lockup c_counts c_counter c_reload c_current c_memory (upd c_reg z1.toNatClampNeg z2) c_kept c_pending c_active c_priorities) H := hP
    have hD : va_D A (wd_ThumbCoreModel cI cB cZ h h_memory h_reg h_kept h_pending h_active h_priorities q_size c_n c_z c_c c_v c_keptFlags c_bad c_h c_after c_entered c_mask c_asleep c_lockup c_counts c_counter c_reload c_current c_memory (upd c_reg z1.toNatClampNeg z2) c_kept c_pending c_active c_priorities) := hD
    exact RET H locs ls 100 (c_n, c_z, c_c, c_v, (upd c_reg z1.toNatClampNeg z2)) d_ThumbCoreModel_bytes_100 hP hD hS hq
  have hq : FF = f_ThumbCoreModel_bytes c_h c_n c_z c_c c_v c_reg x1 := hF.symm
  revert hP hD hS
  suffices G : ∀ (H : Heap) (locs : List Loc), va_P D tcl (wd_ThumbCoreModel cI cB cZ h h_memory h_reg h_kept h_pending h_active h_priorities q_size c_n c_z c_c c_v c_keptFlags c_bad c_h c_after c_entered c_mask c_asleep c_lockup c_counts c_counter c_reload c_current c_memory c_reg c_kept c_pending c_active c_priorities) H → va_D A (wd_ThumbCoreModel cI cB cZ h h_memory h_reg h_kept h_pending h_active h_priorities q_size c_n c_z c_c c_v c_keptFlags c_bad c_h c_after c_entered c_mask c_asleep c_lockup c_counts c_counter c_reload c_current c_memory c_reg c_kept c_pending c_active c_priorities) → va_S A s.heap H locs → W p l e rm_ThumbCoreModel_bytes s m ([.ref h, .int x1] : List Value).toArray below meth c H locs 0 0 Q (F0 m 0 ls []) from fun hP hD hS => G _ _ hP hD hS
  intro H locs hP hD hS
  refine lv_aload_n hx hb d_ThumbCoreModel_bytes_0 rfl (lv_at hl 0 rfl) ?_
  refine lv_bipush (v := 8) hx hb d_ThumbCoreModel_bytes_1 (by decide) ?_
  refine tc_rd (va_runV (As := [.int 8]) (rest := []) ⟨hx, hb, hml, hown, hts⟩ (c_ThumbCoreModel_field l D cI cB cZ h h_memory h_reg h_kept h_pending h_active h_priorities H.size q_size c_n c_z c_c c_v c_keptFlags c_bad c_h c_after c_entered c_mask c_asleep c_lockup c_counts c_counter c_reload c_current c_memory c_reg c_kept c_pending c_active c_priorities 8) (cwV 1 hts (tc_gV wl_ThumbCoreModel_128 wm_ThumbCoreModel_field ws_ThumbCoreModel_field wi_ThumbCoreModel wc_ThumbCoreModel_field) rfl rfl rfl (by decide +kernel) ⟨Nat.le_of_ble_eq_true rfl, Nat.le_of_ble_eq_true rfl⟩) (tc_preV hK hN hP hD [0, 1, 2, 3, 4, 5, 6] rfl (by decide) (q0 := 0) rfl rfl) rfl rfl hl.1 rfl (lv_room (Nat.le_of_ble_eq_true rfl)) d_ThumbCoreModel_bytes_3 (by decide)) ?_
  refine lv_topi (fun v1 e_v1 => ?_)
  have hq := tc_nm hq e_v1
  refine lv_istore_n (lv' := [(2, .int v1), (0, .ref h), (1, .int x1)]) hx hb d_ThumbCoreModel_bytes_6 rfl hl (by decide) rfl (fun ls hl => ?_)
  refine lv_aload_n hx hb d_ThumbCoreModel_bytes_7 rfl (lv_at hl 1 rfl) ?_
  refine va_get (D := D) (ci := 5) (v := .int c_h) (C := R_ThumbCoreModel) (T := F_ThumbCoreModel) (N := 23) hx hb hts u_ThumbCoreModel hown hK hP 0 rfl rfl 10 (by decide) (hts _ wf_ThumbCoreModel_125) (fun _ h9 => h9) rfl d_ThumbCoreModel_bytes_8 ?_
  refine lv_sipush (v := 255) hx hb d_ThumbCoreModel_bytes_11 (by decide) ?_
  refine lv_iand hx hb d_ThumbCoreModel_bytes_14 ?_
  refine lv_topi (fun v2 e_v2 => ?_)
  have hq := tc_nm hq e_v2
  refine lv_istore_n (lv' := [(3, .int v2), (2, .int v1), (0, .ref h), (1, .int x1)]) hx hb d_ThumbCoreModel_bytes_15 rfl hl (by decide) rfl (fun ls hl => ?_)
  refine lv_iload_n hx hb d_ThumbCoreModel_bytes_16 rfl (lv_at hl 3 rfl) ?_
  refine lv_iconst (v := 4) hx hb d_ThumbCoreModel_bytes_17 (by decide) ?_
  refine lv_icmp_ne (tgt := 35) hx hb d_ThumbCoreModel_bytes_18 (by decide) (fun g_18 => ?_) (fun g_18 => ?_)
  · have hq := hq.trans (if_pos g_18)
    refine lv_iload_n hx hb d_ThumbCoreModel_bytes_35 rfl (lv_at hl 3 rfl) ?_
    refine lv_iconst (v := 5) hx hb d_ThumbCoreModel_bytes_36 (by decide) ?_
    refine lv_icmp_ne (tgt := 59) hx hb d_ThumbCoreModel_bytes_37 (by decide) (fun g_37 => ?_) (fun g_37 => ?_)
    · have hq := hq.trans (if_pos g_37)
      refine lv_aload_n hx hb d_ThumbCoreModel_bytes_59 rfl (lv_at hl 2 rfl) ?_
      refine va_get (D := D) (ci := 5) (v := .ref h_reg) (C := R_ThumbCoreModel) (T := F_ThumbCoreModel) (N := 23) hx hb hts u_ThumbCoreModel hown hK hP 0 rfl rfl 2 (by decide) (hts _ wf_ThumbCoreModel_13) (fun _ h9 => h9) rfl d_ThumbCoreModel_bytes_60 ?_
      refine lv_iload_n hx hb d_ThumbCoreModel_bytes_63 rfl (lv_at hl 1 rfl) ?_
      refine lv_iload_n hx hb d_ThumbCoreModel_bytes_64 rfl (lv_at hl 3 rfl) ?_
      refine lv_bipush (v := 6) hx hb d_ThumbCoreModel_bytes_65 (by decide) ?_
      refine lv_icmp_ne (tgt := 85) hx hb d_ThumbCoreModel_bytes_67 (by decide) (fun g_67 => ?_) (fun g_67 => ?_)
      · have hq := hq.trans (if_pos g_67)
        refine lv_aload_n hx hb d_ThumbCoreModel_bytes_85 rfl (lv_at hl 2 rfl) ?_
        refine lv_aload_n hx hb d_ThumbCoreModel_bytes_86 rfl (lv_at hl 2 rfl) ?_
        refine va_get (D := D) (ci := 5) (v := .ref h_reg) (C := R_ThumbCoreModel) (T := F_ThumbCoreModel) (N := 23) hx hb hts u_ThumbCoreModel hown hK hP 0 rfl rfl 2 (by decide) (hts _ wf_ThumbCoreModel_13) (fun _ h9 => h9) rfl d_ThumbCoreModel_bytes_87 ?_
        refine lv_iload_n hx hb d_ThumbCoreModel_bytes_90 rfl (lv_at hl 1 rfl) ?_
        refine va_iald hx hb hK hP 2 0 rfl rfl (tc_enF e_v1) d_ThumbCoreModel_bytes_91 ?_
        refine lv_iload_n hx hb d_ThumbCoreModel_bytes_92 rfl (lv_at hl 0 rfl) ?_
        refine lv_iconst (v := (-1)) hx hb d_ThumbCoreModel_bytes_93 (by decide) ?_
        refine lv_ixor hx hb d_ThumbCoreModel_bytes_94 ?_
        refine lv_iconst (v := 1) hx hb d_ThumbCoreModel_bytes_95 (by decide) ?_
        refine tc_mi (wo := fun u => (wd_ThumbCoreModel cI cB cZ h h_memory h_reg h_kept h_pending h_active h_priorities q_size u.2.1 u.2.2.1 u.2.2.2.1 u.2.2.2.2 c_keptFlags c_bad c_h c_after c_entered c_mask c_asleep c_lockup c_counts c_counter c_reload c_current c_memory c_reg c_kept c_pending c_active c_priorities)) (va_runV (As := [.int (c_reg v1.toNatClampNeg), .int (v2 ^^^ (-1)), .int 1]) (rest := [.int v1, .ref h_reg]) ⟨hx, hb, hml, hown, hts⟩ (c_ThumbCoreModel_sum l D cI cB cZ h h_memory h_reg h_kept h_pending h_active h_priorities H.size q_size c_n c_z c_c c_v c_keptFlags c_bad c_h c_after c_entered c_mask c_asleep c_lockup c_counts c_counter c_reload c_current c_memory c_reg c_kept c_pending c_active c_priorities (c_reg v1.toNatClampNeg) (v2 ^^^ (-1)) 1) (cwV 3 hts (tc_gV wl_ThumbCoreModel_131 wm_ThumbCoreModel_sum ws_ThumbCoreModel_sum wi_ThumbCoreModel wc_ThumbCoreModel_sum) rfl rfl rfl (by decide +kernel) ⟨Nat.le_of_ble_eq_true rfl, Nat.le_of_ble_eq_true rfl⟩) (tc_preV hK hN hP hD [0, 1, 2, 3, 4, 5, 6] rfl (by decide) (q0 := 0) rfl rfl) rfl rfl hl.1 rfl (lv_room (Nat.le_of_ble_eq_true rfl)) d_ThumbCoreModel_bytes_96 (by decide)) hP hD hS hA [0, 1, 2, 3, 4, 5, 6] [] [0, 1, 2, 3, 4, 5, 6] rfl rfl (by decide) (by decide) (by decide) (fun _ => rfl) (fun u H locs hu hP hD hS => ?_)
        obtain ⟨r3, s4, s5, s6, s7⟩ := u
        have hq := hq.trans (un5_eq hu _)
        have e_r3 := hu
        have hP : va_P D tcl (wd_ThumbCoreModel cI cB cZ h h_memory h_reg h_kept h_pending h_active h_priorities q_size s4 s5 s6 s7 c_keptFlags c_bad c_h c_after c_entered c_mask c_asleep c_lockup c_counts c_counter c_reload c_current c_memory c_reg c_kept c_pending c_active c_priorities) H := hP
        have hD : va_D A (wd_ThumbCoreModel cI cB cZ h h_memory h_reg h_kept h_pending h_active h_priorities q_size s4 s5 s6 s7 c_keptFlags c_bad c_h c_after c_entered c_mask c_asleep c_lockup c_counts c_counter c_reload c_current c_memory c_reg c_kept c_pending c_active c_priorities) := hD
        refine W.eq (g2 := F0 m 99 ls [.int r3, .int v1, .ref h_reg]) rfl ?_
        exact J_99 H locs ls s4 s5 s6 s7 c_reg v1 r3 hP hD hS (lv_sub hl [] rfl) hq (tc_enF e_v1)
      · have hq := hq.trans (if_neg (fun g => g g_67))
        refine lv_aload_n hx hb d_ThumbCoreModel_bytes_70 rfl (lv_at hl 2 rfl) ?_
        refine lv_aload_n hx hb d_ThumbCoreModel_bytes_71 rfl (lv_at hl 2 rfl) ?_
        refine va_get (D := D) (ci := 5) (v := .ref h_reg) (C := R_ThumbCoreModel) (T := F_ThumbCoreModel) (N := 23) hx hb hts u_ThumbCoreModel hown hK hP 0 rfl rfl 2 (by decide) (hts _ wf_ThumbCoreModel_13) (fun _ h9 => h9) rfl d_ThumbCoreModel_bytes_72 ?_
        refine lv_iload_n hx hb d_ThumbCoreModel_bytes_75 rfl (lv_at hl 1 rfl) ?_
        refine va_iald hx hb hK hP 2 0 rfl rfl (tc_enF e_v1) d_ThumbCoreModel_bytes_76 ?_
        refine lv_iload_n hx hb d_ThumbCoreModel_bytes_77 rfl (lv_at hl 0 rfl) ?_
        refine lv_iconst (v := 0) hx hb d_ThumbCoreModel_bytes_78 (by decide) ?_
        refine tc_mi (wo := fun u => (wd_ThumbCoreModel cI cB cZ h h_memory h_reg h_kept h_pending h_active h_priorities q_size u.2.1 u.2.2.1 u.2.2.2.1 u.2.2.2.2 c_keptFlags c_bad c_h c_after c_entered c_mask c_asleep c_lockup c_counts c_counter c_reload c_current c_memory c_reg c_kept c_pending c_active c_priorities)) (va_runV (As := [.int (c_reg v1.toNatClampNeg), .int v2, .int 0]) (rest := [.int v1, .ref h_reg]) ⟨hx, hb, hml, hown, hts⟩ (c_ThumbCoreModel_sum l D cI cB cZ h h_memory h_reg h_kept h_pending h_active h_priorities H.size q_size c_n c_z c_c c_v c_keptFlags c_bad c_h c_after c_entered c_mask c_asleep c_lockup c_counts c_counter c_reload c_current c_memory c_reg c_kept c_pending c_active c_priorities (c_reg v1.toNatClampNeg) v2 0) (cwV 3 hts (tc_gV wl_ThumbCoreModel_131 wm_ThumbCoreModel_sum ws_ThumbCoreModel_sum wi_ThumbCoreModel wc_ThumbCoreModel_sum) rfl rfl rfl (by decide +kernel) ⟨Nat.le_of_ble_eq_true rfl, Nat.le_of_ble_eq_true rfl⟩) (tc_preV hK hN hP hD [0, 1, 2, 3, 4, 5, 6] rfl (by decide) (q0 := 0) rfl rfl) rfl rfl hl.1 rfl (lv_room (Nat.le_of_ble_eq_true rfl)) d_ThumbCoreModel_bytes_79 (by decide)) hP hD hS hA [0, 1, 2, 3, 4, 5, 6] [] [0, 1, 2, 3, 4, 5, 6] rfl rfl (by decide) (by decide) (by decide) (fun _ => rfl) (fun u H locs hu hP hD hS => ?_)
        obtain ⟨r8, s9, s10, s11, s12⟩ := u
        have hq := hq.trans (un5_eq hu _)
        have e_r8 := hu
        have hP : va_P D tcl (wd_ThumbCoreModel cI cB cZ h h_memory h_reg h_kept h_pending h_active h_priorities q_size s9 s10 s11 s12 c_keptFlags c_bad c_h c_after c_entered c_mask c_asleep c_lockup c_counts c_counter c_reload c_current c_memory c_reg c_kept c_pending c_active c_priorities) H := hP
        have hD : va_D A (wd_ThumbCoreModel cI cB cZ h h_memory h_reg h_kept h_pending h_active h_priorities q_size s9 s10 s11 s12 c_keptFlags c_bad c_h c_after c_entered c_mask c_asleep c_lockup c_counts c_counter c_reload c_current c_memory c_reg c_kept c_pending c_active c_priorities) := hD
        refine W.eq (g2 := F0 m 82 ls [.int r8, .int v1, .ref h_reg]) rfl ?_
        refine lv_goto (tgt := 99) hx hb d_ThumbCoreModel_bytes_82 (by decide) ?_
        exact J_99 H locs ls s9 s10 s11 s12 c_reg v1 r8 hP hD hS (lv_sub hl [] rfl) hq (tc_enF e_v1)
    · have hq := hq.trans (if_neg (fun g => g g_37))
      refine lv_aload_n hx hb d_ThumbCoreModel_bytes_40 rfl (lv_at hl 2 rfl) ?_
      refine lv_aload_n hx hb d_ThumbCoreModel_bytes_41 rfl (lv_at hl 2 rfl) ?_
      refine va_get (D := D) (ci := 5) (v := .ref h_reg) (C := R_ThumbCoreModel) (T := F_ThumbCoreModel) (N := 23) hx hb hts u_ThumbCoreModel hown hK hP 0 rfl rfl 2 (by decide) (hts _ wf_ThumbCoreModel_13) (fun _ h9 => h9) rfl d_ThumbCoreModel_bytes_42 ?_
      refine lv_iload_n hx hb d_ThumbCoreModel_bytes_45 rfl (lv_at hl 1 rfl) ?_
      refine va_iald hx hb hK hP 2 0 rfl rfl (tc_enF e_v1) d_ThumbCoreModel_bytes_46 ?_
      refine lv_iload_n hx hb d_ThumbCoreModel_bytes_47 rfl (lv_at hl 0 rfl) ?_
      refine lv_iconst (v := (-1)) hx hb d_ThumbCoreModel_bytes_48 (by decide) ?_
      refine lv_ixor hx hb d_ThumbCoreModel_bytes_49 ?_
      refine lv_iconst (v := 1) hx hb d_ThumbCoreModel_bytes_50 (by decide) ?_
      refine tc_mi (wo := fun u => (wd_ThumbCoreModel cI cB cZ h h_memory h_reg h_kept h_pending h_active h_priorities q_size u.2.1 u.2.2.1 u.2.2.2.1 u.2.2.2.2 c_keptFlags c_bad c_h c_after c_entered c_mask c_asleep c_lockup c_counts c_counter c_reload c_current c_memory c_reg c_kept c_pending c_active c_priorities)) (va_runV (As := [.int (c_reg v1.toNatClampNeg), .int (v2 ^^^ (-1)), .int 1]) (rest := []) ⟨hx, hb, hml, hown, hts⟩ (c_ThumbCoreModel_sum l D cI cB cZ h h_memory h_reg h_kept h_pending h_active h_priorities H.size q_size c_n c_z c_c c_v c_keptFlags c_bad c_h c_after c_entered c_mask c_asleep c_lockup c_counts c_counter c_reload c_current c_memory c_reg c_kept c_pending c_active c_priorities (c_reg v1.toNatClampNeg) (v2 ^^^ (-1)) 1) (cwV 3 hts (tc_gV wl_ThumbCoreModel_131 wm_ThumbCoreModel_sum ws_ThumbCoreModel_sum wi_ThumbCoreModel wc_ThumbCoreModel_sum) rfl rfl rfl (by decide +kernel) ⟨Nat.le_of_ble_eq_true rfl, Nat.le_of_ble_eq_true rfl⟩) (tc_preV hK hN hP hD [0, 1, 2, 3, 4, 5, 6] rfl (by decide) (q0 := 0) rfl rfl) rfl rfl hl.1 rfl (lv_room (Nat.le_of_ble_eq_true rfl)) d_ThumbCoreModel_bytes_51 (by decide)) hP hD hS hA [0, 1, 2, 3, 4, 5, 6] [] [0, 1, 2, 3, 4, 5, 6] rfl rfl (by decide) (by decide) (by decide) (fun _ => rfl) (fun u H locs hu hP hD hS => ?_)
      obtain ⟨r13, s14, s15, s16, s17⟩ := u
      have hq := hq.trans (un5_eq hu _)
      have e_r13 := hu
      have hP : va_P D tcl (wd_ThumbCoreModel cI cB cZ h h_memory h_reg h_kept h_pending h_active h_priorities q_size s14 s15 s16 s17 c_keptFlags c_bad c_h c_after c_entered c_mask c_asleep c_lockup c_counts c_counter c_reload c_current c_memory c_reg c_kept c_pending c_active c_priorities) H := hP
      have hD : va_D A (wd_ThumbCoreModel cI cB cZ h h_memory h_reg h_kept h_pending h_active h_priorities q_size s14 s15 s16 s17 c_keptFlags c_bad c_h c_after c_entered c_mask c_asleep c_lockup c_counts c_counter c_reload c_current c_memory c_reg c_kept c_pending c_active c_priorities) := hD
      refine W.eq (g2 := F0 m 54 ls [.int r13]) rfl ?_
      refine lv_istore (lv' := [(4, .int r13), (3, .int v2), (2, .int v1), (0, .ref h), (1, .int x1)]) hx hb d_ThumbCoreModel_bytes_54 hl (by decide) rfl (fun ls hl => ?_)
      refine lv_goto (tgt := 100) hx hb d_ThumbCoreModel_bytes_56 (by decide) ?_
      exact RET H locs ls 100 (s14, s15, s16, s17, c_reg) d_ThumbCoreModel_bytes_100 hP hD hS hq
  · have hq := hq.trans (if_neg (fun g => g g_18))
    refine lv_aload_n hx hb d_ThumbCoreModel_bytes_21 rfl (lv_at hl 2 rfl) ?_
    refine va_get (D := D) (ci := 5) (v := .ref h_reg) (C := R_ThumbCoreModel) (T := F_ThumbCoreModel) (N := 23) hx hb hts u_ThumbCoreModel hown hK hP 0 rfl rfl 2 (by decide) (hts _ wf_ThumbCoreModel_13) (fun _ h9 => h9) rfl d_ThumbCoreModel_bytes_22 ?_
    refine lv_iload_n hx hb d_ThumbCoreModel_bytes_25 rfl (lv_at hl 1 rfl) ?_
    refine lv_aload_n hx hb d_ThumbCoreModel_bytes_26 rfl (lv_at hl 2 rfl) ?_
    refine lv_iload_n hx hb d_ThumbCoreModel_bytes_27 rfl (lv_at hl 0 rfl) ?_
    refine tc_mi (wo := fun u => (wd_ThumbCoreModel cI cB cZ h h_memory h_reg h_kept h_pending h_active h_priorities q_size u.2.1 u.2.2 c_c c_v c_keptFlags c_bad c_h c_after c_entered c_mask c_asleep c_lockup c_counts c_counter c_reload c_current c_memory c_reg c_kept c_pending c_active c_priorities)) (va_runV (As := [.int v2]) (rest := [.int v1, .ref h_reg]) ⟨hx, hb, hml, hown, hts⟩ (c_ThumbCoreModel_shown l D cI cB cZ h h_memory h_reg h_kept h_pending h_active h_priorities H.size q_size c_n c_z c_c c_v c_keptFlags c_bad c_h c_after c_entered c_mask c_asleep c_lockup c_counts c_counter c_reload c_current c_memory c_reg c_kept c_pending c_active c_priorities v2) (cwV 1 hts (tc_gV wl_ThumbCoreModel_93 wm_ThumbCoreModel_shown ws_ThumbCoreModel_shown wi_ThumbCoreModel wc_ThumbCoreModel_shown) rfl rfl rfl (by decide +kernel) ⟨Nat.le_of_ble_eq_true rfl, Nat.le_of_ble_eq_true rfl⟩) (tc_preV hK hN hP hD [0, 1, 2, 3, 4, 5, 6] rfl (by decide) (q0 := 0) rfl rfl) rfl rfl hl.1 rfl (lv_room (Nat.le_of_ble_eq_true rfl)) d_ThumbCoreModel_bytes_28 (by decide)) hP hD hS hA [0, 1, 2, 3, 4, 5, 6] [] [0, 1, 2, 3, 4, 5, 6] rfl rfl (by decide) (by decide) (by decide) (fun _ => rfl) (fun u H locs hu hP hD hS => ?_)
    obtain ⟨r18, s19, s20⟩ := u
    have hq := hq.trans (un3_eq hu _)
    have e_r18 := hu
    have hP : va_P D tcl (wd_ThumbCoreModel cI cB cZ h h_memory h_reg h_kept h_pending h_active h_priorities q_size s19 s20 c_c c_v c_keptFlags c_bad c_h c_after c_entered c_mask c_asleep c_lockup c_counts c_counter c_reload c_current c_memory c_reg c_kept c_pending c_active c_priorities) H := hP
    have hD : va_D A (wd_ThumbCoreModel cI cB cZ h h_memory h_reg h_kept h_pending h_active h_priorities q_size s19 s20 c_c c_v c_keptFlags c_bad c_h c_after c_entered c_mask c_asleep c_lockup c_counts c_counter c_reload c_current c_memory c_reg c_kept c_pending c_active c_priorities) := hD
    refine W.eq (g2 := F0 m 31 ls [.int r18, .int v1, .ref h_reg]) rfl ?_
    refine va_iast hx hb hK hP hD hS 2 0 rfl rfl (tc_enF e_v1) d_ThumbCoreModel_bytes_31 (fun H locs hP hD hS => ?_)
    have hP : va_P D tcl (wd_ThumbCoreModel cI cB cZ h h_memory h_reg h_kept h_pending h_active h_priorities q_size s19 s20 c_c c_v c_keptFlags c_bad c_h c_after c_entered c_mask c_asleep c_lockup c_counts c_counter c_reload c_current c_memory (upd c_reg v1.toNatClampNeg r18) c_kept c_pending c_active c_priorities) H := hP
    have hD : va_D A (wd_ThumbCoreModel cI cB cZ h h_memory h_reg h_kept h_pending h_active h_priorities q_size s19 s20 c_c c_v c_keptFlags c_bad c_h c_after c_entered c_mask c_asleep c_lockup c_counts c_counter c_reload c_current c_memory (upd c_reg v1.toNatClampNeg r18) c_kept c_pending c_active c_priorities) := hD
    refine lv_goto (tgt := 100) hx hb d_ThumbCoreModel_bytes_32 (by decide) ?_
    exact RET H locs ls 100 (s19, s20, c_c, c_v, (upd c_reg v1.toNatClampNeg r18)) d_ThumbCoreModel_bytes_100 hP hD hS hq
abbrev rm_ThumbCoreModel_worked : Room := { frames := 3, cells := 0, slots := 0, locals := 73 }
set_option maxHeartbeats 4000000 in
set_option maxRecDepth 100000 in
theorem c_ThumbCoreModel_worked (l : Launch) (D : va_G) (cI cB cZ : ClassId) (h h_memory h_reg h_kept h_pending h_active h_priorities sz : Nat) (q_size : Int32) (c_n : Bool) (c_z : Bool) (c_c : Bool) (c_v : Bool) (c_keptFlags : Int32) (c_bad : Bool) (c_h : Int32) (c_after : Int32) (c_entered : Bool) (c_mask : Bool) (c_asleep : Bool) (c_lockup : Bool) (c_counts : Bool) (c_counter : Int32) (c_reload : Int32) (c_current : Int32) (c_memory : Nat → Int32) (c_reg : Nat → Int32) (c_kept : Nat → Int32) (c_pending : Nat → Bool) (c_active : Nat → Bool) (c_priorities : Nat → Int32) : Met l y_ThumbCoreModel_worked (.code y_ThumbCoreModel_worked b_ThumbCoreModel_worked 6 none :: tcb) rm_ThumbCoreModel_worked (tc_Pw D tcl (tys cI cB cZ) (wd_ThumbCoreModel cI cB cZ h h_memory h_reg h_kept h_pending h_active h_priorities q_size c_n c_z c_c c_v c_keptFlags c_bad c_h c_after c_entered c_mask c_asleep c_lockup c_counts c_counter c_reload c_current c_memory c_reg c_kept c_pending c_active c_priorities) sz ([.ref h] : List Value) none) (tc_Qv D tcl (wd_ThumbCoreModel cI cB cZ h h_memory h_reg h_kept h_pending h_active h_priorities q_size c_n c_z c_c c_v c_keptFlags c_bad c_h c_after c_entered c_mask c_asleep c_lockup c_counts c_counter c_reload c_current c_memory c_reg c_kept c_pending c_active c_priorities) sz (fun u => (wd_ThumbCoreModel cI cB cZ h h_memory h_reg h_kept h_pending h_active h_priorities q_size u.1 u.2.1 u.2.2.1 u.2.2.2.1 c_keptFlags c_bad c_h c_after c_entered c_mask c_asleep c_lockup c_counts c_counter c_reload c_current c_memory u.2.2.2.2 c_kept c_pending c_active c_priorities)) (f_ThumbCoreModel_worked c_h c_n c_z c_c c_v c_reg)) 0 0 (va_A (wd_ThumbCoreModel cI cB cZ h h_memory h_reg h_kept h_pending h_active h_priorities q_size c_n c_z c_c c_v c_keptFlags c_bad c_h c_after c_entered c_mask c_asleep c_lockup c_counts c_counter c_reload c_current c_memory c_reg c_kept c_pending c_active c_priorities) sz) := by
  refine tc_mu_v (by decide) (Nat.le_of_ble_eq_true rfl) ?_
  intro p e s m below meth c A Q ls hx hb hml hts hown hK hN hP hD hA hZ hl RET
  have hS : va_S A s.heap s.heap [] := va_S.rf
  have hl : lv_has ls 6 [(0, .ref h)] := hl
  generalize hF : f_ThumbCoreModel_worked c_h c_n c_z c_c c_v c_reg = FF at RET
  have J_302 : ∀ (H : Heap) (locs : List Loc) (ls : Array Slot) (c_n : Bool) (c_z : Bool) (c_c : Bool) (c_v : Bool) (c_reg : Nat → Int32) (z1 : Bool), va_P D tcl (wd_ThumbCoreModel cI cB cZ h h_memory h_reg h_kept h_pending h_active h_priorities q_size c_n c_z c_c c_v c_keptFlags c_bad c_h c_after c_entered c_mask c_asleep c_lockup c_counts c_counter c_reload c_current c_memory c_reg c_kept c_pending c_active c_priorities) H → va_D A (wd_ThumbCoreModel cI cB cZ h h_memory h_reg h_kept h_pending h_active h_priorities q_size c_n c_z c_c c_v c_keptFlags c_bad c_h c_after c_entered c_mask c_asleep c_lockup c_counts c_counter c_reload c_current c_memory c_reg c_kept c_pending c_active c_priorities) → va_S A s.heap H locs → lv_has ls 6 [] → FF = k_ThumbCoreModel_worked_302 c_h c_n c_z c_c c_v c_reg z1 → W p l e rm_ThumbCoreModel_worked s m ([.ref h] : List Value).toArray below meth c H locs 0 0 Q (F0 m 302 ls [.int (bI z1), .ref h]) := by
    intro H locs ls c_n c_z c_c c_v c_reg z1 hP hD hS hl hq
    refine va_put (D := D) (ci := 5) (v := .int (bI z1)) (ty := .boolean) (C := R_ThumbCoreModel) (T := F_ThumbCoreModel) (N := 23) hx hb hts u_ThumbCoreModel t_ThumbCoreModel t_ThumbCoreModel_ok n_ThumbCoreModel hown hK hP hD hS 0 rfl rfl 5 (by decide) (hts _ wf_ThumbCoreModel_80) (fun _ h9 => h9) rfl (by decide +kernel) (tc_nb z1) (tc_fb z1) (Nat.le_of_ble_eq_true rfl) d_ThumbCoreModel_worked_302 (fun H locs hP hD hS => ?_)
    have hP : va_P D tcl (wd_ThumbCoreModel cI cB cZ h h_memory h_reg h_kept h_pending h_active h_priorities q_size c_n c_z z1 c_v c_keptFlags c_bad c_h c_after c_entered c_mask c_asleep c_lockup c_counts c_counter c_reload c_current c_memory c_reg c_kept c_pending c_active c_priorities) H := hP
    have hD : va_D A (wd_ThumbCoreModel cI cB cZ h h_memory h_reg h_kept h_pending h_active h_priorities q_size c_n c_z z1 c_v c_keptFlags c_bad c_h c_after c_entered c_mask c_asleep c_lockup c_counts c_counter c_reload c_current c_memory c_reg c_kept c_pending c_active c_priorities) := hD
    refine lv_goto (tgt := 424) hx hb d_ThumbCoreModel_worked_305 (by decide) ?_
    exact RET H locs ls 424 (c_n, c_z, z1, c_v, c_reg) d_ThumbCoreModel_worked_424 hP hD hS hq
  have J_36 : ∀ (H : Heap) (locs : List Loc) (ls : Array Slot) (c_n : Bool) (c_z : Bool) (c_c : Bool) (c_v : Bool) (c_reg : Nat → Int32) (y1 : Int32) (y2 : Int32) (y3 : Int32) (z0 : Bool), va_P D tcl (wd_ThumbCoreModel cI cB cZ h h_memory h_reg h_kept h_pending h_active h_priorities q_size c_n c_z c_c c_v c_keptFlags c_bad c_h c_after c_entered c_mask c_asleep c_lockup c_counts c_counter c_reload c_current c_memory c_reg c_kept c_pending c_active c_priorities) H → va_D A (wd_ThumbCoreModel cI cB cZ h h_memory h_reg h_kept h_pending h_active h_priorities q_size c_n c_z c_c c_v c_keptFlags c_bad c_h c_after c_entered c_mask c_asleep c_lockup c_counts c_counter c_reload c_current c_memory c_reg c_kept c_pending c_active c_priorities) → va_S A s.heap H locs → lv_has ls 6 [(0, .ref h), (1, .int y1), (2, .int y2), (3, .int y3)] → FF = k_ThumbCoreModel_worked_36 c_h c_n c_z c_c c_v c_reg y1 y2 y3 z0 → (vp_in y1 16) → W p l e rm_ThumbCoreModel_worked s m ([.ref h] : List Value).toArray below meth c H locs 0 0 Q (F0 m 36 ls [.int (bI z0)]) := by
    intro H locs ls c_n c_z c_c c_v c_reg y1 y2 y3 z0 hP hD hS hl hq hi_y1
    refine lv_istore (lv' := [(4, .int (bI z0)), (0, .ref h), (1, .int y1), (2, .int y2), (3, .int y3)]) hx hb d_ThumbCoreModel_worked_36 hl (by decide) rfl (fun ls hl => ?_)
    refine lv_iload_n hx hb d_ThumbCoreModel_worked_38 rfl (lv_at hl 4 rfl) ?_
    refine lv_sipush (v := 255) hx hb d_ThumbCoreModel_worked_39 (by decide) ?_
    refine lv_iand hx hb d_ThumbCoreModel_worked_42 ?_
    refine lv_topi (fun v1 e_v1 => ?_)
    have hq := tc_nm hq e_v1
    refine lv_istore (lv' := [(5, .int v1), (4, .int (bI z0)), (0, .ref h), (1, .int y1), (2, .int y2), (3, .int y3)]) hx hb d_ThumbCoreModel_worked_43 hl (by decide) rfl (fun ls hl => ?_)
    refine lv_aload_n hx hb d_ThumbCoreModel_worked_45 rfl (lv_at hl 2 rfl) ?_
    refine va_get (D := D) (ci := 5) (v := .int c_h) (C := R_ThumbCoreModel) (T := F_ThumbCoreModel) (N := 23) hx hb hts u_ThumbCoreModel hown hK hP 0 rfl rfl 10 (by decide) (hts _ wf_ThumbCoreModel_125) (fun _ h9 => h9) rfl d_ThumbCoreModel_worked_46 ?_
    refine lv_bipush (v := 6) hx hb d_ThumbCoreModel_worked_49 (by decide) ?_
    refine lv_ishr hx hb d_ThumbCoreModel_worked_51 ?_
    refine lv_bipush (v := 15) hx hb d_ThumbCoreModel_worked_52 (by decide) ?_
    refine lv_iand hx hb d_ThumbCoreModel_worked_54 ?_
    by_cases g_55_0 : ((o_ishr c_h 6) &&& 15) = 0
    · have hq := hq.trans (if_pos g_55_0)
      refine tc_tabIn (k := 0) (off := 73) (tgt := 128) hx hb d_ThumbCoreModel_worked_55 g_55_0 (by decide) (by decide) (by decide +kernel) (by decide) ?_
      refine lv_aload_n hx hb d_ThumbCoreModel_worked_128 rfl (lv_at hl 2 rfl) ?_
      refine va_get (D := D) (ci := 5) (v := .ref h_reg) (C := R_ThumbCoreModel) (T := F_ThumbCoreModel) (N := 23) hx hb hts u_ThumbCoreModel hown hK hP 0 rfl rfl 2 (by decide) (hts _ wf_ThumbCoreModel_13) (fun _ h9 => h9) rfl d_ThumbCoreModel_worked_129 ?_
      refine lv_iload_n hx hb d_ThumbCoreModel_worked_132 rfl (lv_at hl 3 rfl) ?_
      refine lv_aload_n hx hb d_ThumbCoreModel_worked_133 rfl (lv_at hl 2 rfl) ?_
      refine lv_iload_n hx hb d_ThumbCoreModel_worked_134 rfl (lv_at hl 4 rfl) ?_
      refine lv_iload_n hx hb d_ThumbCoreModel_worked_135 rfl (lv_at hl 5 rfl) ?_
      refine lv_iand hx hb d_ThumbCoreModel_worked_136 ?_
      refine tc_mi (wo := fun u => (wd_ThumbCoreModel cI cB cZ h h_memory h_reg h_kept h_pending h_active h_priorities q_size u.2.1 u.2.2 c_c c_v c_keptFlags c_bad c_h c_after c_entered c_mask c_asleep c_lockup c_counts c_counter c_reload c_current c_memory c_reg c_kept c_pending c_active c_priorities)) (va_runV (As := [.int (y2 &&& y3)]) (rest := [.int y1, .ref h_reg]) ⟨hx, hb, hml, hown, hts⟩ (c_ThumbCoreModel_shown l D cI cB cZ h h_memory h_reg h_kept h_pending h_active h_priorities H.size q_size c_n c_z c_c c_v c_keptFlags c_bad c_h c_after c_entered c_mask c_asleep c_lockup c_counts c_counter c_reload c_current c_memory c_reg c_kept c_pending c_active c_priorities (y2 &&& y3)) (cwV 1 hts (tc_gV wl_ThumbCoreModel_93 wm_ThumbCoreModel_shown ws_ThumbCoreModel_shown wi_ThumbCoreModel wc_ThumbCoreModel_shown) rfl rfl rfl (by decide +kernel) ⟨Nat.le_of_ble_eq_true rfl, Nat.le_of_ble_eq_true rfl⟩) (tc_preV hK hN hP hD [0, 1, 2, 3, 4, 5, 6] rfl (by decide) (q0 := 0) rfl rfl) rfl rfl hl.1 rfl (lv_room (Nat.le_of_ble_eq_true rfl)) d_ThumbCoreModel_worked_137 (by decide)) hP hD hS hA [0, 1, 2, 3, 4, 5, 6] [] [0, 1, 2, 3, 4, 5, 6] rfl rfl (by decide) (by decide) (by decide) (fun _ => rfl) (fun u H locs hu hP hD hS => ?_)
      obtain ⟨r2, s3, s4⟩ := u
      have hq := hq.trans (un3_eq hu _)
      have e_r2 := hu
      have hP : va_P D tcl (wd_ThumbCoreModel cI cB cZ h h_memory h_reg h_kept h_pending h_active h_priorities q_size s3 s4 c_c c_v c_keptFlags c_bad c_h c_after c_entered c_mask c_asleep c_lockup c_counts c_counter c_reload c_current c_memory c_reg c_kept c_pending c_active c_priorities) H := hP
      have hD : va_D A (wd_ThumbCoreModel cI cB cZ h h_memory h_reg h_kept h_pending h_active h_priorities q_size s3 s4 c_c c_v c_keptFlags c_bad c_h c_after c_entered c_mask c_asleep c_lockup c_counts c_counter c_reload c_current c_memory c_reg c_kept c_pending c_active c_priorities) := hD
      refine W.eq (g2 := F0 m 140 ls [.int r2, .int y1, .ref h_reg]) rfl ?_
      refine va_iast hx hb hK hP hD hS 2 0 rfl rfl hi_y1 d_ThumbCoreModel_worked_140 (fun H locs hP hD hS => ?_)
      have hP : va_P D tcl (wd_ThumbCoreModel cI cB cZ h h_memory h_reg h_kept h_pending h_active h_priorities q_size s3 s4 c_c c_v c_keptFlags c_bad c_h c_after c_entered c_mask c_asleep c_lockup c_counts c_counter c_reload c_current c_memory (upd c_reg y1.toNatClampNeg r2) c_kept c_pending c_active c_priorities) H := hP
      have hD : va_D A (wd_ThumbCoreModel cI cB cZ h h_memory h_reg h_kept h_pending h_active h_priorities q_size s3 s4 c_c c_v c_keptFlags c_bad c_h c_after c_entered c_mask c_asleep c_lockup c_counts c_counter c_reload c_current c_memory (upd c_reg y1.toNatClampNeg r2) c_kept c_pending c_active c_priorities) := hD
      refine lv_goto (tgt := 424) hx hb d_ThumbCoreModel_worked_141 (by decide) ?_
      exact RET H locs ls 424 (s3, s4, c_c, c_v, (upd c_reg y1.toNatClampNeg r2)) d_ThumbCoreModel_worked_424 hP hD hS hq
    have hq := hq.trans (if_neg g_55_0)
    by_cases g_55_1 : ((o_ishr c_h 6) &&& 15) = 1
    · have hq := hq.trans (if_pos g_55_1)
      refine tc_tabIn (k := 1) (off := 89) (tgt := 144) hx hb d_ThumbCoreModel_worked_55 g_55_1 (by decide) (by decide) (by decide +kernel) (by decide) ?_
      refine lv_aload_n hx hb d_ThumbCoreModel_worked_144 rfl (lv_at hl 2 rfl) ?_
      refine va_get (D := D) (ci := 5) (v := .ref h_reg) (C := R_ThumbCoreModel) (T := F_ThumbCoreModel) (N := 23) hx hb hts u_ThumbCoreModel hown hK hP 0 rfl rfl 2 (by decide) (hts _ wf_ThumbCoreModel_13) (fun _ h9 => h9) rfl d_ThumbCoreModel_worked_145 ?_
      refine lv_iload_n hx hb d_ThumbCoreModel_worked_148 rfl (lv_at hl 3 rfl) ?_
      refine lv_aload_n hx hb d_ThumbCoreModel_worked_149 rfl (lv_at hl 2 rfl) ?_
      refine lv_iload_n hx hb d_ThumbCoreModel_worked_150 rfl (lv_at hl 4 rfl) ?_
      refine lv_iload_n hx hb d_ThumbCoreModel_worked_151 rfl (lv_at hl 5 rfl) ?_
      refine lv_ixor hx hb d_ThumbCoreModel_worked_152 ?_
      refine tc_mi (wo := fun u => (wd_ThumbCoreModel cI cB cZ h h_memory h_reg h_kept h_pending h_active h_priorities q_size u.2.1 u.2.2 c_c c_v c_keptFlags c_bad c_h c_after c_entered c_mask c_asleep c_lockup c_counts c_counter c_reload c_current c_memory c_reg c_kept c_pending c_active c_priorities)) (va_runV (As := [.int (y2 ^^^ y3)]) (rest := [.int y1, .ref h_reg]) ⟨hx, hb, hml, hown, hts⟩ (c_ThumbCoreModel_shown l D cI cB cZ h h_memory h_reg h_kept h_pending h_active h_priorities H.size q_size c_n c_z c_c c_v c_keptFlags c_bad c_h c_after c_entered c_mask c_asleep c_lockup c_counts c_counter c_reload c_current c_memory c_reg c_kept c_pending c_active c_priorities (y2 ^^^ y3)) (cwV 1 hts (tc_gV wl_ThumbCoreModel_93 wm_ThumbCoreModel_shown ws_ThumbCoreModel_shown wi_ThumbCoreModel wc_ThumbCoreModel_shown) rfl rfl rfl (by decide +kernel) ⟨Nat.le_of_ble_eq_true rfl, Nat.le_of_ble_eq_true rfl⟩) (tc_preV hK hN hP hD [0, 1, 2, 3, 4, 5, 6] rfl (by decide) (q0 := 0) rfl rfl) rfl rfl hl.1 rfl (lv_room (Nat.le_of_ble_eq_true rfl)) d_ThumbCoreModel_worked_153 (by decide)) hP hD hS hA [0, 1, 2, 3, 4, 5, 6] [] [0, 1, 2, 3, 4, 5, 6] rfl rfl (by decide) (by decide) (by decide) (fun _ => rfl) (fun u H locs hu hP hD hS => ?_)
      obtain ⟨r5, s6, s7⟩ := u
      have hq := hq.trans (un3_eq hu _)
      have e_r5 := hu
      have hP : va_P D tcl (wd_ThumbCoreModel cI cB cZ h h_memory h_reg h_kept h_pending h_active h_priorities q_size s6 s7 c_c c_v c_keptFlags c_bad c_h c_after c_entered c_mask c_asleep c_lockup c_counts c_counter c_reload c_current c_memory c_reg c_kept c_pending c_active c_priorities) H := hP
      have hD : va_D A (wd_ThumbCoreModel cI cB cZ h h_memory h_reg h_kept h_pending h_active h_priorities q_size s6 s7 c_c c_v c_keptFlags c_bad c_h c_after c_entered c_mask c_asleep c_lockup c_counts c_counter c_reload c_current c_memory c_reg c_kept c_pending c_active c_priorities) := hD
      refine W.eq (g2 := F0 m 156 ls [.int r5, .int y1, .ref h_reg]) rfl ?_
      refine va_iast hx hb hK hP hD hS 2 0 rfl rfl hi_y1 d_ThumbCoreModel_worked_156 (fun H locs hP hD hS => ?_)
      have hP : va_P D tcl (wd_ThumbCoreModel cI cB cZ h h_memory h_reg h_kept h_pending h_active h_priorities q_size s6 s7 c_c c_v c_keptFlags c_bad c_h c_after c_entered c_mask c_asleep c_lockup c_counts c_counter c_reload c_current c_memory (upd c_reg y1.toNatClampNeg r5) c_kept c_pending c_active c_priorities) H := hP
      have hD : va_D A (wd_ThumbCoreModel cI cB cZ h h_memory h_reg h_kept h_pending h_active h_priorities q_size s6 s7 c_c c_v c_keptFlags c_bad c_h c_after c_entered c_mask c_asleep c_lockup c_counts c_counter c_reload c_current c_memory (upd c_reg y1.toNatClampNeg r5) c_kept c_pending c_active c_priorities) := hD
      refine lv_goto (tgt := 424) hx hb d_ThumbCoreModel_worked_157 (by decide) ?_
      exact RET H locs ls 424 (s6, s7, c_c, c_v, (upd c_reg y1.toNatClampNeg r5)) d_ThumbCoreModel_worked_424 hP hD hS hq
    have hq := hq.trans (if_neg g_55_1)
    by_cases g_55_2 : ((o_ishr c_h 6) &&& 15) = 2
    · have hq := hq.trans (if_pos g_55_2)
      refine tc_tabIn (k := 2) (off := 105) (tgt := 160) hx hb d_ThumbCoreModel_worked_55 g_55_2 (by decide) (by decide) (by decide +kernel) (by decide) ?_
      refine lv_aload_n hx hb d_ThumbCoreModel_worked_160 rfl (lv_at hl 2 rfl) ?_
      refine va_get (D := D) (ci := 5) (v := .ref h_reg) (C := R_ThumbCoreModel) (T := F_ThumbCoreModel) (N := 23) hx hb hts u_ThumbCoreModel hown hK hP 0 rfl rfl 2 (by decide) (hts _ wf_ThumbCoreModel_13) (fun _ h9 => h9) rfl d_ThumbCoreModel_worked_161 ?_
      refine lv_iload_n hx hb d_ThumbCoreModel_worked_164 rfl (lv_at hl 3 rfl) ?_
      refine lv_aload_n hx hb d_ThumbCoreModel_worked_165 rfl (lv_at hl 2 rfl) ?_
      refine lv_iconst (v := 0) hx hb d_ThumbCoreModel_worked_166 (by decide) ?_
      refine lv_iload_n hx hb d_ThumbCoreModel_worked_167 rfl (lv_at hl 4 rfl) ?_
      refine lv_iload hx hb d_ThumbCoreModel_worked_168 (lv_at hl 0 rfl) ?_
      refine tc_mi (wo := fun u => (wd_ThumbCoreModel cI cB cZ h h_memory h_reg h_kept h_pending h_active h_priorities q_size u.2.1 u.2.2.1 u.2.2.2 c_v c_keptFlags c_bad c_h c_after c_entered c_mask c_asleep c_lockup c_counts c_counter c_reload c_current c_memory c_reg c_kept c_pending c_active c_priorities)) (va_runV (As := [.int 0, .int y2, .int v1]) (rest := [.int y1, .ref h_reg]) ⟨hx, hb, hml, hown, hts⟩ (c_ThumbCoreModel_moved l D cI cB cZ h h_memory h_reg h_kept h_pending h_active h_priorities H.size q_size c_n c_z c_c c_v c_keptFlags c_bad c_h c_after c_entered c_mask c_asleep c_lockup c_counts c_counter c_reload c_current c_memory c_reg c_kept c_pending c_active c_priorities 0 y2 v1) (cwV 3 hts (tc_gV wl_ThumbCoreModel_135 wm_ThumbCoreModel_moved ws_ThumbCoreModel_moved wi_ThumbCoreModel wc_ThumbCoreModel_moved) rfl rfl rfl (by decide +kernel) ⟨Nat.le_of_ble_eq_true rfl, Nat.le_of_ble_eq_true rfl⟩) (tc_preV hK hN hP hD [0, 1, 2, 3, 4, 5, 6] rfl (by decide) (q0 := 0) rfl rfl) rfl rfl hl.1 rfl (lv_room (Nat.le_of_ble_eq_true rfl)) d_ThumbCoreModel_worked_170 (by decide)) hP hD hS hA [0, 1, 2, 3, 4, 5, 6] [] [0, 1, 2, 3, 4, 5, 6] rfl rfl (by decide) (by decide) (by decide) (fun _ => rfl) (fun u H locs hu hP hD hS => ?_)
      obtain ⟨r8, s9, s10, s11⟩ := u
      have hq := hq.trans (un4_eq hu _)
      have e_r8 := hu
      have hP : va_P D tcl (wd_ThumbCoreModel cI cB cZ h h_memory h_reg h_kept h_pending h_active h_priorities q_size s9 s10 s11 c_v c_keptFlags c_bad c_h c_after c_entered c_mask c_asleep c_lockup c_counts c_counter c_reload c_current c_memory c_reg c_kept c_pending c_active c_priorities) H := hP
      have hD : va_D A (wd_ThumbCoreModel cI cB cZ h h_memory h_reg h_kept h_pending h_active h_priorities q_size s9 s10 s11 c_v c_keptFlags c_bad c_h c_after c_entered c_mask c_asleep c_lockup c_counts c_counter c_reload c_current c_memory c_reg c_kept c_pending c_active c_priorities) := hD
      refine W.eq (g2 := F0 m 173 ls [.int r8, .int y1, .ref h_reg]) rfl ?_
      refine va_iast hx hb hK hP hD hS 2 0 rfl rfl hi_y1 d_ThumbCoreModel_worked_173 (fun H locs hP hD hS => ?_)
      have hP : va_P D tcl (wd_ThumbCoreModel cI cB cZ h h_memory h_reg h_kept h_pending h_active h_priorities q_size s9 s10 s11 c_v c_keptFlags c_bad c_h c_after c_entered c_mask c_asleep c_lockup c_counts c_counter c_reload c_current c_memory (upd c_reg y1.toNatClampNeg r8) c_kept c_pending c_active c_priorities) H := hP
      have hD : va_D A (wd_ThumbCoreModel cI cB cZ h h_memory h_reg h_kept h_pending h_active h_priorities q_size s9 s10 s11 c_v c_keptFlags c_bad c_h c_after c_entered c_mask c_asleep c_lockup c_counts c_counter c_reload c_current c_memory (upd c_reg y1.toNatClampNeg r8) c_kept c_pending c_active c_priorities) := hD
      refine lv_goto (tgt := 424) hx hb d_ThumbCoreModel_worked_174 (by decide) ?_
      exact RET H locs ls 424 (s9, s10, s11, c_v, (upd c_reg y1.toNatClampNeg r8)) d_ThumbCoreModel_worked_424 hP hD hS hq
    have hq := hq.trans (if_neg g_55_2)
    by_cases g_55_3 : ((o_ishr c_h 6) &&& 15) = 3
    · have hq := hq.trans (if_pos g_55_3)
      refine tc_tabIn (k := 3) (off := 122) (tgt := 177) hx hb d_ThumbCoreModel_worked_55 g_55_3 (by decide) (by decide) (by decide +kernel) (by decide) ?_
      refine lv_aload_n hx hb d_ThumbCoreModel_worked_177 rfl (lv_at hl 2 rfl) ?_
      refine va_get (D := D) (ci := 5) (v := .ref h_reg) (C := R_ThumbCoreModel) (T := F_ThumbCoreModel) (N := 23) hx hb hts u_ThumbCoreModel hown hK hP 0 rfl rfl 2 (by decide) (hts _ wf_ThumbCoreModel_13) (fun _ h9 => h9) rfl d_ThumbCoreModel_worked_178 ?_
      refine lv_iload_n hx hb d_ThumbCoreModel_worked_181 rfl (lv_at hl 3 rfl) ?_
      refine lv_aload_n hx hb d_ThumbCoreModel_worked_182 rfl (lv_at hl 2 rfl) ?_
      refine lv_iconst (v := 1) hx hb d_ThumbCoreModel_worked_183 (by decide) ?_
      refine lv_iload_n hx hb d_ThumbCoreModel_worked_184 rfl (lv_at hl 4 rfl) ?_
      refine lv_iload hx hb d_ThumbCoreModel_worked_185 (lv_at hl 0 rfl) ?_
      refine tc_mi (wo := fun u => (wd_ThumbCoreModel cI cB cZ h h_memory h_reg h_kept h_pending h_active h_priorities q_size u.2.1 u.2.2.1 u.2.2.2 c_v c_keptFlags c_bad c_h c_after c_entered c_mask c_asleep c_lockup c_counts c_counter c_reload c_current c_memory c_reg c_kept c_pending c_active c_priorities)) (va_runV (As := [.int 1, .int y2, .int v1]) (rest := [.int y1, .ref h_reg]) ⟨hx, hb, hml, hown, hts⟩ (c_ThumbCoreModel_moved l D cI cB cZ h h_memory h_reg h_kept h_pending h_active h_priorities H.size q_size c_n c_z c_c c_v c_keptFlags c_bad c_h c_after c_entered c_mask c_asleep c_lockup c_counts c_counter c_reload c_current c_memory c_reg c_kept c_pending c_active c_priorities 1 y2 v1) (cwV 3 hts (tc_gV wl_ThumbCoreModel_135 wm_ThumbCoreModel_moved ws_ThumbCoreModel_moved wi_ThumbCoreModel wc_ThumbCoreModel_moved) rfl rfl rfl (by decide +kernel) ⟨Nat.le_of_ble_eq_true rfl, Nat.le_of_ble_eq_true rfl⟩) (tc_preV hK hN hP hD [0, 1, 2, 3, 4, 5, 6] rfl (by decide) (q0 := 0) rfl rfl) rfl rfl hl.1 rfl (lv_room (Nat.le_of_ble_eq_true rfl)) d_ThumbCoreModel_worked_187 (by decide)) hP hD hS hA [0, 1, 2, 3, 4, 5, 6] [] [0, 1, 2, 3, 4, 5, 6] rfl rfl (by decide) (by decide) (by decide) (fun _ => rfl) (fun u H locs hu hP hD hS => ?_)
      obtain ⟨r12, s13, s14, s15⟩ := u
      have hq := hq.trans (un4_eq hu _)
      have e_r12 := hu
      have hP : va_P D tcl (wd_ThumbCoreModel cI cB cZ h h_memory h_reg h_kept h_pending h_active h_priorities q_size s13 s14 s15 c_v c_keptFlags c_bad c_h c_after c_entered c_mask c_asleep c_lockup c_counts c_counter c_reload c_current c_memory c_reg c_kept c_pending c_active c_priorities) H := hP
      have hD : va_D A (wd_ThumbCoreModel cI cB cZ h h_memory h_reg h_kept h_pending h_active h_priorities q_size s13 s14 s15 c_v c_keptFlags c_bad c_h c_after c_entered c_mask c_asleep c_lockup c_counts c_counter c_reload c_current c_memory c_reg c_kept c_pending c_active c_priorities) := hD
      refine W.eq (g2 := F0 m 190 ls [.int r12, .int y1, .ref h_reg]) rfl ?_
      refine va_iast hx hb hK hP hD hS 2 0 rfl rfl hi_y1 d_ThumbCoreModel_worked_190 (fun H locs hP hD hS => ?_)
      have hP : va_P D tcl (wd_ThumbCoreModel cI cB cZ h h_memory h_reg h_kept h_pending h_active h_priorities q_size s13 s14 s15 c_v c_keptFlags c_bad c_h c_after c_entered c_mask c_asleep c_lockup c_counts c_counter c_reload c_current c_memory (upd c_reg y1.toNatClampNeg r12) c_kept c_pending c_active c_priorities) H := hP
      have hD : va_D A (wd_ThumbCoreModel cI cB cZ h h_memory h_reg h_kept h_pending h_active h_priorities q_size s13 s14 s15 c_v c_keptFlags c_bad c_h c_after c_entered c_mask c_asleep c_lockup c_counts c_counter c_reload c_current c_memory (upd c_reg y1.toNatClampNeg r12) c_kept c_pending c_active c_priorities) := hD
      refine lv_goto (tgt := 424) hx hb d_ThumbCoreModel_worked_191 (by decide) ?_
      exact RET H locs ls 424 (s13, s14, s15, c_v, (upd c_reg y1.toNatClampNeg r12)) d_ThumbCoreModel_worked_424 hP hD hS hq
    have hq := hq.trans (if_neg g_55_3)
    by_cases g_55_4 : ((o_ishr c_h 6) &&& 15) = 4
    · have hq := hq.trans (if_pos g_55_4)
      refine tc_tabIn (k := 4) (off := 139) (tgt := 194) hx hb d_ThumbCoreModel_worked_55 g_55_4 (by decide) (by decide) (by decide +kernel) (by decide) ?_
      refine lv_aload_n hx hb d_ThumbCoreModel_worked_194 rfl (lv_at hl 2 rfl) ?_
      refine va_get (D := D) (ci := 5) (v := .ref h_reg) (C := R_ThumbCoreModel) (T := F_ThumbCoreModel) (N := 23) hx hb hts u_ThumbCoreModel hown hK hP 0 rfl rfl 2 (by decide) (hts _ wf_ThumbCoreModel_13) (fun _ h9 => h9) rfl d_ThumbCoreModel_worked_195 ?_
      refine lv_iload_n hx hb d_ThumbCoreModel_worked_198 rfl (lv_at hl 3 rfl) ?_
      refine lv_aload_n hx hb d_ThumbCoreModel_worked_199 rfl (lv_at hl 2 rfl) ?_
      refine lv_iconst (v := 2) hx hb d_ThumbCoreModel_worked_200 (by decide) ?_
      refine lv_iload_n hx hb d_ThumbCoreModel_worked_201 rfl (lv_at hl 4 rfl) ?_
      refine lv_iload hx hb d_ThumbCoreModel_worked_202 (lv_at hl 0 rfl) ?_
      refine tc_mi (wo := fun u => (wd_ThumbCoreModel cI cB cZ h h_memory h_reg h_kept h_pending h_active h_priorities q_size u.2.1 u.2.2.1 u.2.2.2 c_v c_keptFlags c_bad c_h c_after c_entered c_mask c_asleep c_lockup c_counts c_counter c_reload c_current c_memory c_reg c_kept c_pending c_active c_priorities)) (va_runV (As := [.int 2, .int y2, .int v1]) (rest := [.int y1, .ref h_reg]) ⟨hx, hb, hml, hown, hts⟩ (c_ThumbCoreModel_moved l D cI cB cZ h h_memory h_reg h_kept h_pending h_active h_priorities H.size q_size c_n c_z c_c c_v c_keptFlags c_bad c_h c_after c_entered c_mask c_asleep c_lockup c_counts c_counter c_reload c_current c_memory c_reg c_kept c_pending c_active c_priorities 2 y2 v1) (cwV 3 hts (tc_gV wl_ThumbCoreModel_135 wm_ThumbCoreModel_moved ws_ThumbCoreModel_moved wi_ThumbCoreModel wc_ThumbCoreModel_moved) rfl rfl rfl (by decide +kernel) ⟨Nat.le_of_ble_eq_true rfl, Nat.le_of_ble_eq_true rfl⟩) (tc_preV hK hN hP hD [0, 1, 2, 3, 4, 5, 6] rfl (by decide) (q0 := 0) rfl rfl) rfl rfl hl.1 rfl (lv_room (Nat.le_of_ble_eq_true rfl)) d_ThumbCoreModel_worked_204 (by decide)) hP hD hS hA [0, 1, 2, 3, 4, 5, 6] [] [0, 1, 2, 3, 4, 5, 6] rfl rfl (by decide) (by decide) (by decide) (fun _ => rfl) (fun u H locs hu hP hD hS => ?_)
      obtain ⟨r16, s17, s18, s19⟩ := u
      have hq := hq.trans (un4_eq hu _)
      have e_r16 := hu
      have hP : va_P D tcl (wd_ThumbCoreModel cI cB cZ h h_memory h_reg h_kept h_pending h_active h_priorities q_size s17 s18 s19 c_v c_keptFlags c_bad c_h c_after c_entered c_mask c_asleep c_lockup c_counts c_counter c_reload c_current c_memory c_reg c_kept c_pending c_active c_priorities) H := hP
      have hD : va_D A (wd_ThumbCoreModel cI cB cZ h h_memory h_reg h_kept h_pending h_active h_priorities q_size s17 s18 s19 c_v c_keptFlags c_bad c_h c_after c_entered c_mask c_asleep c_lockup c_counts c_counter c_reload c_current c_memory c_reg c_kept c_pending c_active c_priorities) := hD
      refine W.eq (g2 := F0 m 207 ls [.int r16, .int y1, .ref h_reg]) rfl ?_
      refine va_iast hx hb hK hP hD hS 2 0 rfl rfl hi_y1 d_ThumbCoreModel_worked_207 (fun H locs hP hD hS => ?_)
      have hP : va_P D tcl (wd_ThumbCoreModel cI cB cZ h h_memory h_reg h_kept h_pending h_active h_priorities q_size s17 s18 s19 c_v c_keptFlags c_bad c_h c_after c_entered c_mask c_asleep c_lockup c_counts c_counter c_reload c_current c_memory (upd c_reg y1.toNatClampNeg r16) c_kept c_pending c_active c_priorities) H := hP
      have hD : va_D A (wd_ThumbCoreModel cI cB cZ h h_memory h_reg h_kept h_pending h_active h_priorities q_size s17 s18 s19 c_v c_keptFlags c_bad c_h c_after c_entered c_mask c_asleep c_lockup c_counts c_counter c_reload c_current c_memory (upd c_reg y1.toNatClampNeg r16) c_kept c_pending c_active c_priorities) := hD
      refine lv_goto (tgt := 424) hx hb d_ThumbCoreModel_worked_208 (by decide) ?_
      exact RET H locs ls 424 (s17, s18, s19, c_v, (upd c_reg y1.toNatClampNeg r16)) d_ThumbCoreModel_worked_424 hP hD hS hq
    have hq := hq.trans (if_neg g_55_4)
    by_cases g_55_5 : ((o_ishr c_h 6) &&& 15) = 5
    · have hq := hq.trans (if_pos g_55_5)
      refine tc_tabIn (k := 5) (off := 156) (tgt := 211) hx hb d_ThumbCoreModel_worked_55 g_55_5 (by decide) (by decide) (by decide +kernel) (by decide) ?_
      refine lv_aload_n hx hb d_ThumbCoreModel_worked_211 rfl (lv_at hl 2 rfl) ?_
      refine va_get (D := D) (ci := 5) (v := .ref h_reg) (C := R_ThumbCoreModel) (T := F_ThumbCoreModel) (N := 23) hx hb hts u_ThumbCoreModel hown hK hP 0 rfl rfl 2 (by decide) (hts _ wf_ThumbCoreModel_13) (fun _ h9 => h9) rfl d_ThumbCoreModel_worked_212 ?_
      refine lv_iload_n hx hb d_ThumbCoreModel_worked_215 rfl (lv_at hl 3 rfl) ?_
      refine lv_aload_n hx hb d_ThumbCoreModel_worked_216 rfl (lv_at hl 2 rfl) ?_
      refine lv_iload_n hx hb d_ThumbCoreModel_worked_217 rfl (lv_at hl 4 rfl) ?_
      refine lv_iload_n hx hb d_ThumbCoreModel_worked_218 rfl (lv_at hl 5 rfl) ?_
      refine lv_iload hx hb d_ThumbCoreModel_worked_219 (lv_at hl 1 rfl) ?_
      refine tc_mi (wo := fun u => (wd_ThumbCoreModel cI cB cZ h h_memory h_reg h_kept h_pending h_active h_priorities q_size u.2.1 u.2.2.1 u.2.2.2.1 u.2.2.2.2 c_keptFlags c_bad c_h c_after c_entered c_mask c_asleep c_lockup c_counts c_counter c_reload c_current c_memory c_reg c_kept c_pending c_active c_priorities)) (va_runV (As := [.int y2, .int y3, .int (bI z0)]) (rest := [.int y1, .ref h_reg]) ⟨hx, hb, hml, hown, hts⟩ (c_ThumbCoreModel_sum l D cI cB cZ h h_memory h_reg h_kept h_pending h_active h_priorities H.size q_size c_n c_z c_c c_v c_keptFlags c_bad c_h c_after c_entered c_mask c_asleep c_lockup c_counts c_counter c_reload c_current c_memory c_reg c_kept c_pending c_active c_priorities y2 y3 (bI z0)) (cwV 3 hts (tc_gV wl_ThumbCoreModel_131 wm_ThumbCoreModel_sum ws_ThumbCoreModel_sum wi_ThumbCoreModel wc_ThumbCoreModel_sum) rfl rfl rfl (by decide +kernel) ⟨Nat.le_of_ble_eq_true rfl, Nat.le_of_ble_eq_true rfl⟩) (tc_preV hK hN hP hD [0, 1, 2, 3, 4, 5, 6] rfl (by decide) (q0 := 0) rfl rfl) rfl rfl hl.1 rfl (lv_room (Nat.le_of_ble_eq_true rfl)) d_ThumbCoreModel_worked_221 (by decide)) hP hD hS hA [0, 1, 2, 3, 4, 5, 6] [] [0, 1, 2, 3, 4, 5, 6] rfl rfl (by decide) (by decide) (by decide) (fun _ => rfl) (fun u H locs hu hP hD hS => ?_)
      obtain ⟨r20, s21, s22, s23, s24⟩ := u
      have hq := hq.trans (un5_eq hu _)
      have e_r20 := hu
      have hP : va_P D tcl (wd_ThumbCoreModel cI cB cZ h h_memory h_reg h_kept h_pending h_active h_priorities q_size s21 s22 s23 s24 c_keptFlags c_bad c_h c_after c_entered c_mask c_asleep c_lockup c_counts c_counter c_reload c_current c_memory c_reg c_kept c_pending c_active c_priorities) H := hP
      have hD : va_D A (wd_ThumbCoreModel cI cB cZ h h_memory h_reg h_kept h_pending h_active h_priorities q_size s21 s22 s23 s24 c_keptFlags c_bad c_h c_after c_entered c_mask c_asleep c_lockup c_counts c_counter c_reload c_current c_memory c_reg c_kept c_pending c_active c_priorities) := hD
      refine W.eq (g2 := F0 m 224 ls [.int r20, .int y1, .ref h_reg]) rfl ?_
      refine va_iast hx hb hK hP hD hS 2 0 rfl rfl hi_y1 d_ThumbCoreModel_worked_224 (fun H locs hP hD hS => ?_)
      have hP : va_P D tcl (wd_ThumbCoreModel cI cB cZ h h_memory h_reg h_kept h_pending h_active h_priorities q_size s21 s22 s23 s24 c_keptFlags c_bad c_h c_after c_entered c_mask c_asleep c_lockup c_counts c_counter c_reload c_current c_memory (upd c_reg y1.toNatClampNeg r20) c_kept c_pending c_active c_priorities) H := hP
      have hD : va_D A (wd_ThumbCoreModel cI cB cZ h h_memory h_reg h_kept h_pending h_active h_priorities q_size s21 s22 s23 s24 c_keptFlags c_bad c_h c_after c_entered c_mask c_asleep c_lockup c_counts c_counter c_reload c_current c_memory (upd c_reg y1.toNatClampNeg r20) c_kept c_pending c_active c_priorities) := hD
      refine lv_goto (tgt := 424) hx hb d_ThumbCoreModel_worked_225 (by decide) ?_
      exact RET H locs ls 424 (s21, s22, s23, s24, (upd c_reg y1.toNatClampNeg r20)) d_ThumbCoreModel_worked_424 hP hD hS hq
    have hq := hq.trans (if_neg g_55_5)
    by_cases g_55_6 : ((o_ishr c_h 6) &&& 15) = 6
    · have hq := hq.trans (if_pos g_55_6)
      refine tc_tabIn (k := 6) (off := 173) (tgt := 228) hx hb d_ThumbCoreModel_worked_55 g_55_6 (by decide) (by decide) (by decide +kernel) (by decide) ?_
      refine lv_aload_n hx hb d_ThumbCoreModel_worked_228 rfl (lv_at hl 2 rfl) ?_
      refine va_get (D := D) (ci := 5) (v := .ref h_reg) (C := R_ThumbCoreModel) (T := F_ThumbCoreModel) (N := 23) hx hb hts u_ThumbCoreModel hown hK hP 0 rfl rfl 2 (by decide) (hts _ wf_ThumbCoreModel_13) (fun _ h9 => h9) rfl d_ThumbCoreModel_worked_229 ?_
      refine lv_iload_n hx hb d_ThumbCoreModel_worked_232 rfl (lv_at hl 3 rfl) ?_
      refine lv_aload_n hx hb d_ThumbCoreModel_worked_233 rfl (lv_at hl 2 rfl) ?_
      refine lv_iload_n hx hb d_ThumbCoreModel_worked_234 rfl (lv_at hl 4 rfl) ?_
      refine lv_iload_n hx hb d_ThumbCoreModel_worked_235 rfl (lv_at hl 5 rfl) ?_
      refine lv_iconst (v := (-1)) hx hb d_ThumbCoreModel_worked_236 (by decide) ?_
      refine lv_ixor hx hb d_ThumbCoreModel_worked_237 ?_
      refine lv_iload hx hb d_ThumbCoreModel_worked_238 (lv_at hl 1 rfl) ?_
      refine tc_mi (wo := fun u => (wd_ThumbCoreModel cI cB cZ h h_memory h_reg h_kept h_pending h_active h_priorities q_size u.2.1 u.2.2.1 u.2.2.2.1 u.2.2.2.2 c_keptFlags c_bad c_h c_after c_entered c_mask c_asleep c_lockup c_counts c_counter c_reload c_current c_memory c_reg c_kept c_pending c_active c_priorities)) (va_runV (As := [.int y2, .int (y3 ^^^ (-1)), .int (bI z0)]) (rest := [.int y1, .ref h_reg]) ⟨hx, hb, hml, hown, hts⟩ (c_ThumbCoreModel_sum l D cI cB cZ h h_memory h_reg h_kept h_pending h_active h_priorities H.size q_size c_n c_z c_c c_v c_keptFlags c_bad c_h c_after c_entered c_mask c_asleep c_lockup c_counts c_counter c_reload c_current c_memory c_reg c_kept c_pending c_active c_priorities y2 (y3 ^^^ (-1)) (bI z0)) (cwV 3 hts (tc_gV wl_ThumbCoreModel_131 wm_ThumbCoreModel_sum ws_ThumbCoreModel_sum wi_ThumbCoreModel wc_ThumbCoreModel_sum) rfl rfl rfl (by decide +kernel) ⟨Nat.le_of_ble_eq_true rfl, Nat.le_of_ble_eq_true rfl⟩) (tc_preV hK hN hP hD [0, 1, 2, 3, 4, 5, 6] rfl (by decide) (q0 := 0) rfl rfl) rfl rfl hl.1 rfl (lv_room (Nat.le_of_ble_eq_true rfl)) d_ThumbCoreModel_worked_240 (by decide)) hP hD hS hA [0, 1, 2, 3, 4, 5, 6] [] [0, 1, 2, 3, 4, 5, 6] rfl rfl (by decide) (by decide) (by decide) (fun _ => rfl) (fun u H locs hu hP hD hS => ?_)
      obtain ⟨r25, s26, s27, s28, s29⟩ := u
      have hq := hq.trans (un5_eq hu _)
      have e_r25 := hu
      have hP : va_P D tcl (wd_ThumbCoreModel cI cB cZ h h_memory h_reg h_kept h_pending h_active h_priorities q_size s26 s27 s28 s29 c_keptFlags c_bad c_h c_after c_entered c_mask c_asleep c_lockup c_counts c_counter c_reload c_current c_memory c_reg c_kept c_pending c_active c_priorities) H := hP
      have hD : va_D A (wd_ThumbCoreModel cI cB cZ h h_memory h_reg h_kept h_pending h_active h_priorities q_size s26 s27 s28 s29 c_keptFlags c_bad c_h c_after c_entered c_mask c_asleep c_lockup c_counts c_counter c_reload c_current c_memory c_reg c_kept c_pending c_active c_priorities) := hD
      refine W.eq (g2 := F0 m 243 ls [.int r25, .int y1, .ref h_reg]) rfl ?_
      refine va_iast hx hb hK hP hD hS 2 0 rfl rfl hi_y1 d_ThumbCoreModel_worked_243 (fun H locs hP hD hS => ?_)
      have hP : va_P D tcl (wd_ThumbCoreModel cI cB cZ h h_memory h_reg h_kept h_pending h_active h_priorities q_size s26 s27 s28 s29 c_keptFlags c_bad c_h c_after c_entered c_mask c_asleep c_lockup c_counts c_counter c_reload c_current c_memory (upd c_reg y1.toNatClampNeg r25) c_kept c_pending c_active c_priorities) H := hP
      have hD : va_D A (wd_ThumbCoreModel cI cB cZ h h_memory h_reg h_kept h_pending h_active h_priorities q_size s26 s27 s28 s29 c_keptFlags c_bad c_h c_after c_entered c_mask c_asleep c_lockup c_counts c_counter c_reload c_current c_memory (upd c_reg y1.toNatClampNeg r25) c_kept c_pending c_active c_priorities) := hD
      refine lv_goto (tgt := 424) hx hb d_ThumbCoreModel_worked_244 (by decide) ?_
      exact RET H locs ls 424 (s26, s27, s28, s29, (upd c_reg y1.toNatClampNeg r25)) d_ThumbCoreModel_worked_424 hP hD hS hq
    have hq := hq.trans (if_neg g_55_6)
    by_cases g_55_7 : ((o_ishr c_h 6) &&& 15) = 7
    · have hq := hq.trans (if_pos g_55_7)
      refine tc_tabIn (k := 7) (off := 192) (tgt := 247) hx hb d_ThumbCoreModel_worked_55 g_55_7 (by decide) (by decide) (by decide +kernel) (by decide) ?_
      refine lv_aload_n hx hb d_ThumbCoreModel_worked_247 rfl (lv_at hl 2 rfl) ?_
      refine va_get (D := D) (ci := 5) (v := .ref h_reg) (C := R_ThumbCoreModel) (T := F_ThumbCoreModel) (N := 23) hx hb hts u_ThumbCoreModel hown hK hP 0 rfl rfl 2 (by decide) (hts _ wf_ThumbCoreModel_13) (fun _ h9 => h9) rfl d_ThumbCoreModel_worked_248 ?_
      refine lv_iload_n hx hb d_ThumbCoreModel_worked_251 rfl (lv_at hl 3 rfl) ?_
      refine lv_aload_n hx hb d_ThumbCoreModel_worked_252 rfl (lv_at hl 2 rfl) ?_
      refine lv_iload_n hx hb d_ThumbCoreModel_worked_253 rfl (lv_at hl 4 rfl) ?_
      refine lv_iload hx hb d_ThumbCoreModel_worked_254 (lv_at hl 0 rfl) ?_
      refine lv_bipush (v := 31) hx hb d_ThumbCoreModel_worked_256 (by decide) ?_
      refine lv_iand hx hb d_ThumbCoreModel_worked_258 ?_
      refine lv_iushr (v := (o_iushr y2 (v1 &&& 31))) hx hb d_ThumbCoreModel_worked_259 rfl ?_
      refine lv_iload_n hx hb d_ThumbCoreModel_worked_260 rfl (lv_at hl 4 rfl) ?_
      refine lv_bipush (v := 32) hx hb d_ThumbCoreModel_worked_261 (by decide) ?_
      refine lv_iload hx hb d_ThumbCoreModel_worked_263 (lv_at hl 0 rfl) ?_
      refine lv_isub hx hb d_ThumbCoreModel_worked_265 ?_
      refine lv_bipush (v := 31) hx hb d_ThumbCoreModel_worked_266 (by decide) ?_
      refine lv_iand hx hb d_ThumbCoreModel_worked_268 ?_
      refine lv_ishl hx hb d_ThumbCoreModel_worked_269 ?_
      refine lv_ior hx hb d_ThumbCoreModel_worked_270 ?_
      refine tc_mi (wo := fun u => (wd_ThumbCoreModel cI cB cZ h h_memory h_reg h_kept h_pending h_active h_priorities q_size u.2.1 u.2.2 c_c c_v c_keptFlags c_bad c_h c_after c_entered c_mask c_asleep c_lockup c_counts c_counter c_reload c_current c_memory c_reg c_kept c_pending c_active c_priorities)) (va_runV (As := [.int ((o_iushr y2 (v1 &&& 31)) ||| (o_ishl y2 ((32 - v1) &&& 31)))]) (rest := [.int y1, .ref h_reg]) ⟨hx, hb, hml, hown, hts⟩ (c_ThumbCoreModel_shown l D cI cB cZ h h_memory h_reg h_kept h_pending h_active h_priorities H.size q_size c_n c_z c_c c_v c_keptFlags c_bad c_h c_after c_entered c_mask c_asleep c_lockup c_counts c_counter c_reload c_current c_memory c_reg c_kept c_pending c_active c_priorities ((o_iushr y2 (v1 &&& 31)) ||| (o_ishl y2 ((32 - v1) &&& 31)))) (cwV 1 hts (tc_gV wl_ThumbCoreModel_93 wm_ThumbCoreModel_shown ws_ThumbCoreModel_shown wi_ThumbCoreModel wc_ThumbCoreModel_shown) rfl rfl rfl (by decide +kernel) ⟨Nat.le_of_ble_eq_true rfl, Nat.le_of_ble_eq_true rfl⟩) (tc_preV hK hN hP hD [0, 1, 2, 3, 4, 5, 6] rfl (by decide) (q0 := 0) rfl rfl) rfl rfl hl.1 rfl (lv_room (Nat.le_of_ble_eq_true rfl)) d_ThumbCoreModel_worked_271 (by decide)) hP hD hS hA [0, 1, 2, 3, 4, 5, 6] [] [0, 1, 2, 3, 4, 5, 6] rfl rfl (by decide) (by decide) (by decide) (fun _ => rfl) (fun u H locs hu hP hD hS => ?_)
      obtain ⟨r30, s31, s32⟩ := u
      have hq := hq.trans (un3_eq hu _)
      have e_r30 := hu
      have hP : va_P D tcl (wd_ThumbCoreModel cI cB cZ h h_memory h_reg h_kept h_pending h_active h_priorities q_size s31 s32 c_c c_v c_keptFlags c_bad c_h c_after c_entered c_mask c_asleep c_lockup c_counts c_counter c_reload c_current c_memory c_reg c_kept c_pending c_active c_priorities) H := hP
      have hD : va_D A (wd_ThumbCoreModel cI cB cZ h h_memory h_reg h_kept h_pending h_active h_priorities q_size s31 s32 c_c c_v c_keptFlags c_bad c_h c_after c_entered c_mask c_asleep c_lockup c_counts c_counter c_reload c_current c_memory c_reg c_kept c_pending c_active c_priorities) := hD
      refine W.eq (g2 := F0 m 274 ls [.int r30, .int y1, .ref h_reg]) rfl ?_
      refine va_iast hx hb hK hP hD hS 2 0 rfl rfl hi_y1 d_ThumbCoreModel_worked_274 (fun H locs hP hD hS => ?_)
      have hP : va_P D tcl (wd_ThumbCoreModel cI cB cZ h h_memory h_reg h_kept h_pending h_active h_priorities q_size s31 s32 c_c c_v c_keptFlags c_bad c_h c_after c_entered c_mask c_asleep c_lockup c_counts c_counter c_reload c_current c_memory (upd c_reg y1.toNatClampNeg r30) c_kept c_pending c_active c_priorities) H := hP
      have hD : va_D A (wd_ThumbCoreModel cI cB cZ h h_memory h_reg h_kept h_pending h_active h_priorities q_size s31 s32 c_c c_v c_keptFlags c_bad c_h c_after c_entered c_mask c_asleep c_lockup c_counts c_counter c_reload c_current c_memory (upd c_reg y1.toNatClampNeg r30) c_kept c_pending c_active c_priorities) := hD
      refine lv_aload_n hx hb d_ThumbCoreModel_worked_275 rfl (lv_at hl 2 rfl) ?_
      refine lv_iload hx hb d_ThumbCoreModel_worked_276 (lv_at hl 0 rfl) ?_
      refine lv_if_ne (tgt := 288) hx hb d_ThumbCoreModel_worked_278 (by decide) (fun g_278 => ?_) (fun g_278 => ?_)
      · have hq := hq.trans (if_pos g_278)
        refine lv_aload_n hx hb d_ThumbCoreModel_worked_288 rfl (lv_at hl 2 rfl) ?_
        refine va_get (D := D) (ci := 5) (v := .ref h_reg) (C := R_ThumbCoreModel) (T := F_ThumbCoreModel) (N := 23) hx hb hts u_ThumbCoreModel hown hK hP 0 rfl rfl 2 (by decide) (hts _ wf_ThumbCoreModel_13) (fun _ h9 => h9) rfl d_ThumbCoreModel_worked_289 ?_
        refine lv_iload_n hx hb d_ThumbCoreModel_worked_292 rfl (lv_at hl 3 rfl) ?_
        refine va_iald hx hb hK hP 2 0 rfl rfl hi_y1 d_ThumbCoreModel_worked_293 ?_
        refine lv_if_ge (tgt := 301) hx hb d_ThumbCoreModel_worked_294 (by decide) (fun g_294 => ?_) (fun g_294 => ?_)
        · have hq := hq.trans (if_pos g_294)
          refine lv_iconst (v := 0) hx hb d_ThumbCoreModel_worked_301 (by decide) ?_
          exact J_302 H locs ls s31 s32 c_c c_v (upd c_reg y1.toNatClampNeg r30) false hP hD hS (lv_sub hl [] rfl) hq
        · have hq := hq.trans (if_neg g_294)
          refine lv_iconst (v := 1) hx hb d_ThumbCoreModel_worked_297 (by decide) ?_
          refine lv_goto (tgt := 302) hx hb d_ThumbCoreModel_worked_298 (by decide) ?_
          exact J_302 H locs ls s31 s32 c_c c_v (upd c_reg y1.toNatClampNeg r30) true hP hD hS (lv_sub hl [] rfl) hq
      · have hq := hq.trans (if_neg (fun g => g g_278))
        refine lv_aload_n hx hb d_ThumbCoreModel_worked_281 rfl (lv_at hl 2 rfl) ?_
        refine va_get (D := D) (ci := 5) (v := .int (bI c_c)) (C := R_ThumbCoreModel) (T := F_ThumbCoreModel) (N := 23) hx hb hts u_ThumbCoreModel hown hK hP 0 rfl rfl 5 (by decide) (hts _ wf_ThumbCoreModel_80) (fun _ h9 => h9) rfl d_ThumbCoreModel_worked_282 ?_
        refine lv_goto (tgt := 302) hx hb d_ThumbCoreModel_worked_285 (by decide) ?_
        exact J_302 H locs ls s31 s32 c_c c_v (upd c_reg y1.toNatClampNeg r30) c_c hP hD hS (lv_sub hl [] rfl) hq
    have hq := hq.trans (if_neg g_55_7)
    by_cases g_55_8 : ((o_ishr c_h 6) &&& 15) = 8
    · have hq := hq.trans (if_pos g_55_8)
      refine tc_tabIn (k := 8) (off := 253) (tgt := 308) hx hb d_ThumbCoreModel_worked_55 g_55_8 (by decide) (by decide) (by decide +kernel) (by decide) ?_
      refine lv_aload_n hx hb d_ThumbCoreModel_worked_308 rfl (lv_at hl 2 rfl) ?_
      refine lv_iload_n hx hb d_ThumbCoreModel_worked_309 rfl (lv_at hl 4 rfl) ?_
      refine lv_iload_n hx hb d_ThumbCoreModel_worked_310 rfl (lv_at hl 5 rfl) ?_
      refine lv_iand hx hb d_ThumbCoreModel_worked_311 ?_
      refine tc_mi (wo := fun u => (wd_ThumbCoreModel cI cB cZ h h_memory h_reg h_kept h_pending h_active h_priorities q_size u.2.1 u.2.2 c_c c_v c_keptFlags c_bad c_h c_after c_entered c_mask c_asleep c_lockup c_counts c_counter c_reload c_current c_memory c_reg c_kept c_pending c_active c_priorities)) (va_runV (As := [.int (y2 &&& y3)]) (rest := []) ⟨hx, hb, hml, hown, hts⟩ (c_ThumbCoreModel_shown l D cI cB cZ h h_memory h_reg h_kept h_pending h_active h_priorities H.size q_size c_n c_z c_c c_v c_keptFlags c_bad c_h c_after c_entered c_mask c_asleep c_lockup c_counts c_counter c_reload c_current c_memory c_reg c_kept c_pending c_active c_priorities (y2 &&& y3)) (cwV 1 hts (tc_gV wl_ThumbCoreModel_93 wm_ThumbCoreModel_shown ws_ThumbCoreModel_shown wi_ThumbCoreModel wc_ThumbCoreModel_shown) rfl rfl rfl (by decide +kernel) ⟨Nat.le_of_ble_eq_true rfl, Nat.le_of_ble_eq_true rfl⟩) (tc_preV hK hN hP hD [0, 1, 2, 3, 4, 5, 6] rfl (by decide) (q0 := 0) rfl rfl) rfl rfl hl.1 rfl (lv_room (Nat.le_of_ble_eq_true rfl)) d_ThumbCoreModel_worked_312 (by decide)) hP hD hS hA [0, 1, 2, 3, 4, 5, 6] [] [0, 1, 2, 3, 4, 5, 6] rfl rfl (by decide) (by decide) (by decide) (fun _ => rfl) (fun u H locs hu hP hD hS => ?_)
      obtain ⟨r33, s34, s35⟩ := u
      have hq := hq.trans (un3_eq hu _)
      have e_r33 := hu
      have hP : va_P D tcl (wd_ThumbCoreModel cI cB cZ h h_memory h_reg h_kept h_pending h_active h_priorities q_size s34 s35 c_c c_v c_keptFlags c_bad c_h c_after c_entered c_mask c_asleep c_lockup c_counts c_counter c_reload c_current c_memory c_reg c_kept c_pending c_active c_priorities) H := hP
      have hD : va_D A (wd_ThumbCoreModel cI cB cZ h h_memory h_reg h_kept h_pending h_active h_priorities q_size s34 s35 c_c c_v c_keptFlags c_bad c_h c_after c_entered c_mask c_asleep c_lockup c_counts c_counter c_reload c_current c_memory c_reg c_kept c_pending c_active c_priorities) := hD
      refine W.eq (g2 := F0 m 315 ls [.int r33]) rfl ?_
      refine lv_istore_n (lv' := [(2, .int r33), (5, .int v1), (4, .int (bI z0)), (0, .ref h), (1, .int y1), (3, .int y3)]) hx hb d_ThumbCoreModel_worked_315 rfl hl (by decide) rfl (fun ls hl => ?_)
      refine lv_goto (tgt := 424) hx hb d_ThumbCoreModel_worked_316 (by decide) ?_
      exact RET H locs ls 424 (s34, s35, c_c, c_v, c_reg) d_ThumbCoreModel_worked_424 hP hD hS hq
    have hq := hq.trans (if_neg g_55_8)
    by_cases g_55_9 : ((o_ishr c_h 6) &&& 15) = 9
    · have hq := hq.trans (if_pos g_55_9)
      refine tc_tabIn (k := 9) (off := 264) (tgt := 319) hx hb d_ThumbCoreModel_worked_55 g_55_9 (by decide) (by decide) (by decide +kernel) (by decide) ?_
      refine lv_aload_n hx hb d_ThumbCoreModel_worked_319 rfl (lv_at hl 2 rfl) ?_
      refine va_get (D := D) (ci := 5) (v := .ref h_reg) (C := R_ThumbCoreModel) (T := F_ThumbCoreModel) (N := 23) hx hb hts u_ThumbCoreModel hown hK hP 0 rfl rfl 2 (by decide) (hts _ wf_ThumbCoreModel_13) (fun _ h9 => h9) rfl d_ThumbCoreModel_worked_320 ?_
      refine lv_iload_n hx hb d_ThumbCoreModel_worked_323 rfl (lv_at hl 3 rfl) ?_
      refine lv_aload_n hx hb d_ThumbCoreModel_worked_324 rfl (lv_at hl 2 rfl) ?_
      refine lv_iload_n hx hb d_ThumbCoreModel_worked_325 rfl (lv_at hl 5 rfl) ?_
      refine lv_iconst (v := (-1)) hx hb d_ThumbCoreModel_worked_326 (by decide) ?_
      refine lv_ixor hx hb d_ThumbCoreModel_worked_327 ?_
      refine lv_iconst (v := 0) hx hb d_ThumbCoreModel_worked_328 (by decide) ?_
      refine lv_iconst (v := 1) hx hb d_ThumbCoreModel_worked_329 (by decide) ?_
      refine tc_mi (wo := fun u => (wd_ThumbCoreModel cI cB cZ h h_memory h_reg h_kept h_pending h_active h_priorities q_size u.2.1 u.2.2.1 u.2.2.2.1 u.2.2.2.2 c_keptFlags c_bad c_h c_after c_entered c_mask c_asleep c_lockup c_counts c_counter c_reload c_current c_memory c_reg c_kept c_pending c_active c_priorities)) (va_runV (As := [.int (y3 ^^^ (-1)), .int 0, .int 1]) (rest := [.int y1, .ref h_reg]) ⟨hx, hb, hml, hown, hts⟩ (c_ThumbCoreModel_sum l D cI cB cZ h h_memory h_reg h_kept h_pending h_active h_priorities H.size q_size c_n c_z c_c c_v c_keptFlags c_bad c_h c_after c_entered c_mask c_asleep c_lockup c_counts c_counter c_reload c_current c_memory c_reg c_kept c_pending c_active c_priorities (y3 ^^^ (-1)) 0 1) (cwV 3 hts (tc_gV wl_ThumbCoreModel_131 wm_ThumbCoreModel_sum ws_ThumbCoreModel_sum wi_ThumbCoreModel wc_ThumbCoreModel_sum) rfl rfl rfl (by decide +kernel) ⟨Nat.le_of_ble_eq_true rfl, Nat.le_of_ble_eq_true rfl⟩) (tc_preV hK hN hP hD [0, 1, 2, 3, 4, 5, 6] rfl (by decide) (q0 := 0) rfl rfl) rfl rfl hl.1 rfl (lv_room (Nat.le_of_ble_eq_true rfl)) d_ThumbCoreModel_worked_330 (by decide)) hP hD hS hA [0, 1, 2, 3, 4, 5, 6] [] [0, 1, 2, 3, 4, 5, 6] rfl rfl (by decide) (by decide) (by decide) (fun _ => rfl) (fun u H locs hu hP hD hS => ?_)
      obtain ⟨r36, s37, s38, s39, s40⟩ := u
      have hq := hq.trans (un5_eq hu _)
      have e_r36 := hu
      have hP : va_P D tcl (wd_ThumbCoreModel cI cB cZ h h_memory h_reg h_kept h_pending h_active h_priorities q_size s37 s38 s39 s40 c_keptFlags c_bad c_h c_after c_entered c_mask c_asleep c_lockup c_counts c_counter c_reload c_current c_memory c_reg c_kept c_pending c_active c_priorities) H := hP
      have hD : va_D A (wd_ThumbCoreModel cI cB cZ h h_memory h_reg h_kept h_pending h_active h_priorities q_size s37 s38 s39 s40 c_keptFlags c_bad c_h c_after c_entered c_mask c_asleep c_lockup c_counts c_counter c_reload c_current c_memory c_reg c_kept c_pending c_active c_priorities) := hD
      refine W.eq (g2 := F0 m 333 ls [.int r36, .int y1, .ref h_reg]) rfl ?_
      refine va_iast hx hb hK hP hD hS 2 0 rfl rfl hi_y1 d_ThumbCoreModel_worked_333 (fun H locs hP hD hS => ?_)
      have hP : va_P D tcl (wd_ThumbCoreModel cI cB cZ h h_memory h_reg h_kept h_pending h_active h_priorities q_size s37 s38 s39 s40 c_keptFlags c_bad c_h c_after c_entered c_mask c_asleep c_lockup c_counts c_counter c_reload c_current c_memory (upd c_reg y1.toNatClampNeg r36) c_kept c_pending c_active c_priorities) H := hP
      have hD : va_D A (wd_ThumbCoreModel cI cB cZ h h_memory h_reg h_kept h_pending h_active h_priorities q_size s37 s38 s39 s40 c_keptFlags c_bad c_h c_after c_entered c_mask c_asleep c_lockup c_counts c_counter c_reload c_current c_memory (upd c_reg y1.toNatClampNeg r36) c_kept c_pending c_active c_priorities) := hD
      refine lv_goto (tgt := 424) hx hb d_ThumbCoreModel_worked_334 (by decide) ?_
      exact RET H locs ls 424 (s37, s38, s39, s40, (upd c_reg y1.toNatClampNeg r36)) d_ThumbCoreModel_worked_424 hP hD hS hq
    have hq := hq.trans (if_neg g_55_9)
    by_cases g_55_10 : ((o_ishr c_h 6) &&& 15) = 10
    · have hq := hq.trans (if_pos g_55_10)
      refine tc_tabIn (k := 10) (off := 282) (tgt := 337) hx hb d_ThumbCoreModel_worked_55 g_55_10 (by decide) (by decide) (by decide +kernel) (by decide) ?_
      refine lv_aload_n hx hb d_ThumbCoreModel_worked_337 rfl (lv_at hl 2 rfl) ?_
      refine lv_iload_n hx hb d_ThumbCoreModel_worked_338 rfl (lv_at hl 4 rfl) ?_
      refine lv_iload_n hx hb d_ThumbCoreModel_worked_339 rfl (lv_at hl 5 rfl) ?_
      refine lv_iconst (v := (-1)) hx hb d_ThumbCoreModel_worked_340 (by decide) ?_
      refine lv_ixor hx hb d_ThumbCoreModel_worked_341 ?_
      refine lv_iconst (v := 1) hx hb d_ThumbCoreModel_worked_342 (by decide) ?_
      refine tc_mi (wo := fun u => (wd_ThumbCoreModel cI cB cZ h h_memory h_reg h_kept h_pending h_active h_priorities q_size u.2.1 u.2.2.1 u.2.2.2.1 u.2.2.2.2 c_keptFlags c_bad c_h c_after c_entered c_mask c_asleep c_lockup c_counts c_counter c_reload c_current c_memory c_reg c_kept c_pending c_active c_priorities)) (va_runV (As := [.int y2, .int (y3 ^^^ (-1)), .int 1]) (rest := []) ⟨hx, hb, hml, hown, hts⟩ (c_ThumbCoreModel_sum l D cI cB cZ h h_memory h_reg h_kept h_pending h_active h_priorities H.size q_size c_n c_z c_c c_v c_keptFlags c_bad c_h c_after c_entered c_mask c_asleep c_lockup c_counts c_counter c_reload c_current c_memory c_reg c_kept c_pending c_active c_priorities y2 (y3 ^^^ (-1)) 1) (cwV 3 hts (tc_gV wl_ThumbCoreModel_131 wm_ThumbCoreModel_sum ws_ThumbCoreModel_sum wi_ThumbCoreModel wc_ThumbCoreModel_sum) rfl rfl rfl (by decide +kernel) ⟨Nat.le_of_ble_eq_true rfl, Nat.le_of_ble_eq_true rfl⟩) (tc_preV hK hN hP hD [0, 1, 2, 3, 4, 5, 6] rfl (by decide) (q0 := 0) rfl rfl) rfl rfl hl.1 rfl (lv_room (Nat.le_of_ble_eq_true rfl)) d_ThumbCoreModel_worked_343 (by decide)) hP hD hS hA [0, 1, 2, 3, 4, 5, 6] [] [0, 1, 2, 3, 4, 5, 6] rfl rfl (by decide) (by decide) (by decide) (fun _ => rfl) (fun u H locs hu hP hD hS => ?_)
      obtain ⟨r41, s42, s43, s44, s45⟩ := u
      have hq := hq.trans (un5_eq hu _)
      have e_r41 := hu
      have hP : va_P D tcl (wd_ThumbCoreModel cI cB cZ h h_memory h_reg h_kept h_pending h_active h_priorities q_size s42 s43 s44 s45 c_keptFlags c_bad c_h c_after c_entered c_mask c_asleep c_lockup c_counts c_counter c_reload c_current c_memory c_reg c_kept c_pending c_active c_priorities) H := hP
      have hD : va_D A (wd_ThumbCoreModel cI cB cZ h h_memory h_reg h_kept h_pending h_active h_priorities q_size s42 s43 s44 s45 c_keptFlags c_bad c_h c_after c_entered c_mask c_asleep c_lockup c_counts c_counter c_reload c_current c_memory c_reg c_kept c_pending c_active c_priorities) := hD
      refine W.eq (g2 := F0 m 346 ls [.int r41]) rfl ?_
      refine lv_istore_n (lv' := [(2, .int r41), (5, .int v1), (4, .int (bI z0)), (0, .ref h), (1, .int y1), (3, .int y3)]) hx hb d_ThumbCoreModel_worked_346 rfl hl (by decide) rfl (fun ls hl => ?_)
      refine lv_goto (tgt := 424) hx hb d_ThumbCoreModel_worked_347 (by decide) ?_
      exact RET H locs ls 424 (s42, s43, s44, s45, c_reg) d_ThumbCoreModel_worked_424 hP hD hS hq
    have hq := hq.trans (if_neg g_55_10)
    by_cases g_55_11 : ((o_ishr c_h 6) &&& 15) = 11
    · have hq := hq.trans (if_pos g_55_11)
      refine tc_tabIn (k := 11) (off := 295) (tgt := 350) hx hb d_ThumbCoreModel_worked_55 g_55_11 (by decide) (by decide) (by decide +kernel) (by decide) ?_
      refine lv_aload_n hx hb d_ThumbCoreModel_worked_350 rfl (lv_at hl 2 rfl) ?_
      refine lv_iload_n hx hb d_ThumbCoreModel_worked_351 rfl (lv_at hl 4 rfl) ?_
      refine lv_iload_n hx hb d_ThumbCoreModel_worked_352 rfl (lv_at hl 5 rfl) ?_
      refine lv_iconst (v := 0) hx hb d_ThumbCoreModel_worked_353 (by decide) ?_
      refine tc_mi (wo := fun u => (wd_ThumbCoreModel cI cB cZ h h_memory h_reg h_kept h_pending h_active h_priorities q_size u.2.1 u.2.2.1 u.2.2.2.1 u.2.2.2.2 c_keptFlags c_bad c_h c_after c_entered c_mask c_asleep c_lockup c_counts c_counter c_reload c_current c_memory c_reg c_kept c_pending c_active c_priorities)) (va_runV (As := [.int y2, .int y3, .int 0]) (rest := []) ⟨hx, hb, hml, hown, hts⟩ (c_ThumbCoreModel_sum l D cI cB cZ h h_memory h_reg h_kept h_pending h_active h_priorities H.size q_size c_n c_z c_c c_v c_keptFlags c_bad c_h c_after c_entered c_mask c_asleep c_lockup c_counts c_counter c_reload c_current c_memory c_reg c_kept c_pending c_active c_priorities y2 y3 0) (cwV 3 hts (tc_gV wl_ThumbCoreModel_131 wm_ThumbCoreModel_sum ws_ThumbCoreModel_sum wi_ThumbCoreModel wc_ThumbCoreModel_sum) rfl rfl rfl (by decide +kernel) ⟨Nat.le_of_ble_eq_true rfl, Nat.le_of_ble_eq_true rfl⟩) (tc_preV hK hN hP hD [0, 1, 2, 3, 4, 5, 6] rfl (by decide) (q0 := 0) rfl rfl) rfl rfl hl.1 rfl (lv_room (Nat.le_of_ble_eq_true rfl)) d_ThumbCoreModel_worked_354 (by decide)) hP hD hS hA [0, 1, 2, 3, 4, 5, 6] [] [0, 1, 2, 3, 4, 5, 6] rfl rfl (by decide) (by decide) (by decide) (fun _ => rfl) (fun u H locs hu hP hD hS => ?_)
      obtain ⟨r46, s47, s48, s49, s50⟩ := u
      have hq := hq.trans (un5_eq hu _)
      have e_r46 := hu
      have hP : va_P D tcl (wd_ThumbCoreModel cI cB cZ h h_memory h_reg h_kept h_pending h_active h_priorities q_size s47 s48 s49 s50 c_keptFlags c_bad c_h c_after c_entered c_mask c_asleep c_lockup c_counts c_counter c_reload c_current c_memory c_reg c_kept c_pending c_active c_priorities) H := hP
      have hD : va_D A (wd_ThumbCoreModel cI cB cZ h h_memory h_reg h_kept h_pending h_active h_priorities q_size s47 s48 s49 s50 c_keptFlags c_bad c_h c_after c_entered c_mask c_asleep c_lockup c_counts c_counter c_reload c_current c_memory c_reg c_kept c_pending c_active c_priorities) := hD
      refine W.eq (g2 := F0 m 357 ls [.int r46]) rfl ?_
      refine lv_istore_n (lv' := [(2, .int r46), (5, .int v1), (4, .int (bI z0)), (0, .ref h), (1, .int y1), (3, .int y3)]) hx hb d_ThumbCoreModel_worked_357 rfl hl (by decide) rfl (fun ls hl => ?_)
      refine lv_goto (tgt := 424) hx hb d_ThumbCoreModel_worked_358 (by decide) ?_
      exact RET H locs ls 424 (s47, s48, s49, s50, c_reg) d_ThumbCoreModel_worked_424 hP hD hS hq
    have hq := hq.trans (if_neg g_55_11)
    by_cases g_55_12 : ((o_ishr c_h 6) &&& 15) = 12
    · have hq := hq.trans (if_pos g_55_12)
      refine tc_tabIn (k := 12) (off := 306) (tgt := 361) hx hb d_ThumbCoreModel_worked_55 g_55_12 (by decide) (by decide) (by decide +kernel) (by decide) ?_
      refine lv_aload_n hx hb d_ThumbCoreModel_worked_361 rfl (lv_at hl 2 rfl) ?_
      refine va_get (D := D) (ci := 5) (v := .ref h_reg) (C := R_ThumbCoreModel) (T := F_ThumbCoreModel) (N := 23) hx hb hts u_ThumbCoreModel hown hK hP 0 rfl rfl 2 (by decide) (hts _ wf_ThumbCoreModel_13) (fun _ h9 => h9) rfl d_ThumbCoreModel_worked_362 ?_
      refine lv_iload_n hx hb d_ThumbCoreModel_worked_365 rfl (lv_at hl 3 rfl) ?_
      refine lv_aload_n hx hb d_ThumbCoreModel_worked_366 rfl (lv_at hl 2 rfl) ?_
      refine lv_iload_n hx hb d_ThumbCoreModel_worked_367 rfl (lv_at hl 4 rfl) ?_
      refine lv_iload_n hx hb d_ThumbCoreModel_worked_368 rfl (lv_at hl 5 rfl) ?_
      refine lv_ior hx hb d_ThumbCoreModel_worked_369 ?_
      refine tc_mi (wo := fun u => (wd_ThumbCoreModel cI cB cZ h h_memory h_reg h_kept h_pending h_active h_priorities q_size u.2.1 u.2.2 c_c c_v c_keptFlags c_bad c_h c_after c_entered c_mask c_asleep c_lockup c_counts c_counter c_reload c_current c_memory c_reg c_kept c_pending c_active c_priorities)) (va_runV (As := [.int (y2 ||| y3)]) (rest := [.int y1, .ref h_reg]) ⟨hx, hb, hml, hown, hts⟩ (c_ThumbCoreModel_shown l D cI cB cZ h h_memory h_reg h_kept h_pending h_active h_priorities H.size q_size c_n c_z c_c c_v c_keptFlags c_bad c_h c_after c_entered c_mask c_asleep c_lockup c_counts c_counter c_reload c_current c_memory c_reg c_kept c_pending c_active c_priorities (y2 ||| y3)) (cwV 1 hts (tc_gV wl_ThumbCoreModel_93 wm_ThumbCoreModel_shown ws_ThumbCoreModel_shown wi_ThumbCoreModel wc_ThumbCoreModel_shown) rfl rfl rfl (by decide +kernel) ⟨Nat.le_of_ble_eq_true rfl, Nat.le_of_ble_eq_true rfl⟩) (tc_preV hK hN hP hD [0, 1, 2, 3, 4, 5, 6] rfl (by decide) (q0 := 0) rfl rfl) rfl rfl hl.1 rfl (lv_room (Nat.le_of_ble_eq_true rfl)) d_ThumbCoreModel_worked_370 (by decide)) hP hD hS hA [0, 1, 2, 3, 4, 5, 6] [] [0, 1, 2, 3, 4, 5, 6] rfl rfl (by decide) (by decide) (by decide) (fun _ => rfl) (fun u H locs hu hP hD hS => ?_)
      obtain ⟨r51, s52, s53⟩ := u
      have hq := hq.trans (un3_eq hu _)
      have e_r51 := hu
      have hP : va_P D tcl (wd_ThumbCoreModel cI cB cZ h h_memory h_reg h_kept h_pending h_active h_priorities q_size s52 s53 c_c c_v c_keptFlags c_bad c_h c_after c_entered c_mask c_asleep c_lockup c_counts c_counter c_reload c_current c_memory c_reg c_kept c_pending c_active c_priorities) H := hP
      have hD : va_D A (wd_ThumbCoreModel cI cB cZ h h_memory h_reg h_kept h_pending h_active h_priorities q_size s52 s53 c_c c_v c_keptFlags c_bad c_h c_after c_entered c_mask c_asleep c_lockup c_counts c_counter c_reload c_current c_memory c_reg c_kept c_pending c_active c_priorities) := hD
      refine W.eq (g2 := F0 m 373 ls [.int r51, .int y1, .ref h_reg]) rfl ?_
      refine va_iast hx hb hK hP hD hS 2 0 rfl rfl hi_y1 d_ThumbCoreModel_worked_373 (fun H locs hP hD hS => ?_)
      have hP : va_P D tcl (wd_ThumbCoreModel cI cB cZ h h_memory h_reg h_kept h_pending h_active h_priorities q_size s52 s53 c_c c_v c_keptFlags c_bad c_h c_after c_entered c_mask c_asleep c_lockup c_counts c_counter c_reload c_current c_memory (upd c_reg y1.toNatClampNeg r51) c_kept c_pending c_active c_priorities) H := hP
      have hD : va_D A (wd_ThumbCoreModel cI cB cZ h h_memory h_reg h_kept h_pending h_active h_priorities q_size s52 s53 c_c c_v c_keptFlags c_bad c_h c_after c_entered c_mask c_asleep c_lockup c_counts c_counter c_reload c_current c_memory (upd c_reg y1.toNatClampNeg r51) c_kept c_pending c_active c_priorities) := hD
      refine lv_goto (tgt := 424) hx hb d_ThumbCoreModel_worked_374 (by decide) ?_
      exact RET H locs ls 424 (s52, s53, c_c, c_v, (upd c_reg y1.toNatClampNeg r51)) d_ThumbCoreModel_worked_424 hP hD hS hq
    have hq := hq.trans (if_neg g_55_12)
    by_cases g_55_13 : ((o_ishr c_h 6) &&& 15) = 13
    · have hq := hq.trans (if_pos g_55_13)
      refine tc_tabIn (k := 13) (off := 322) (tgt := 377) hx hb d_ThumbCoreModel_worked_55 g_55_13 (by decide) (by decide) (by decide +kernel) (by decide) ?_
      refine lv_aload_n hx hb d_ThumbCoreModel_worked_377 rfl (lv_at hl 2 rfl) ?_
      refine va_get (D := D) (ci := 5) (v := .ref h_reg) (C := R_ThumbCoreModel) (T := F_ThumbCoreModel) (N := 23) hx hb hts u_ThumbCoreModel hown hK hP 0 rfl rfl 2 (by decide) (hts _ wf_ThumbCoreModel_13) (fun _ h9 => h9) rfl d_ThumbCoreModel_worked_378 ?_
      refine lv_iload_n hx hb d_ThumbCoreModel_worked_381 rfl (lv_at hl 3 rfl) ?_
      refine lv_aload_n hx hb d_ThumbCoreModel_worked_382 rfl (lv_at hl 2 rfl) ?_
      refine lv_iload_n hx hb d_ThumbCoreModel_worked_383 rfl (lv_at hl 4 rfl) ?_
      refine lv_iload_n hx hb d_ThumbCoreModel_worked_384 rfl (lv_at hl 5 rfl) ?_
      refine lv_imul hx hb d_ThumbCoreModel_worked_385 ?_
      refine tc_mi (wo := fun u => (wd_ThumbCoreModel cI cB cZ h h_memory h_reg h_kept h_pending h_active h_priorities q_size u.2.1 u.2.2 c_c c_v c_keptFlags c_bad c_h c_after c_entered c_mask c_asleep c_lockup c_counts c_counter c_reload c_current c_memory c_reg c_kept c_pending c_active c_priorities)) (va_runV (As := [.int (y2 * y3)]) (rest := [.int y1, .ref h_reg]) ⟨hx, hb, hml, hown, hts⟩ (c_ThumbCoreModel_shown l D cI cB cZ h h_memory h_reg h_kept h_pending h_active h_priorities H.size q_size c_n c_z c_c c_v c_keptFlags c_bad c_h c_after c_entered c_mask c_asleep c_lockup c_counts c_counter c_reload c_current c_memory c_reg c_kept c_pending c_active c_priorities (y2 * y3)) (cwV 1 hts (tc_gV wl_ThumbCoreModel_93 wm_ThumbCoreModel_shown ws_ThumbCoreModel_shown wi_ThumbCoreModel wc_ThumbCoreModel_shown) rfl rfl rfl (by decide +kernel) ⟨Nat.le_of_ble_eq_true rfl, Nat.le_of_ble_eq_true rfl⟩) (tc_preV hK hN hP hD [0, 1, 2, 3, 4, 5, 6] rfl (by decide) (q0 := 0) rfl rfl) rfl rfl hl.1 rfl (lv_room (Nat.le_of_ble_eq_true rfl)) d_ThumbCoreModel_worked_386 (by decide)) hP hD hS hA [0, 1, 2, 3, 4, 5, 6] [] [0, 1, 2, 3, 4, 5, 6] rfl rfl (by decide) (by decide) (by decide) (fun _ => rfl) (fun u H locs hu hP hD hS => ?_)
      obtain ⟨r54, s55, s56⟩ := u
      have hq := hq.trans (un3_eq hu _)
      have e_r54 := hu
      have hP : va_P D tcl (wd_ThumbCoreModel cI cB cZ h h_memory h_reg h_kept h_pending h_active h_priorities q_size s55 s56 c_c c_v c_keptFlags c_bad c_h c_after c_entered c_mask c_asleep c_lockup c_counts c_counter c_reload c_current c_memory c_reg c_kept c_pending c_active c_priorities) H := hP
      have hD : va_D A (wd_ThumbCoreModel cI cB cZ h h_memory h_reg h_kept h_pending h_active h_priorities q_size s55 s56 c_c c_v c_keptFlags c_bad c_h c_after c_entered c_mask c_asleep c_lockup c_counts c_counter c_reload c_current c_memory c_reg c_kept c_pending c_active c_priorities) := hD
      refine W.eq (g2 := F0 m 389 ls [.int r54, .int y1, .ref h_reg]) rfl ?_
      refine va_iast hx hb hK hP hD hS 2 0 rfl rfl hi_y1 d_ThumbCoreModel_worked_389 (fun H locs hP hD hS => ?_)
      have hP : va_P D tcl (wd_ThumbCoreModel cI cB cZ h h_memory h_reg h_kept h_pending h_active h_priorities q_size s55 s56 c_c c_v c_keptFlags c_bad c_h c_after c_entered c_mask c_asleep c_lockup c_counts c_counter c_reload c_current c_memory (upd c_reg y1.toNatClampNeg r54) c_kept c_pending c_active c_priorities) H := hP
      have hD : va_D A (wd_ThumbCoreModel cI cB cZ h h_memory h_reg h_kept h_pending h_active h_priorities q_size s55 s56 c_c c_v c_keptFlags c_bad c_h c_after c_entered c_mask c_asleep c_lockup c_counts c_counter c_reload c_current c_memory (upd c_reg y1.toNatClampNeg r54) c_kept c_pending c_active c_priorities) := hD
      refine lv_goto (tgt := 424) hx hb d_ThumbCoreModel_worked_390 (by decide) ?_
      exact RET H locs ls 424 (s55, s56, c_c, c_v, (upd c_reg y1.toNatClampNeg r54)) d_ThumbCoreModel_worked_424 hP hD hS hq
    have hq := hq.trans (if_neg g_55_13)
    by_cases g_55_14 : ((o_ishr c_h 6) &&& 15) = 14
    · have hq := hq.trans (if_pos g_55_14)
      refine tc_tabIn (k := 14) (off := 338) (tgt := 393) hx hb d_ThumbCoreModel_worked_55 g_55_14 (by decide) (by decide) (by decide +kernel) (by decide) ?_
      refine lv_aload_n hx hb d_ThumbCoreModel_worked_393 rfl (lv_at hl 2 rfl) ?_
      refine va_get (D := D) (ci := 5) (v := .ref h_reg) (C := R_ThumbCoreModel) (T := F_ThumbCoreModel) (N := 23) hx hb hts u_ThumbCoreModel hown hK hP 0 rfl rfl 2 (by decide) (hts _ wf_ThumbCoreModel_13) (fun _ h9 => h9) rfl d_ThumbCoreModel_worked_394 ?_
      refine lv_iload_n hx hb d_ThumbCoreModel_worked_397 rfl (lv_at hl 3 rfl) ?_
      refine lv_aload_n hx hb d_ThumbCoreModel_worked_398 rfl (lv_at hl 2 rfl) ?_
      refine lv_iload_n hx hb d_ThumbCoreModel_worked_399 rfl (lv_at hl 4 rfl) ?_
      refine lv_iload_n hx hb d_ThumbCoreModel_worked_400 rfl (lv_at hl 5 rfl) ?_
      refine lv_iconst (v := (-1)) hx hb d_ThumbCoreModel_worked_401 (by decide) ?_
      refine lv_ixor hx hb d_ThumbCoreModel_worked_402 ?_
      refine lv_iand hx hb d_ThumbCoreModel_worked_403 ?_
      refine tc_mi (wo := fun u => (wd_ThumbCoreModel cI cB cZ h h_memory h_reg h_kept h_pending h_active h_priorities q_size u.2.1 u.2.2 c_c c_v c_keptFlags c_bad c_h c_after c_entered c_mask c_asleep c_lockup c_counts c_counter c_reload c_current c_memory c_reg c_kept c_pending c_active c_priorities)) (va_runV (As := [.int (y2 &&& (y3 ^^^ (-1)))]) (rest := [.int y1, .ref h_reg]) ⟨hx, hb, hml, hown, hts⟩ (c_ThumbCoreModel_shown l D cI cB cZ h h_memory h_reg h_kept h_pending h_active h_priorities H.size q_size c_n c_z c_c c_v c_keptFlags c_bad c_h c_after c_entered c_mask c_asleep c_lockup c_counts c_counter c_reload c_current c_memory c_reg c_kept c_pending c_active c_priorities (y2 &&& (y3 ^^^ (-1)))) (cwV 1 hts (tc_gV wl_ThumbCoreModel_93 wm_ThumbCoreModel_shown ws_ThumbCoreModel_shown wi_ThumbCoreModel wc_ThumbCoreModel_shown) rfl rfl rfl (by decide +kernel) ⟨Nat.le_of_ble_eq_true rfl, Nat.le_of_ble_eq_true rfl⟩) (tc_preV hK hN hP hD [0, 1, 2, 3, 4, 5, 6] rfl (by decide) (q0 := 0) rfl rfl) rfl rfl hl.1 rfl (lv_room (Nat.le_of_ble_eq_true rfl)) d_ThumbCoreModel_worked_404 (by decide)) hP hD hS hA [0, 1, 2, 3, 4, 5, 6] [] [0, 1, 2, 3, 4, 5, 6] rfl rfl (by decide) (by decide) (by decide) (fun _ => rfl) (fun u H locs hu hP hD hS => ?_)
      obtain ⟨r57, s58, s59⟩ := u
      have hq := hq.trans (un3_eq hu _)
      have e_r57 := hu
      have hP : va_P D tcl (wd_ThumbCoreModel cI cB cZ h h_memory h_reg h_kept h_pending h_active h_priorities q_size s58 s59 c_c c_v c_keptFlags c_bad c_h c_after c_entered c_mask c_asleep c_lockup c_counts c_counter c_reload c_current c_memory c_reg c_kept c_pending c_active c_priorities) H := hP
      have hD : va_D A (wd_ThumbCoreModel cI cB cZ h h_memory h_reg h_kept h_pending h_active h_priorities q_size s58 s59 c_c c_v c_keptFlags c_bad c_h c_after c_entered c_mask c_asleep c_lockup c_counts c_counter c_reload c_current c_memory c_reg c_kept c_pending c_active c_priorities) := hD
      refine W.eq (g2 := F0 m 407 ls [.int r57, .int y1, .ref h_reg]) rfl ?_
      refine va_iast hx hb hK hP hD hS 2 0 rfl rfl hi_y1 d_ThumbCoreModel_worked_407 (fun H locs hP hD hS => ?_)
      have hP : va_P D tcl (wd_ThumbCoreModel cI cB cZ h h_memory h_reg h_kept h_pending h_active h_priorities q_size s58 s59 c_c c_v c_keptFlags c_bad c_h c_after c_entered c_mask c_asleep c_lockup c_counts c_counter c_reload c_current c_memory (upd c_reg y1.toNatClampNeg r57) c_kept c_pending c_active c_priorities) H := hP
      have hD : va_D A (wd_ThumbCoreModel cI cB cZ h h_memory h_reg h_kept h_pending h_active h_priorities q_size s58 s59 c_c c_v c_keptFlags c_bad c_h c_after c_entered c_mask c_asleep c_lockup c_counts c_counter c_reload c_current c_memory (upd c_reg y1.toNatClampNeg r57) c_kept c_pending c_active c_priorities) := hD
      refine lv_goto (tgt := 424) hx hb d_ThumbCoreModel_worked_408 (by decide) ?_
      exact RET H locs ls 424 (s58, s59, c_c, c_v, (upd c_reg y1.toNatClampNeg r57)) d_ThumbCoreModel_worked_424 hP hD hS hq
    have hq := hq.trans (if_neg g_55_14)
    have DF : W p l e rm_ThumbCoreModel_worked s m ([.ref h] : List Value).toArray below meth c H locs 0 0 Q (F0 m 411 ls []) := by
      refine lv_aload_n hx hb d_ThumbCoreModel_worked_411 rfl (lv_at hl 2 rfl) ?_
      refine va_get (D := D) (ci := 5) (v := .ref h_reg) (C := R_ThumbCoreModel) (T := F_ThumbCoreModel) (N := 23) hx hb hts u_ThumbCoreModel hown hK hP 0 rfl rfl 2 (by decide) (hts _ wf_ThumbCoreModel_13) (fun _ h9 => h9) rfl d_ThumbCoreModel_worked_412 ?_
      refine lv_iload_n hx hb d_ThumbCoreModel_worked_415 rfl (lv_at hl 3 rfl) ?_
      refine lv_aload_n hx hb d_ThumbCoreModel_worked_416 rfl (lv_at hl 2 rfl) ?_
      refine lv_iload_n hx hb d_ThumbCoreModel_worked_417 rfl (lv_at hl 5 rfl) ?_
      refine lv_iconst (v := (-1)) hx hb d_ThumbCoreModel_worked_418 (by decide) ?_
      refine lv_ixor hx hb d_ThumbCoreModel_worked_419 ?_
      refine tc_mi (wo := fun u => (wd_ThumbCoreModel cI cB cZ h h_memory h_reg h_kept h_pending h_active h_priorities q_size u.2.1 u.2.2 c_c c_v c_keptFlags c_bad c_h c_after c_entered c_mask c_asleep c_lockup c_counts c_counter c_reload c_current c_memory c_reg c_kept c_pending c_active c_priorities)) (va_runV (As := [.int (y3 ^^^ (-1))]) (rest := [.int y1, .ref h_reg]) ⟨hx, hb, hml, hown, hts⟩ (c_ThumbCoreModel_shown l D cI cB cZ h h_memory h_reg h_kept h_pending h_active h_priorities H.size q_size c_n c_z c_c c_v c_keptFlags c_bad c_h c_after c_entered c_mask c_asleep c_lockup c_counts c_counter c_reload c_current c_memory c_reg c_kept c_pending c_active c_priorities (y3 ^^^ (-1))) (cwV 1 hts (tc_gV wl_ThumbCoreModel_93 wm_ThumbCoreModel_shown ws_ThumbCoreModel_shown wi_ThumbCoreModel wc_ThumbCoreModel_shown) rfl rfl rfl (by decide +kernel) ⟨Nat.le_of_ble_eq_true rfl, Nat.le_of_ble_eq_true rfl⟩) (tc_preV hK hN hP hD [0, 1, 2, 3, 4, 5, 6] rfl (by decide) (q0 := 0) rfl rfl) rfl rfl hl.1 rfl (lv_room (Nat.le_of_ble_eq_true rfl)) d_ThumbCoreModel_worked_420 (by decide)) hP hD hS hA [0, 1, 2, 3, 4, 5, 6] [] [0, 1, 2, 3, 4, 5, 6] rfl rfl (by decide) (by decide) (by decide) (fun _ => rfl) (fun u H locs hu hP hD hS => ?_)
      obtain ⟨r60, s61, s62⟩ := u
      have hq := hq.trans (un3_eq hu _)
      have e_r60 := hu
      have hP : va_P D tcl (wd_ThumbCoreModel cI cB cZ h h_memory h_reg h_kept h_pending h_active h_priorities q_size s61 s62 c_c c_v c_keptFlags c_bad c_h c_after c_entered c_mask c_asleep c_lockup c_counts c_counter c_reload c_current c_memory c_reg c_kept c_pending c_active c_priorities) H := hP
      have hD : va_D A (wd_ThumbCoreModel cI cB cZ h h_memory h_reg h_kept h_pending h_active h_priorities q_size s61 s62 c_c c_v c_keptFlags c_bad c_h c_after c_entered c_mask c_asleep c_lockup c_counts c_counter c_reload c_current c_memory c_reg c_kept c_pending c_active c_priorities) := hD
      refine W.eq (g2 := F0 m 423 ls [.int r60, .int y1, .ref h_reg]) rfl ?_
      refine va_iast hx hb hK hP hD hS 2 0 rfl rfl hi_y1 d_ThumbCoreModel_worked_423 (fun H locs hP hD hS => ?_)
      have hP : va_P D tcl (wd_ThumbCoreModel cI cB cZ h h_memory h_reg h_kept h_pending h_active h_priorities q_size s61 s62 c_c c_v c_keptFlags c_bad c_h c_after c_entered c_mask c_asleep c_lockup c_counts c_counter c_reload c_current c_memory (upd c_reg y1.toNatClampNeg r60) c_kept c_pending c_active c_priorities) H := hP
      have hD : va_D A (wd_ThumbCoreModel cI cB cZ h h_memory h_reg h_kept h_pending h_active h_priorities q_size s61 s62 c_c c_v c_keptFlags c_bad c_h c_after c_entered c_mask c_asleep c_lockup c_counts c_counter c_reload c_current c_memory (upd c_reg y1.toNatClampNeg r60) c_kept c_pending c_active c_priorities) := hD
      exact RET H locs ls 424 (s61, s62, c_c, c_v, (upd c_reg y1.toNatClampNeg r60)) d_ThumbCoreModel_worked_424 hP hD hS hq
    exact lv_tableOut (x := ((o_ishr c_h 6) &&& 15)) hx hb d_ThumbCoreModel_worked_55 (by have n0 := tc_ne (j := 0) g_55_0 (by decide); have n1 := tc_ne (j := 1) g_55_1 (by decide); have n2 := tc_ne (j := 2) g_55_2 (by decide); have n3 := tc_ne (j := 3) g_55_3 (by decide); have n4 := tc_ne (j := 4) g_55_4 (by decide); have n5 := tc_ne (j := 5) g_55_5 (by decide); have n6 := tc_ne (j := 6) g_55_6 (by decide); have n7 := tc_ne (j := 7) g_55_7 (by decide); have n8 := tc_ne (j := 8) g_55_8 (by decide); have n9 := tc_ne (j := 9) g_55_9 (by decide); have n10 := tc_ne (j := 10) g_55_10 (by decide); have n11 := tc_ne (j := 11) g_55_11 (by decide); have n12 := tc_ne (j := 12) g_55_12 (by decide); have n13 := tc_ne (j := 13) g_55_13 (by decide); have n14 := tc_ne (j := 14) g_55_14 (by decide); omega) (by decide) DF
  have hq : FF = f_ThumbCoreModel_worked c_h c_n c_z c_c c_v c_reg := hF.symm
  revert hP hD hS
  suffices G : ∀ (H : Heap) (locs : List Loc), va_P D tcl (wd_ThumbCoreModel cI cB cZ h h_memory h_reg h_kept h_pending h_active h_priorities q_size c_n c_z c_c c_v c_keptFlags c_bad c_h c_after c_entered c_mask c_asleep c_lockup c_counts c_counter c_reload c_current c_memory c_reg c_kept c_pending c_active c_priorities) H → va_D A (wd_ThumbCoreModel cI cB cZ h h_memory h_reg h_kept h_pending h_active h_priorities q_size c_n c_z c_c c_v c_keptFlags c_bad c_h c_after c_entered c_mask c_asleep c_lockup c_counts c_counter c_reload c_current c_memory c_reg c_kept c_pending c_active c_priorities) → va_S A s.heap H locs → W p l e rm_ThumbCoreModel_worked s m ([.ref h] : List Value).toArray below meth c H locs 0 0 Q (F0 m 0 ls []) from fun hP hD hS => G _ _ hP hD hS
  intro H locs hP hD hS
  refine lv_aload_n hx hb d_ThumbCoreModel_worked_0 rfl (lv_at hl 0 rfl) ?_
  refine lv_iconst (v := 0) hx hb d_ThumbCoreModel_worked_1 (by decide) ?_
  refine tc_rd (va_runV (As := [.int 0]) (rest := []) ⟨hx, hb, hml, hown, hts⟩ (c_ThumbCoreModel_field l D cI cB cZ h h_memory h_reg h_kept h_pending h_active h_priorities H.size q_size c_n c_z c_c c_v c_keptFlags c_bad c_h c_after c_entered c_mask c_asleep c_lockup c_counts c_counter c_reload c_current c_memory c_reg c_kept c_pending c_active c_priorities 0) (cwV 1 hts (tc_gV wl_ThumbCoreModel_128 wm_ThumbCoreModel_field ws_ThumbCoreModel_field wi_ThumbCoreModel wc_ThumbCoreModel_field) rfl rfl rfl (by decide +kernel) ⟨Nat.le_of_ble_eq_true rfl, Nat.le_of_ble_eq_true rfl⟩) (tc_preV hK hN hP hD [0, 1, 2, 3, 4, 5, 6] rfl (by decide) (q0 := 0) rfl rfl) rfl rfl hl.1 rfl (lv_room (Nat.le_of_ble_eq_true rfl)) d_ThumbCoreModel_worked_2 (by decide)) ?_
  refine lv_topi (fun v1 e_v1 => ?_)
  have hq := tc_nm hq e_v1
  refine lv_istore_n (lv' := [(1, .int v1), (0, .ref h)]) hx hb d_ThumbCoreModel_worked_5 rfl hl (by decide) rfl (fun ls hl => ?_)
  refine lv_aload_n hx hb d_ThumbCoreModel_worked_6 rfl (lv_at hl 1 rfl) ?_
  refine va_get (D := D) (ci := 5) (v := .ref h_reg) (C := R_ThumbCoreModel) (T := F_ThumbCoreModel) (N := 23) hx hb hts u_ThumbCoreModel hown hK hP 0 rfl rfl 2 (by decide) (hts _ wf_ThumbCoreModel_13) (fun _ h9 => h9) rfl d_ThumbCoreModel_worked_7 ?_
  refine lv_iload_n hx hb d_ThumbCoreModel_worked_10 rfl (lv_at hl 0 rfl) ?_
  refine va_iald hx hb hK hP 2 0 rfl rfl (tc_enF e_v1) d_ThumbCoreModel_worked_11 ?_
  refine lv_topi (fun v2 e_v2 => ?_)
  have hq := tc_nm hq e_v2
  refine lv_istore_n (lv' := [(2, .int v2), (1, .int v1), (0, .ref h)]) hx hb d_ThumbCoreModel_worked_12 rfl hl (by decide) rfl (fun ls hl => ?_)
  refine lv_aload_n hx hb d_ThumbCoreModel_worked_13 rfl (lv_at hl 2 rfl) ?_
  refine va_get (D := D) (ci := 5) (v := .ref h_reg) (C := R_ThumbCoreModel) (T := F_ThumbCoreModel) (N := 23) hx hb hts u_ThumbCoreModel hown hK hP 0 rfl rfl 2 (by decide) (hts _ wf_ThumbCoreModel_13) (fun _ h9 => h9) rfl d_ThumbCoreModel_worked_14 ?_
  refine lv_aload_n hx hb d_ThumbCoreModel_worked_17 rfl (lv_at hl 2 rfl) ?_
  refine lv_iconst (v := 3) hx hb d_ThumbCoreModel_worked_18 (by decide) ?_
  refine tc_rd (va_runV (As := [.int 3]) (rest := [.ref h_reg]) ⟨hx, hb, hml, hown, hts⟩ (c_ThumbCoreModel_field l D cI cB cZ h h_memory h_reg h_kept h_pending h_active h_priorities H.size q_size c_n c_z c_c c_v c_keptFlags c_bad c_h c_after c_entered c_mask c_asleep c_lockup c_counts c_counter c_reload c_current c_memory c_reg c_kept c_pending c_active c_priorities 3) (cwV 1 hts (tc_gV wl_ThumbCoreModel_128 wm_ThumbCoreModel_field ws_ThumbCoreModel_field wi_ThumbCoreModel wc_ThumbCoreModel_field) rfl rfl rfl (by decide +kernel) ⟨Nat.le_of_ble_eq_true rfl, Nat.le_of_ble_eq_true rfl⟩) (tc_preV hK hN hP hD [0, 1, 2, 3, 4, 5, 6] rfl (by decide) (q0 := 0) rfl rfl) rfl rfl hl.1 rfl (lv_room (Nat.le_of_ble_eq_true rfl)) d_ThumbCoreModel_worked_19 (by decide)) ?_
  refine lv_topi (fun v3 e_v3 => ?_)
  have hq := tc_nm hq e_v3
  refine va_iald hx hb hK hP 2 0 rfl rfl (tc_enF e_v3) d_ThumbCoreModel_worked_22 ?_
  refine lv_topi (fun v4 e_v4 => ?_)
  have hq := tc_nm hq e_v4
  refine lv_istore_n (lv' := [(3, .int v4), (2, .int v2), (1, .int v1), (0, .ref h)]) hx hb d_ThumbCoreModel_worked_23 rfl hl (by decide) rfl (fun ls hl => ?_)
  refine lv_aload_n hx hb d_ThumbCoreModel_worked_24 rfl (lv_at hl 3 rfl) ?_
  refine va_get (D := D) (ci := 5) (v := .int (bI c_c)) (C := R_ThumbCoreModel) (T := F_ThumbCoreModel) (N := 23) hx hb hts u_ThumbCoreModel hown hK hP 0 rfl rfl 5 (by decide) (hts _ wf_ThumbCoreModel_80) (fun _ h9 => h9) rfl d_ThumbCoreModel_worked_25 ?_
  refine lv_if_eq (tgt := 35) hx hb d_ThumbCoreModel_worked_28 (by decide) (fun g_28 => ?_) (fun g_28 => ?_)
  · have hq := hq.trans (if_pos g_28)
    refine lv_iconst (v := 0) hx hb d_ThumbCoreModel_worked_35 (by decide) ?_
    exact J_36 H locs ls c_n c_z c_c c_v c_reg v1 v2 v4 false hP hD hS (lv_sub hl [3, 2, 1, 0] rfl) hq (tc_enF e_v1)
  · have hq := hq.trans (if_neg g_28)
    refine lv_iconst (v := 1) hx hb d_ThumbCoreModel_worked_31 (by decide) ?_
    refine lv_goto (tgt := 36) hx hb d_ThumbCoreModel_worked_32 (by decide) ?_
    exact J_36 H locs ls c_n c_z c_c c_v c_reg v1 v2 v4 true hP hD hS (lv_sub hl [3, 2, 1, 0] rfl) hq (tc_enF e_v1)

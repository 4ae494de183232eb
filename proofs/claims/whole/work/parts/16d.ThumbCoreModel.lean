abbrev rm_ThumbCoreModel_put : Room := { frames := 1, cells := 0, slots := 0, locals := 24 }
set_option maxHeartbeats 4000000 in
set_option maxRecDepth 100000 in
theorem c_ThumbCoreModel_put (l : Launch) (D : va_G) (cI cB cZ : ClassId) (h h_memory h_reg h_kept h_pending h_active h_priorities sz : Nat) (q_size : Int32) (c_n : Bool) (c_z : Bool) (c_c : Bool) (c_v : Bool) (c_keptFlags : Int32) (c_bad : Bool) (c_h : Int32) (c_after : Int32) (c_entered : Bool) (c_mask : Bool) (c_asleep : Bool) (c_lockup : Bool) (c_counts : Bool) (c_counter : Int32) (c_reload : Int32) (c_current : Int32) (c_memory : Nat → Int32) (c_reg : Nat → Int32) (c_kept : Nat → Int32) (c_pending : Nat → Bool) (c_active : Nat → Bool) (c_priorities : Nat → Int32) (x1 : Int32) (x2 : Int32) (hi_x1 : vp_in x1 16) : Met l y_ThumbCoreModel_put (.code y_ThumbCoreModel_put b_ThumbCoreModel_put 3 none :: tcb) rm_ThumbCoreModel_put (tc_Pw D tcl (tys cI cB cZ) (wd_ThumbCoreModel cI cB cZ h h_memory h_reg h_kept h_pending h_active h_priorities q_size c_n c_z c_c c_v c_keptFlags c_bad c_h c_after c_entered c_mask c_asleep c_lockup c_counts c_counter c_reload c_current c_memory c_reg c_kept c_pending c_active c_priorities) sz ([.ref h, .int x1, .int x2] : List Value) none) (tc_Qv D tcl (wd_ThumbCoreModel cI cB cZ h h_memory h_reg h_kept h_pending h_active h_priorities q_size c_n c_z c_c c_v c_keptFlags c_bad c_h c_after c_entered c_mask c_asleep c_lockup c_counts c_counter c_reload c_current c_memory c_reg c_kept c_pending c_active c_priorities) sz (fun u => (wd_ThumbCoreModel cI cB cZ h h_memory h_reg h_kept h_pending h_active h_priorities q_size c_n c_z c_c c_v c_keptFlags c_bad c_h u.1 c_entered c_mask c_asleep c_lockup c_counts c_counter c_reload c_current c_memory u.2 c_kept c_pending c_active c_priorities)) (f_ThumbCoreModel_put c_after c_reg x1 x2)) 0 0 (va_A (wd_ThumbCoreModel cI cB cZ h h_memory h_reg h_kept h_pending h_active h_priorities q_size c_n c_z c_c c_v c_keptFlags c_bad c_h c_after c_entered c_mask c_asleep c_lockup c_counts c_counter c_reload c_current c_memory c_reg c_kept c_pending c_active c_priorities) sz) := by
  refine tc_mu_v (by decide) (Nat.le_of_ble_eq_true rfl) ?_
  intro p e s m below meth c A Q ls hx hb hml hts hown hK hN hP hD hA hZ hl RET
  have hS : va_S A s.heap s.heap [] := va_S.rf
  have hl : lv_has ls 3 [(0, .ref h), (1, .int x1), (2, .int x2)] := hl
  generalize hF : f_ThumbCoreModel_put c_after c_reg x1 x2 = FF at RET
  have J_36 : ∀ (H : Heap) (locs : List Loc) (ls : Array Slot) (c_after : Int32) (c_reg : Nat → Int32) (z1 : Int32) (z2 : Int32), va_P D tcl (wd_ThumbCoreModel cI cB cZ h h_memory h_reg h_kept h_pending h_active h_priorities q_size c_n c_z c_c c_v c_keptFlags c_bad c_h c_after c_entered c_mask c_asleep c_lockup c_counts c_counter c_reload c_current c_memory c_reg c_kept c_pending c_active c_priorities) H → va_D A (wd_ThumbCoreModel cI cB cZ h h_memory h_reg h_kept h_pending h_active h_priorities q_size c_n c_z c_c c_v c_keptFlags c_bad c_h c_after c_entered c_mask c_asleep c_lockup c_counts c_counter c_reload c_current c_memory c_reg c_kept c_pending c_active c_priorities) → va_S A s.heap H locs → lv_has ls 3 [] → FF = k_ThumbCoreModel_put_36 c_after c_reg z1 z2 → (vp_in z1 16) → W p l e rm_ThumbCoreModel_put s m ([.ref h, .int x1, .int x2] : List Value).toArray below meth c H locs 0 0 Q (F0 m 36 ls [.int z2, .int z1, .ref h_reg]) := by
    intro H locs ls c_after c_reg z1 z2 hP hD hS hl hq hi_z1
    refine va_iast hx hb hK hP hD hS 2 0 rfl rfl hi_z1 d_ThumbCoreModel_put_36 (fun H locs hP hD hS => ?_)
    have hP : va_P D tcl (wd_ThumbCoreModel cI cB cZ h h_memory h_reg h_kept h_pending h_active h_priorities q_size c_n c_z c_c c_v c_keptFlags c_bad c_h c_after c_entered c_mask c_asleep c_lockup c_counts c_counter c_reload c_current c_memory (upd c_reg z1.toNatClampNeg z2) c_kept c_pending c_active c_priorities) H := hP
    have hD : va_D A (wd_ThumbCoreModel cI cB cZ h h_memory h_reg h_kept h_pending h_active h_priorities q_size c_n c_z c_c c_v c_keptFlags c_bad c_h c_after c_entered c_mask c_asleep c_lockup c_counts c_counter c_reload c_current c_memory (upd c_reg z1.toNatClampNeg z2) c_kept c_pending c_active c_priorities) := hD
    exact RET H locs ls 37 (c_after, (upd c_reg z1.toNatClampNeg z2)) d_ThumbCoreModel_put_37 hP hD hS hq
  have hq : FF = f_ThumbCoreModel_put c_after c_reg x1 x2 := hF.symm
  revert hP hD hS
  suffices G : ∀ (H : Heap) (locs : List Loc), va_P D tcl (wd_ThumbCoreModel cI cB cZ h h_memory h_reg h_kept h_pending h_active h_priorities q_size c_n c_z c_c c_v c_keptFlags c_bad c_h c_after c_entered c_mask c_asleep c_lockup c_counts c_counter c_reload c_current c_memory c_reg c_kept c_pending c_active c_priorities) H → va_D A (wd_ThumbCoreModel cI cB cZ h h_memory h_reg h_kept h_pending h_active h_priorities q_size c_n c_z c_c c_v c_keptFlags c_bad c_h c_after c_entered c_mask c_asleep c_lockup c_counts c_counter c_reload c_current c_memory c_reg c_kept c_pending c_active c_priorities) → va_S A s.heap H locs → W p l e rm_ThumbCoreModel_put s m ([.ref h, .int x1, .int x2] : List Value).toArray below meth c H locs 0 0 Q (F0 m 0 ls []) from fun hP hD hS => G _ _ hP hD hS
  intro H locs hP hD hS
  refine lv_iload_n hx hb d_ThumbCoreModel_put_0 rfl (lv_at hl 1 rfl) ?_
  refine lv_bipush (v := 15) hx hb d_ThumbCoreModel_put_1 (by decide) ?_
  refine lv_icmp_ne (tgt := 17) hx hb d_ThumbCoreModel_put_3 (by decide) (fun g_3 => ?_) (fun g_3 => ?_)
  · have hq := hq.trans (if_pos g_3)
    refine lv_aload_n hx hb d_ThumbCoreModel_put_17 rfl (lv_at hl 0 rfl) ?_
    refine va_get (D := D) (ci := 5) (v := .ref h_reg) (C := R_ThumbCoreModel) (T := F_ThumbCoreModel) (N := 23) hx hb hts u_ThumbCoreModel hown hK hP 0 rfl rfl 2 (by decide) (hts _ wf_ThumbCoreModel_13) (fun _ h9 => h9) rfl d_ThumbCoreModel_put_18 ?_
    refine lv_iload_n hx hb d_ThumbCoreModel_put_21 rfl (lv_at hl 1 rfl) ?_
    refine lv_iload_n hx hb d_ThumbCoreModel_put_22 rfl (lv_at hl 1 rfl) ?_
    refine lv_bipush (v := 13) hx hb d_ThumbCoreModel_put_23 (by decide) ?_
    refine lv_icmp_ne (tgt := 35) hx hb d_ThumbCoreModel_put_25 (by decide) (fun g_25 => ?_) (fun g_25 => ?_)
    · have hq := hq.trans (if_pos g_25)
      refine lv_iload_n hx hb d_ThumbCoreModel_put_35 rfl (lv_at hl 2 rfl) ?_
      exact J_36 H locs ls c_after c_reg x1 x2 hP hD hS (lv_sub hl [] rfl) hq hi_x1
    · have hq := hq.trans (if_neg (fun g => g g_25))
      refine lv_iload_n hx hb d_ThumbCoreModel_put_28 rfl (lv_at hl 2 rfl) ?_
      refine lv_bipush (v := (-4)) hx hb d_ThumbCoreModel_put_29 (by decide) ?_
      refine lv_iand hx hb d_ThumbCoreModel_put_31 ?_
      refine lv_goto (tgt := 36) hx hb d_ThumbCoreModel_put_32 (by decide) ?_
      exact J_36 H locs ls c_after c_reg x1 (x2 &&& (-4)) hP hD hS (lv_sub hl [] rfl) hq hi_x1
  · have hq := hq.trans (if_neg (fun g => g g_3))
    refine lv_aload_n hx hb d_ThumbCoreModel_put_6 rfl (lv_at hl 0 rfl) ?_
    refine lv_iload_n hx hb d_ThumbCoreModel_put_7 rfl (lv_at hl 2 rfl) ?_
    refine lv_bipush (v := (-2)) hx hb d_ThumbCoreModel_put_8 (by decide) ?_
    refine lv_iand hx hb d_ThumbCoreModel_put_10 ?_
    refine va_put (D := D) (ci := 5) (v := .int (x2 &&& (-2))) (ty := .int) (C := R_ThumbCoreModel) (T := F_ThumbCoreModel) (N := 23) hx hb hts u_ThumbCoreModel t_ThumbCoreModel t_ThumbCoreModel_ok n_ThumbCoreModel hown hK hP hD hS 0 rfl rfl 11 (by decide) (hts _ wf_ThumbCoreModel_115) (fun _ h9 => h9) rfl (by decide +kernel) rfl rfl (Nat.le_of_ble_eq_true rfl) d_ThumbCoreModel_put_11 (fun H locs hP hD hS => ?_)
    have hP : va_P D tcl (wd_ThumbCoreModel cI cB cZ h h_memory h_reg h_kept h_pending h_active h_priorities q_size c_n c_z c_c c_v c_keptFlags c_bad c_h (x2 &&& (-2)) c_entered c_mask c_asleep c_lockup c_counts c_counter c_reload c_current c_memory c_reg c_kept c_pending c_active c_priorities) H := hP
    have hD : va_D A (wd_ThumbCoreModel cI cB cZ h h_memory h_reg h_kept h_pending h_active h_priorities q_size c_n c_z c_c c_v c_keptFlags c_bad c_h (x2 &&& (-2)) c_entered c_mask c_asleep c_lockup c_counts c_counter c_reload c_current c_memory c_reg c_kept c_pending c_active c_priorities) := hD
    refine lv_goto (tgt := 37) hx hb d_ThumbCoreModel_put_14 (by decide) ?_
    exact RET H locs ls 37 ((x2 &&& (-2)), c_reg) d_ThumbCoreModel_put_37 hP hD hS hq
abbrev rm_ThumbCoreModel_wide : Room := { frames := 5, cells := 0, slots := 0, locals := 117 }
set_option maxHeartbeats 4000000 in
set_option maxRecDepth 100000 in
theorem c_ThumbCoreModel_wide (l : Launch) (D : va_G) (cI cB cZ : ClassId) (h h_memory h_reg h_kept h_pending h_active h_priorities sz : Nat) (q_size : Int32) (c_n : Bool) (c_z : Bool) (c_c : Bool) (c_v : Bool) (c_keptFlags : Int32) (c_bad : Bool) (c_h : Int32) (c_after : Int32) (c_entered : Bool) (c_mask : Bool) (c_asleep : Bool) (c_lockup : Bool) (c_counts : Bool) (c_counter : Int32) (c_reload : Int32) (c_current : Int32) (c_memory : Nat → Int32) (c_reg : Nat → Int32) (c_kept : Nat → Int32) (c_pending : Nat → Bool) (c_active : Nat → Bool) (c_priorities : Nat → Int32) (hm : tc_memR q_size) (hi_c_current : vp_in c_current 16) : Met l y_ThumbCoreModel_wide (.code y_ThumbCoreModel_wide b_ThumbCoreModel_wide 8 none :: tcb) rm_ThumbCoreModel_wide (tc_Pw D tcl (tys cI cB cZ) (wd_ThumbCoreModel cI cB cZ h h_memory h_reg h_kept h_pending h_active h_priorities q_size c_n c_z c_c c_v c_keptFlags c_bad c_h c_after c_entered c_mask c_asleep c_lockup c_counts c_counter c_reload c_current c_memory c_reg c_kept c_pending c_active c_priorities) sz ([.ref h] : List Value) none) (tc_Qv D tcl (wd_ThumbCoreModel cI cB cZ h h_memory h_reg h_kept h_pending h_active h_priorities q_size c_n c_z c_c c_v c_keptFlags c_bad c_h c_after c_entered c_mask c_asleep c_lockup c_counts c_counter c_reload c_current c_memory c_reg c_kept c_pending c_active c_priorities) sz (fun u => (wd_ThumbCoreModel cI cB cZ h h_memory h_reg h_kept h_pending h_active h_priorities q_size u.1 u.2.1 u.2.2.1 u.2.2.2.1 c_keptFlags u.2.2.2.2.1 c_h u.2.2.2.2.2.1 c_entered c_mask c_asleep c_lockup c_counts c_counter c_reload u.2.2.2.2.2.2.1 c_memory u.2.2.2.2.2.2.2.1 c_kept c_pending u.2.2.2.2.2.2.2.2 c_priorities)) (f_ThumbCoreModel_wide q_size c_h c_memory c_n c_z c_c c_v c_bad c_after c_current c_reg c_active)) 0 0 (va_A (wd_ThumbCoreModel cI cB cZ h h_memory h_reg h_kept h_pending h_active h_priorities q_size c_n c_z c_c c_v c_keptFlags c_bad c_h c_after c_entered c_mask c_asleep c_lockup c_counts c_counter c_reload c_current c_memory c_reg c_kept c_pending c_active c_priorities) sz) := by
  refine tc_mu_v (by decide) (Nat.le_of_ble_eq_true rfl) ?_
  intro p e s m below meth c A Q ls hx hb hml hts hown hK hN hP hD hA hZ hl RET
  have hS : va_S A s.heap s.heap [] := va_S.rf
  have hl : lv_has ls 8 [(0, .ref h)] := hl
  generalize hF : f_ThumbCoreModel_wide q_size c_h c_memory c_n c_z c_c c_v c_bad c_after c_current c_reg c_active = FF at RET
  have J_266 : ∀ (H : Heap) (locs : List Loc) (ls : Array Slot) (c_n : Bool) (c_z : Bool) (c_c : Bool) (c_v : Bool) (c_bad : Bool) (c_after : Int32) (c_current : Int32) (c_reg : Nat → Int32) (c_active : Nat → Bool) (z2 : Int32), va_P D tcl (wd_ThumbCoreModel cI cB cZ h h_memory h_reg h_kept h_pending h_active h_priorities q_size c_n c_z c_c c_v c_keptFlags c_bad c_h c_after c_entered c_mask c_asleep c_lockup c_counts c_counter c_reload c_current c_memory c_reg c_kept c_pending c_active c_priorities) H → va_D A (wd_ThumbCoreModel cI cB cZ h h_memory h_reg h_kept h_pending h_active h_priorities q_size c_n c_z c_c c_v c_keptFlags c_bad c_h c_after c_entered c_mask c_asleep c_lockup c_counts c_counter c_reload c_current c_memory c_reg c_kept c_pending c_active c_priorities) → va_S A s.heap H locs → lv_has ls 8 [] → FF = k_ThumbCoreModel_wide_266 q_size c_h c_memory c_n c_z c_c c_v c_bad c_after c_current c_reg c_active z2 → W p l e rm_ThumbCoreModel_wide s m ([.ref h] : List Value).toArray below meth c H locs 0 0 Q (F0 m 266 ls [.int z2, .int 14, .ref h_reg]) := by
    intro H locs ls c_n c_z c_c c_v c_bad c_after c_current c_reg c_active z2 hP hD hS hl hq
    refine va_iast hx hb hK hP hD hS 2 0 rfl rfl (by show ¬ (_ ∨ _); decide) d_ThumbCoreModel_wide_266 (fun H locs hP hD hS => ?_)
    have hP : va_P D tcl (wd_ThumbCoreModel cI cB cZ h h_memory h_reg h_kept h_pending h_active h_priorities q_size c_n c_z c_c c_v c_keptFlags c_bad c_h c_after c_entered c_mask c_asleep c_lockup c_counts c_counter c_reload c_current c_memory (upd c_reg (14 : Int32).toNatClampNeg z2) c_kept c_pending c_active c_priorities) H := hP
    have hD : va_D A (wd_ThumbCoreModel cI cB cZ h h_memory h_reg h_kept h_pending h_active h_priorities q_size c_n c_z c_c c_v c_keptFlags c_bad c_h c_after c_entered c_mask c_asleep c_lockup c_counts c_counter c_reload c_current c_memory (upd c_reg (14 : Int32).toNatClampNeg z2) c_kept c_pending c_active c_priorities) := hD
    exact RET H locs ls 267 (c_n, c_z, c_c, c_v, c_bad, c_after, c_current, (upd c_reg (14 : Int32).toNatClampNeg z2), c_active) d_ThumbCoreModel_wide_267 hP hD hS hq
  have J_220 : ∀ (H : Heap) (locs : List Loc) (ls : Array Slot) (c_n : Bool) (c_z : Bool) (c_c : Bool) (c_v : Bool) (c_bad : Bool) (c_after : Int32) (c_current : Int32) (c_reg : Nat → Int32) (c_active : Nat → Bool) (y4 : Int32) (z0 : Bool), va_P D tcl (wd_ThumbCoreModel cI cB cZ h h_memory h_reg h_kept h_pending h_active h_priorities q_size c_n c_z c_c c_v c_keptFlags c_bad c_h c_after c_entered c_mask c_asleep c_lockup c_counts c_counter c_reload c_current c_memory c_reg c_kept c_pending c_active c_priorities) H → va_D A (wd_ThumbCoreModel cI cB cZ h h_memory h_reg h_kept h_pending h_active h_priorities q_size c_n c_z c_c c_v c_keptFlags c_bad c_h c_after c_entered c_mask c_asleep c_lockup c_counts c_counter c_reload c_current c_memory c_reg c_kept c_pending c_active c_priorities) → va_S A s.heap H locs → lv_has ls 8 [(0, .ref h), (4, .int y4)] → FF = k_ThumbCoreModel_wide_220 q_size c_h c_memory c_n c_z c_c c_v c_bad c_after c_current c_reg c_active y4 z0 → (vp_in c_current 16) → W p l e rm_ThumbCoreModel_wide s m ([.ref h] : List Value).toArray below meth c H locs 0 0 Q (F0 m 220 ls [.int (bI z0)]) := by
    intro H locs ls c_n c_z c_c c_v c_bad c_after c_current c_reg c_active y4 z0 hP hD hS hl hq hi_c_current
    refine lv_istore (lv' := [(6, .int (bI z0)), (0, .ref h), (4, .int y4)]) hx hb d_ThumbCoreModel_wide_220 hl (by decide) rfl (fun ls hl => ?_)
    refine lv_aload_n hx hb d_ThumbCoreModel_wide_222 rfl (lv_at hl 1 rfl) ?_
    refine va_get (D := D) (ci := 5) (v := .int c_after) (C := R_ThumbCoreModel) (T := F_ThumbCoreModel) (N := 23) hx hb hts u_ThumbCoreModel hown hK hP 0 rfl rfl 11 (by decide) (hts _ wf_ThumbCoreModel_115) (fun _ h9 => h9) rfl d_ThumbCoreModel_wide_223 ?_
    refine lv_iconst (v := 1) hx hb d_ThumbCoreModel_wide_226 (by decide) ?_
    refine lv_iadd hx hb d_ThumbCoreModel_wide_227 ?_
    refine lv_topi (fun v1 e_v1 => ?_)
    have hq := tc_nm hq e_v1
    refine lv_istore (lv' := [(7, .int v1), (6, .int (bI z0)), (0, .ref h), (4, .int y4)]) hx hb d_ThumbCoreModel_wide_228 hl (by decide) rfl (fun ls hl => ?_)
    refine lv_aload_n hx hb d_ThumbCoreModel_wide_230 rfl (lv_at hl 2 rfl) ?_
    refine va_get (D := D) (ci := 5) (v := .int (bI c_bad)) (C := R_ThumbCoreModel) (T := F_ThumbCoreModel) (N := 23) hx hb hts u_ThumbCoreModel hown hK hP 0 rfl rfl 9 (by decide) (hts _ wf_ThumbCoreModel_41) (fun _ h9 => h9) rfl d_ThumbCoreModel_wide_231 ?_
    refine lv_if_ne (tgt := 267) hx hb d_ThumbCoreModel_wide_234 (by decide) (fun g_234 => ?_) (fun g_234 => ?_)
    · have hq := hq.trans (if_pos g_234)
      exact RET H locs ls 267 (c_n, c_z, c_c, c_v, c_bad, c_after, c_current, c_reg, c_active) d_ThumbCoreModel_wide_267 hP hD hS hq
    · have hq := hq.trans (if_neg (fun g => g g_234))
      refine lv_aload_n hx hb d_ThumbCoreModel_wide_237 rfl (lv_at hl 2 rfl) ?_
      refine lv_iload hx hb d_ThumbCoreModel_wide_238 (lv_at hl 3 rfl) ?_
      refine tc_mv (wo := fun u => (wd_ThumbCoreModel cI cB cZ h h_memory h_reg h_kept h_pending h_active h_priorities q_size u.1 u.2.1 u.2.2.1 u.2.2.2.1 c_keptFlags u.2.2.2.2.1 c_h u.2.2.2.2.2.1 c_entered c_mask c_asleep c_lockup c_counts c_counter c_reload u.2.2.2.2.2.2.1 c_memory u.2.2.2.2.2.2.2.1 c_kept c_pending u.2.2.2.2.2.2.2.2 c_priorities)) (va_runV (As := [.int y4]) (rest := []) ⟨hx, hb, hml, hown, hts⟩ (c_ThumbCoreModel_goTo l D cI cB cZ h h_memory h_reg h_kept h_pending h_active h_priorities H.size q_size c_n c_z c_c c_v c_keptFlags c_bad c_h c_after c_entered c_mask c_asleep c_lockup c_counts c_counter c_reload c_current c_memory c_reg c_kept c_pending c_active c_priorities y4 hm hi_c_current) (cwV 1 hts (tc_gV wl_ThumbCoreModel_141 wm_ThumbCoreModel_goTo ws_ThumbCoreModel_goTo wi_ThumbCoreModel wc_ThumbCoreModel_goTo) rfl rfl rfl (by decide +kernel) ⟨Nat.le_of_ble_eq_true rfl, Nat.le_of_ble_eq_true rfl⟩) (tc_preV hK hN hP hD [0, 1, 2, 3, 4, 5, 6] rfl (by decide) (q0 := 0) rfl rfl) rfl rfl hl.1 rfl (lv_room (Nat.le_of_ble_eq_true rfl)) d_ThumbCoreModel_wide_240 (by decide)) hP hD hS hA [0, 1, 2, 3, 4, 5, 6] [] [0, 1, 2, 3, 4, 5, 6] rfl rfl (by decide) (by decide) (by decide) (fun _ => rfl) (fun u H locs hu hP hD hS => ?_)
      obtain ⟨s2, s3, s4, s5, s6, s7, s8, s9, s10⟩ := u
      have hq := hq.trans (un9_eq hu _)
      have e_s2 := hu
      have hP : va_P D tcl (wd_ThumbCoreModel cI cB cZ h h_memory h_reg h_kept h_pending h_active h_priorities q_size s2 s3 s4 s5 c_keptFlags s6 c_h s7 c_entered c_mask c_asleep c_lockup c_counts c_counter c_reload s8 c_memory s9 c_kept c_pending s10 c_priorities) H := hP
      have hD : va_D A (wd_ThumbCoreModel cI cB cZ h h_memory h_reg h_kept h_pending h_active h_priorities q_size s2 s3 s4 s5 c_keptFlags s6 c_h s7 c_entered c_mask c_asleep c_lockup c_counts c_counter c_reload s8 c_memory s9 c_kept c_pending s10 c_priorities) := hD
      refine lv_aload_n hx hb d_ThumbCoreModel_wide_243 rfl (lv_at hl 2 rfl) ?_
      refine va_get (D := D) (ci := 5) (v := .ref h_reg) (C := R_ThumbCoreModel) (T := F_ThumbCoreModel) (N := 23) hx hb hts u_ThumbCoreModel hown hK hP 0 rfl rfl 2 (by decide) (hts _ wf_ThumbCoreModel_13) (fun _ h9 => h9) rfl d_ThumbCoreModel_wide_244 ?_
      refine lv_bipush (v := 14) hx hb d_ThumbCoreModel_wide_247 (by decide) ?_
      refine lv_iload hx hb d_ThumbCoreModel_wide_249 (lv_at hl 1 rfl) ?_
      refine lv_if_eq (tgt := 259) hx hb d_ThumbCoreModel_wide_251 (by decide) (fun g_251 => ?_) (fun g_251 => ?_)
      · have hq := hq.trans (if_pos g_251)
        refine lv_aload_n hx hb d_ThumbCoreModel_wide_259 rfl (lv_at hl 2 rfl) ?_
        refine va_get (D := D) (ci := 5) (v := .ref h_reg) (C := R_ThumbCoreModel) (T := F_ThumbCoreModel) (N := 23) hx hb hts u_ThumbCoreModel hown hK hP 0 rfl rfl 2 (by decide) (hts _ wf_ThumbCoreModel_13) (fun _ h9 => h9) rfl d_ThumbCoreModel_wide_260 ?_
        refine lv_bipush (v := 14) hx hb d_ThumbCoreModel_wide_263 (by decide) ?_
        refine va_iald hx hb hK hP 2 0 rfl rfl (by show ¬ (_ ∨ _); decide) d_ThumbCoreModel_wide_265 ?_
        exact J_266 H locs ls s2 s3 s4 s5 s6 s7 s8 s9 s10 (s9 (14 : Int32).toNatClampNeg) hP hD hS (lv_sub hl [] rfl) hq
      · have hq := hq.trans (if_neg g_251)
        refine lv_iload hx hb d_ThumbCoreModel_wide_254 (lv_at hl 0 rfl) ?_
        refine lv_goto (tgt := 266) hx hb d_ThumbCoreModel_wide_256 (by decide) ?_
        exact J_266 H locs ls s2 s3 s4 s5 s6 s7 s8 s9 s10 v1 hP hD hS (lv_sub hl [] rfl) hq
  have J_219 : ∀ (H : Heap) (locs : List Loc) (ls : Array Slot) (c_n : Bool) (c_z : Bool) (c_c : Bool) (c_v : Bool) (c_bad : Bool) (c_after : Int32) (c_current : Int32) (c_reg : Nat → Int32) (c_active : Nat → Bool) (y4 : Int32), va_P D tcl (wd_ThumbCoreModel cI cB cZ h h_memory h_reg h_kept h_pending h_active h_priorities q_size c_n c_z c_c c_v c_keptFlags c_bad c_h c_after c_entered c_mask c_asleep c_lockup c_counts c_counter c_reload c_current c_memory c_reg c_kept c_pending c_active c_priorities) H → va_D A (wd_ThumbCoreModel cI cB cZ h h_memory h_reg h_kept h_pending h_active h_priorities q_size c_n c_z c_c c_v c_keptFlags c_bad c_h c_after c_entered c_mask c_asleep c_lockup c_counts c_counter c_reload c_current c_memory c_reg c_kept c_pending c_active c_priorities) → va_S A s.heap H locs → lv_has ls 8 [(0, .ref h), (4, .int y4)] → FF = k_ThumbCoreModel_wide_219 q_size c_h c_memory c_n c_z c_c c_v c_bad c_after c_current c_reg c_active y4 → (vp_in c_current 16) → W p l e rm_ThumbCoreModel_wide s m ([.ref h] : List Value).toArray below meth c H locs 0 0 Q (F0 m 219 ls []) := by
    intro H locs ls c_n c_z c_c c_v c_bad c_after c_current c_reg c_active y4 hP hD hS hl hq hi_c_current
    refine lv_iconst (v := 0) hx hb d_ThumbCoreModel_wide_219 (by decide) ?_
    exact J_220 H locs ls c_n c_z c_c c_v c_bad c_after c_current c_reg c_active y4 false hP hD hS (lv_sub hl [0, 1] rfl) hq hi_c_current
  have J_197 : ∀ (H : Heap) (locs : List Loc) (ls : Array Slot) (c_n : Bool) (c_z : Bool) (c_c : Bool) (c_v : Bool) (c_bad : Bool) (c_after : Int32) (c_current : Int32) (c_reg : Nat → Int32) (c_active : Nat → Bool) (y1 : Int32) (y4 : Int32) (z1 : Bool), va_P D tcl (wd_ThumbCoreModel cI cB cZ h h_memory h_reg h_kept h_pending h_active h_priorities q_size c_n c_z c_c c_v c_keptFlags c_bad c_h c_after c_entered c_mask c_asleep c_lockup c_counts c_counter c_reload c_current c_memory c_reg c_kept c_pending c_active c_priorities) H → va_D A (wd_ThumbCoreModel cI cB cZ h h_memory h_reg h_kept h_pending h_active h_priorities q_size c_n c_z c_c c_v c_keptFlags c_bad c_h c_after c_entered c_mask c_asleep c_lockup c_counts c_counter c_reload c_current c_memory c_reg c_kept c_pending c_active c_priorities) → va_S A s.heap H locs → lv_has ls 8 [(0, .ref h), (1, .int y1), (4, .int y4)] → FF = k_ThumbCoreModel_wide_197 q_size c_h c_memory c_n c_z c_c c_v c_bad c_after c_current c_reg c_active y1 y4 z1 → (vp_in c_current 16) → W p l e rm_ThumbCoreModel_wide s m ([.ref h] : List Value).toArray below meth c H locs 0 0 Q (F0 m 197 ls [.int (bI z1), .ref h]) := by
    intro H locs ls c_n c_z c_c c_v c_bad c_after c_current c_reg c_active y1 y4 z1 hP hD hS hl hq hi_c_current
    refine va_put (D := D) (ci := 5) (v := .int (bI z1)) (ty := .boolean) (C := R_ThumbCoreModel) (T := F_ThumbCoreModel) (N := 23) hx hb hts u_ThumbCoreModel t_ThumbCoreModel t_ThumbCoreModel_ok n_ThumbCoreModel hown hK hP hD hS 0 rfl rfl 9 (by decide) (hts _ wf_ThumbCoreModel_41) (fun _ h9 => h9) rfl (by decide +kernel) (tc_nb z1) (tc_fb z1) (Nat.le_of_ble_eq_true rfl) d_ThumbCoreModel_wide_197 (fun H locs hP hD hS => ?_)
    have hP : va_P D tcl (wd_ThumbCoreModel cI cB cZ h h_memory h_reg h_kept h_pending h_active h_priorities q_size c_n c_z c_c c_v c_keptFlags z1 c_h c_after c_entered c_mask c_asleep c_lockup c_counts c_counter c_reload c_current c_memory c_reg c_kept c_pending c_active c_priorities) H := hP
    have hD : va_D A (wd_ThumbCoreModel cI cB cZ h h_memory h_reg h_kept h_pending h_active h_priorities q_size c_n c_z c_c c_v c_keptFlags z1 c_h c_after c_entered c_mask c_asleep c_lockup c_counts c_counter c_reload c_current c_memory c_reg c_kept c_pending c_active c_priorities) := hD
    refine lv_iload_n hx hb d_ThumbCoreModel_wide_200 rfl (lv_at hl 1 rfl) ?_
    refine lv_bipush (v := 7) hx hb d_ThumbCoreModel_wide_201 (by decide) ?_
    refine lv_icmp_le (tgt := 219) hx hb d_ThumbCoreModel_wide_203 (by decide) (fun g_203 => ?_) (fun g_203 => ?_)
    · have hq := hq.trans (if_pos g_203)
      exact J_219 H locs ls c_n c_z c_c c_v z1 c_after c_current c_reg c_active y4 hP hD hS (lv_sub hl [0, 2] rfl) hq hi_c_current
    · have hq := hq.trans (if_neg g_203)
      refine lv_aload_n hx hb d_ThumbCoreModel_wide_206 rfl (lv_at hl 0 rfl) ?_
      refine lv_iload hx hb d_ThumbCoreModel_wide_207 (lv_at hl 2 rfl) ?_
      refine tc_rd (va_runV (As := [.int y4]) (rest := []) ⟨hx, hb, hml, hown, hts⟩ (c_ThumbCoreModel_returns l D cI cB cZ h h_memory h_reg h_kept h_pending h_active h_priorities H.size q_size c_n c_z c_c c_v c_keptFlags z1 c_h c_after c_entered c_mask c_asleep c_lockup c_counts c_counter c_reload c_current c_memory c_reg c_kept c_pending c_active c_priorities y4) (cwV 1 hts (tc_gV wl_ThumbCoreModel_118 wm_ThumbCoreModel_returns ws_ThumbCoreModel_returns wi_ThumbCoreModel wc_ThumbCoreModel_returns) rfl rfl rfl (by decide +kernel) ⟨Nat.le_of_ble_eq_true rfl, Nat.le_of_ble_eq_true rfl⟩) (tc_preV hK hN hP hD [0, 1, 2, 3, 4, 5, 6] rfl (by decide) (q0 := 0) rfl rfl) rfl rfl hl.1 rfl (lv_room (Nat.le_of_ble_eq_true rfl)) d_ThumbCoreModel_wide_209 (by decide)) ?_
      refine tc_topb (fun v1 e_v1 => ?_)
      have hq := tc_nm hq e_v1
      refine lv_if_ne (tgt := 219) hx hb d_ThumbCoreModel_wide_212 (by decide) (fun g_212 => ?_) (fun g_212 => ?_)
      · have hq := hq.trans (if_pos g_212)
        exact J_219 H locs ls c_n c_z c_c c_v z1 c_after c_current c_reg c_active y4 hP hD hS (lv_sub hl [0, 2] rfl) hq hi_c_current
      · have hq := hq.trans (if_neg (fun g => g g_212))
        refine lv_iconst (v := 1) hx hb d_ThumbCoreModel_wide_215 (by decide) ?_
        refine lv_goto (tgt := 220) hx hb d_ThumbCoreModel_wide_216 (by decide) ?_
        exact J_220 H locs ls c_n c_z c_c c_v z1 c_after c_current c_reg c_active y4 true hP hD hS (lv_sub hl [0, 2] rfl) hq hi_c_current
  have J_192 : ∀ (H : Heap) (locs : List Loc) (ls : Array Slot) (c_n : Bool) (c_z : Bool) (c_c : Bool) (c_v : Bool) (c_bad : Bool) (c_after : Int32) (c_current : Int32) (c_reg : Nat → Int32) (c_active : Nat → Bool) (y1 : Int32) (y4 : Int32), va_P D tcl (wd_ThumbCoreModel cI cB cZ h h_memory h_reg h_kept h_pending h_active h_priorities q_size c_n c_z c_c c_v c_keptFlags c_bad c_h c_after c_entered c_mask c_asleep c_lockup c_counts c_counter c_reload c_current c_memory c_reg c_kept c_pending c_active c_priorities) H → va_D A (wd_ThumbCoreModel cI cB cZ h h_memory h_reg h_kept h_pending h_active h_priorities q_size c_n c_z c_c c_v c_keptFlags c_bad c_h c_after c_entered c_mask c_asleep c_lockup c_counts c_counter c_reload c_current c_memory c_reg c_kept c_pending c_active c_priorities) → va_S A s.heap H locs → lv_has ls 8 [(0, .ref h), (1, .int y1), (4, .int y4)] → FF = k_ThumbCoreModel_wide_192 q_size c_h c_memory c_n c_z c_c c_v c_bad c_after c_current c_reg c_active y1 y4 → (vp_in c_current 16) → W p l e rm_ThumbCoreModel_wide s m ([.ref h] : List Value).toArray below meth c H locs 0 0 Q (F0 m 192 ls [.ref h]) := by
    intro H locs ls c_n c_z c_c c_v c_bad c_after c_current c_reg c_active y1 y4 hP hD hS hl hq hi_c_current
    refine lv_iconst (v := 1) hx hb d_ThumbCoreModel_wide_192 (by decide) ?_
    refine lv_goto (tgt := 197) hx hb d_ThumbCoreModel_wide_193 (by decide) ?_
    exact J_197 H locs ls c_n c_z c_c c_v c_bad c_after c_current c_reg c_active y1 y4 true hP hD hS (lv_sub hl [0, 1, 2] rfl) hq hi_c_current
  have J_144 : ∀ (H : Heap) (locs : List Loc) (ls : Array Slot) (c_n : Bool) (c_z : Bool) (c_c : Bool) (c_v : Bool) (c_bad : Bool) (c_after : Int32) (c_current : Int32) (c_reg : Nat → Int32) (c_active : Nat → Bool) (y3 : Int32) (y4 : Int32) (z1 : Bool), va_P D tcl (wd_ThumbCoreModel cI cB cZ h h_memory h_reg h_kept h_pending h_active h_priorities q_size c_n c_z c_c c_v c_keptFlags c_bad c_h c_after c_entered c_mask c_asleep c_lockup c_counts c_counter c_reload c_current c_memory c_reg c_kept c_pending c_active c_priorities) H → va_D A (wd_ThumbCoreModel cI cB cZ h h_memory h_reg h_kept h_pending h_active h_priorities q_size c_n c_z c_c c_v c_keptFlags c_bad c_h c_after c_entered c_mask c_asleep c_lockup c_counts c_counter c_reload c_current c_memory c_reg c_kept c_pending c_active c_priorities) → va_S A s.heap H locs → lv_has ls 8 [(0, .ref h), (3, .int y3), (4, .int y4)] → FF = k_ThumbCoreModel_wide_144 q_size c_h c_memory c_n c_z c_c c_v c_bad c_after c_current c_reg c_active y3 y4 z1 → W p l e rm_ThumbCoreModel_wide s m ([.ref h] : List Value).toArray below meth c H locs 0 0 Q (F0 m 144 ls [.int (bI z1), .ref h]) := by
    intro H locs ls c_n c_z c_c c_v c_bad c_after c_current c_reg c_active y3 y4 z1 hP hD hS hl hq
    refine va_put (D := D) (ci := 5) (v := .int (bI z1)) (ty := .boolean) (C := R_ThumbCoreModel) (T := F_ThumbCoreModel) (N := 23) hx hb hts u_ThumbCoreModel t_ThumbCoreModel t_ThumbCoreModel_ok n_ThumbCoreModel hown hK hP hD hS 0 rfl rfl 9 (by decide) (hts _ wf_ThumbCoreModel_41) (fun _ h9 => h9) rfl (by decide +kernel) (tc_nb z1) (tc_fb z1) (Nat.le_of_ble_eq_true rfl) d_ThumbCoreModel_wide_144 (fun H locs hP hD hS => ?_)
    have hP : va_P D tcl (wd_ThumbCoreModel cI cB cZ h h_memory h_reg h_kept h_pending h_active h_priorities q_size c_n c_z c_c c_v c_keptFlags z1 c_h c_after c_entered c_mask c_asleep c_lockup c_counts c_counter c_reload c_current c_memory c_reg c_kept c_pending c_active c_priorities) H := hP
    have hD : va_D A (wd_ThumbCoreModel cI cB cZ h h_memory h_reg h_kept h_pending h_active h_priorities q_size c_n c_z c_c c_v c_keptFlags z1 c_h c_after c_entered c_mask c_asleep c_lockup c_counts c_counter c_reload c_current c_memory c_reg c_kept c_pending c_active c_priorities) := hD
    refine lv_aload_n hx hb d_ThumbCoreModel_wide_147 rfl (lv_at hl 0 rfl) ?_
    refine lv_iload_n hx hb d_ThumbCoreModel_wide_148 rfl (lv_at hl 1 rfl) ?_
    refine lv_iload hx hb d_ThumbCoreModel_wide_149 (lv_at hl 2 rfl) ?_
    refine lv_iconst (v := (-1)) hx hb d_ThumbCoreModel_wide_151 (by decide) ?_
    refine lv_ixor hx hb d_ThumbCoreModel_wide_152 ?_
    refine lv_iconst (v := 1) hx hb d_ThumbCoreModel_wide_153 (by decide) ?_
    refine tc_mi (wo := fun u => (wd_ThumbCoreModel cI cB cZ h h_memory h_reg h_kept h_pending h_active h_priorities q_size u.2.1 u.2.2.1 u.2.2.2.1 u.2.2.2.2 c_keptFlags z1 c_h c_after c_entered c_mask c_asleep c_lockup c_counts c_counter c_reload c_current c_memory c_reg c_kept c_pending c_active c_priorities)) (va_runV (As := [.int y3, .int (y4 ^^^ (-1)), .int 1]) (rest := []) ⟨hx, hb, hml, hown, hts⟩ (c_ThumbCoreModel_sum l D cI cB cZ h h_memory h_reg h_kept h_pending h_active h_priorities H.size q_size c_n c_z c_c c_v c_keptFlags z1 c_h c_after c_entered c_mask c_asleep c_lockup c_counts c_counter c_reload c_current c_memory c_reg c_kept c_pending c_active c_priorities y3 (y4 ^^^ (-1)) 1) (cwV 3 hts (tc_gV wl_ThumbCoreModel_131 wm_ThumbCoreModel_sum ws_ThumbCoreModel_sum wi_ThumbCoreModel wc_ThumbCoreModel_sum) rfl rfl rfl (by decide +kernel) ⟨Nat.le_of_ble_eq_true rfl, Nat.le_of_ble_eq_true rfl⟩) (tc_preV hK hN hP hD [0, 1, 2, 3, 4, 5, 6] rfl (by decide) (q0 := 0) rfl rfl) rfl rfl hl.1 rfl (lv_room (Nat.le_of_ble_eq_true rfl)) d_ThumbCoreModel_wide_154 (by decide)) hP hD hS hA [0, 1, 2, 3, 4, 5, 6] [] [0, 1, 2, 3, 4, 5, 6] rfl rfl (by decide) (by decide) (by decide) (fun _ => rfl) (fun u H locs hu hP hD hS => ?_)
    obtain ⟨r1, s2, s3, s4, s5⟩ := u
    have hq := hq.trans (un5_eq hu _)
    have e_r1 := hu
    have hP : va_P D tcl (wd_ThumbCoreModel cI cB cZ h h_memory h_reg h_kept h_pending h_active h_priorities q_size s2 s3 s4 s5 c_keptFlags z1 c_h c_after c_entered c_mask c_asleep c_lockup c_counts c_counter c_reload c_current c_memory c_reg c_kept c_pending c_active c_priorities) H := hP
    have hD : va_D A (wd_ThumbCoreModel cI cB cZ h h_memory h_reg h_kept h_pending h_active h_priorities q_size s2 s3 s4 s5 c_keptFlags z1 c_h c_after c_entered c_mask c_asleep c_lockup c_counts c_counter c_reload c_current c_memory c_reg c_kept c_pending c_active c_priorities) := hD
    refine W.eq (g2 := F0 m 157 ls [.int r1]) rfl ?_
    refine lv_istore_n (lv' := [(3, .int r1), (0, .ref h), (4, .int y4)]) hx hb d_ThumbCoreModel_wide_157 rfl hl (by decide) rfl (fun ls hl => ?_)
    refine lv_goto (tgt := 267) hx hb d_ThumbCoreModel_wide_158 (by decide) ?_
    exact RET H locs ls 267 (s2, s3, s4, s5, z1, c_after, c_current, c_reg, c_active) d_ThumbCoreModel_wide_267 hP hD hS hq
  have J_139 : ∀ (H : Heap) (locs : List Loc) (ls : Array Slot) (c_n : Bool) (c_z : Bool) (c_c : Bool) (c_v : Bool) (c_bad : Bool) (c_after : Int32) (c_current : Int32) (c_reg : Nat → Int32) (c_active : Nat → Bool) (y3 : Int32) (y4 : Int32), va_P D tcl (wd_ThumbCoreModel cI cB cZ h h_memory h_reg h_kept h_pending h_active h_priorities q_size c_n c_z c_c c_v c_keptFlags c_bad c_h c_after c_entered c_mask c_asleep c_lockup c_counts c_counter c_reload c_current c_memory c_reg c_kept c_pending c_active c_priorities) H → va_D A (wd_ThumbCoreModel cI cB cZ h h_memory h_reg h_kept h_pending h_active h_priorities q_size c_n c_z c_c c_v c_keptFlags c_bad c_h c_after c_entered c_mask c_asleep c_lockup c_counts c_counter c_reload c_current c_memory c_reg c_kept c_pending c_active c_priorities) → va_S A s.heap H locs → lv_has ls 8 [(0, .ref h), (3, .int y3), (4, .int y4)] → FF = k_ThumbCoreModel_wide_139 q_size c_h c_memory c_n c_z c_c c_v c_bad c_after c_current c_reg c_active y3 y4 → W p l e rm_ThumbCoreModel_wide s m ([.ref h] : List Value).toArray below meth c H locs 0 0 Q (F0 m 139 ls [.ref h]) := by
    intro H locs ls c_n c_z c_c c_v c_bad c_after c_current c_reg c_active y3 y4 hP hD hS hl hq
    refine lv_iconst (v := 1) hx hb d_ThumbCoreModel_wide_139 (by decide) ?_
    refine lv_goto (tgt := 144) hx hb d_ThumbCoreModel_wide_140 (by decide) ?_
    exact J_144 H locs ls c_n c_z c_c c_v c_bad c_after c_current c_reg c_active y3 y4 true hP hD hS (lv_sub hl [0, 1, 2] rfl) hq
  have J_127 : ∀ (H : Heap) (locs : List Loc) (ls : Array Slot) (c_n : Bool) (c_z : Bool) (c_c : Bool) (c_v : Bool) (c_bad : Bool) (c_after : Int32) (c_current : Int32) (c_reg : Nat → Int32) (c_active : Nat → Bool) (y1 : Int32) (y2 : Int32) (y3 : Int32) (y4 : Int32), va_P D tcl (wd_ThumbCoreModel cI cB cZ h h_memory h_reg h_kept h_pending h_active h_priorities q_size c_n c_z c_c c_v c_keptFlags c_bad c_h c_after c_entered c_mask c_asleep c_lockup c_counts c_counter c_reload c_current c_memory c_reg c_kept c_pending c_active c_priorities) H → va_D A (wd_ThumbCoreModel cI cB cZ h h_memory h_reg h_kept h_pending h_active h_priorities q_size c_n c_z c_c c_v c_keptFlags c_bad c_h c_after c_entered c_mask c_asleep c_lockup c_counts c_counter c_reload c_current c_memory c_reg c_kept c_pending c_active c_priorities) → va_S A s.heap H locs → lv_has ls 8 [(0, .ref h), (1, .int y1), (2, .int y2), (3, .int y3), (4, .int y4)] → FF = k_ThumbCoreModel_wide_127 q_size c_h c_memory c_n c_z c_c c_v c_bad c_after c_current c_reg c_active y1 y2 y3 y4 → W p l e rm_ThumbCoreModel_wide s m ([.ref h] : List Value).toArray below meth c H locs 0 0 Q (F0 m 127 ls [.ref h]) := by
    intro H locs ls c_n c_z c_c c_v c_bad c_after c_current c_reg c_active y1 y2 y3 y4 hP hD hS hl hq
    refine lv_iload_n hx hb d_ThumbCoreModel_wide_127 rfl (lv_at hl 1 rfl) ?_
    refine lv_bipush (v := 15) hx hb d_ThumbCoreModel_wide_128 (by decide) ?_
    refine lv_icmp_eq (tgt := 139) hx hb d_ThumbCoreModel_wide_130 (by decide) (fun g_130 => ?_) (fun g_130 => ?_)
    · have hq := hq.trans (if_pos g_130)
      exact J_139 H locs ls c_n c_z c_c c_v c_bad c_after c_current c_reg c_active y3 y4 hP hD hS (lv_sub hl [0, 3, 4] rfl) hq
    · have hq := hq.trans (if_neg g_130)
      refine lv_iload_n hx hb d_ThumbCoreModel_wide_133 rfl (lv_at hl 2 rfl) ?_
      refine lv_bipush (v := 15) hx hb d_ThumbCoreModel_wide_134 (by decide) ?_
      refine lv_icmp_ne (tgt := 143) hx hb d_ThumbCoreModel_wide_136 (by decide) (fun g_136 => ?_) (fun g_136 => ?_)
      · have hq := hq.trans (if_pos g_136)
        refine lv_iconst (v := 0) hx hb d_ThumbCoreModel_wide_143 (by decide) ?_
        exact J_144 H locs ls c_n c_z c_c c_v c_bad c_after c_current c_reg c_active y3 y4 false hP hD hS (lv_sub hl [0, 3, 4] rfl) hq
      · have hq := hq.trans (if_neg (fun g => g g_136))
        exact J_139 H locs ls c_n c_z c_c c_v c_bad c_after c_current c_reg c_active y3 y4 hP hD hS (lv_sub hl [0, 3, 4] rfl) hq
  have J_78 : ∀ (H : Heap) (locs : List Loc) (ls : Array Slot) (c_n : Bool) (c_z : Bool) (c_c : Bool) (c_v : Bool) (c_bad : Bool) (c_after : Int32) (c_current : Int32) (c_reg : Nat → Int32) (c_active : Nat → Bool) (y1 : Int32) (y2 : Int32) (y3 : Int32) (z0 : Int32), va_P D tcl (wd_ThumbCoreModel cI cB cZ h h_memory h_reg h_kept h_pending h_active h_priorities q_size c_n c_z c_c c_v c_keptFlags c_bad c_h c_after c_entered c_mask c_asleep c_lockup c_counts c_counter c_reload c_current c_memory c_reg c_kept c_pending c_active c_priorities) H → va_D A (wd_ThumbCoreModel cI cB cZ h h_memory h_reg h_kept h_pending h_active h_priorities q_size c_n c_z c_c c_v c_keptFlags c_bad c_h c_after c_entered c_mask c_asleep c_lockup c_counts c_counter c_reload c_current c_memory c_reg c_kept c_pending c_active c_priorities) → va_S A s.heap H locs → lv_has ls 8 [(0, .ref h), (1, .int y1), (2, .int y2), (3, .int y3)] → FF = k_ThumbCoreModel_wide_78 q_size c_h c_memory c_n c_z c_c c_v c_bad c_after c_current c_reg c_active y1 y2 y3 z0 → (vp_in c_current 16) → (vp_in y1 16) → W p l e rm_ThumbCoreModel_wide s m ([.ref h] : List Value).toArray below meth c H locs 0 0 Q (F0 m 78 ls [.int z0]) := by
    intro H locs ls c_n c_z c_c c_v c_bad c_after c_current c_reg c_active y1 y2 y3 z0 hP hD hS hl hq hi_c_current hi_y1
    refine lv_istore (lv' := [(4, .int z0), (0, .ref h), (1, .int y1), (2, .int y2), (3, .int y3)]) hx hb d_ThumbCoreModel_wide_78 hl (by decide) rfl (fun ls hl => ?_)
    refine lv_aload_n hx hb d_ThumbCoreModel_wide_80 rfl (lv_at hl 1 rfl) ?_
    refine va_get (D := D) (ci := 5) (v := .int c_h) (C := R_ThumbCoreModel) (T := F_ThumbCoreModel) (N := 23) hx hb hts u_ThumbCoreModel hown hK hP 0 rfl rfl 10 (by decide) (hts _ wf_ThumbCoreModel_125) (fun _ h9 => h9) rfl d_ThumbCoreModel_wide_81 ?_
    refine lv_bipush (v := 8) hx hb d_ThumbCoreModel_wide_84 (by decide) ?_
    refine lv_ishr hx hb d_ThumbCoreModel_wide_86 ?_
    refine lv_iconst (v := 3) hx hb d_ThumbCoreModel_wide_87 (by decide) ?_
    refine lv_iand hx hb d_ThumbCoreModel_wide_88 ?_
    refine lv_topi (fun v1 e_v1 => ?_)
    have hq := tc_nm hq e_v1
    refine lv_istore (lv' := [(5, .int v1), (4, .int z0), (0, .ref h), (1, .int y1), (2, .int y2), (3, .int y3)]) hx hb d_ThumbCoreModel_wide_89 hl (by decide) rfl (fun ls hl => ?_)
    refine lv_iload hx hb d_ThumbCoreModel_wide_91 (lv_at hl 0 rfl) ?_
    refine lv_if_ne (tgt := 108) hx hb d_ThumbCoreModel_wide_93 (by decide) (fun g_93 => ?_) (fun g_93 => ?_)
    · have hq := hq.trans (if_pos g_93)
      refine lv_iload hx hb d_ThumbCoreModel_wide_108 (lv_at hl 0 rfl) ?_
      refine lv_iconst (v := 1) hx hb d_ThumbCoreModel_wide_110 (by decide) ?_
      refine lv_icmp_ne (tgt := 161) hx hb d_ThumbCoreModel_wide_111 (by decide) (fun g_111 => ?_) (fun g_111 => ?_)
      · have hq := hq.trans (if_pos g_111)
        refine lv_iload hx hb d_ThumbCoreModel_wide_161 (lv_at hl 0 rfl) ?_
        refine lv_iconst (v := 2) hx hb d_ThumbCoreModel_wide_163 (by decide) ?_
        refine lv_icmp_ne (tgt := 177) hx hb d_ThumbCoreModel_wide_164 (by decide) (fun g_164 => ?_) (fun g_164 => ?_)
        · have hq := hq.trans (if_pos g_164)
          refine lv_aload_n hx hb d_ThumbCoreModel_wide_177 rfl (lv_at hl 2 rfl) ?_
          refine lv_aload_n hx hb d_ThumbCoreModel_wide_178 rfl (lv_at hl 2 rfl) ?_
          refine lv_iconst (v := 0) hx hb d_ThumbCoreModel_wide_179 (by decide) ?_
          refine tc_rd (va_runV (As := [.int 0]) (rest := [.ref h]) ⟨hx, hb, hml, hown, hts⟩ (c_ThumbCoreModel_field l D cI cB cZ h h_memory h_reg h_kept h_pending h_active h_priorities H.size q_size c_n c_z c_c c_v c_keptFlags c_bad c_h c_after c_entered c_mask c_asleep c_lockup c_counts c_counter c_reload c_current c_memory c_reg c_kept c_pending c_active c_priorities 0) (cwV 1 hts (tc_gV wl_ThumbCoreModel_128 wm_ThumbCoreModel_field ws_ThumbCoreModel_field wi_ThumbCoreModel wc_ThumbCoreModel_field) rfl rfl rfl (by decide +kernel) ⟨Nat.le_of_ble_eq_true rfl, Nat.le_of_ble_eq_true rfl⟩) (tc_preV hK hN hP hD [0, 1, 2, 3, 4, 5, 6] rfl (by decide) (q0 := 0) rfl rfl) rfl rfl hl.1 rfl (lv_room (Nat.le_of_ble_eq_true rfl)) d_ThumbCoreModel_wide_180 (by decide)) ?_
          refine lv_topi (fun v2 e_v2 => ?_)
          have hq := tc_nm hq e_v2
          refine lv_if_ne (tgt := 192) hx hb d_ThumbCoreModel_wide_183 (by decide) (fun g_183 => ?_) (fun g_183 => ?_)
          · have hq := hq.trans (if_pos g_183)
            exact J_192 H locs ls c_n c_z c_c c_v c_bad c_after c_current c_reg c_active y1 z0 hP hD hS (lv_sub hl [2, 3, 1] rfl) hq hi_c_current
          · have hq := hq.trans (if_neg (fun g => g g_183))
            refine lv_iload_n hx hb d_ThumbCoreModel_wide_186 rfl (lv_at hl 4 rfl) ?_
            refine lv_bipush (v := 15) hx hb d_ThumbCoreModel_wide_187 (by decide) ?_
            refine lv_icmp_ne (tgt := 196) hx hb d_ThumbCoreModel_wide_189 (by decide) (fun g_189 => ?_) (fun g_189 => ?_)
            · have hq := hq.trans (if_pos g_189)
              refine lv_iconst (v := 0) hx hb d_ThumbCoreModel_wide_196 (by decide) ?_
              exact J_197 H locs ls c_n c_z c_c c_v c_bad c_after c_current c_reg c_active y1 z0 false hP hD hS (lv_sub hl [2, 3, 1] rfl) hq hi_c_current
            · have hq := hq.trans (if_neg (fun g => g g_189))
              exact J_192 H locs ls c_n c_z c_c c_v c_bad c_after c_current c_reg c_active y1 z0 hP hD hS (lv_sub hl [2, 3, 1] rfl) hq hi_c_current
        · have hq := hq.trans (if_neg (fun g => g g_164))
          refine lv_aload_n hx hb d_ThumbCoreModel_wide_167 rfl (lv_at hl 2 rfl) ?_
          refine lv_iload_n hx hb d_ThumbCoreModel_wide_168 rfl (lv_at hl 3 rfl) ?_
          refine lv_iload hx hb d_ThumbCoreModel_wide_169 (lv_at hl 1 rfl) ?_
          refine tc_mv (wo := fun u => (wd_ThumbCoreModel cI cB cZ h h_memory h_reg h_kept h_pending h_active h_priorities q_size c_n c_z c_c c_v c_keptFlags c_bad c_h u.1 c_entered c_mask c_asleep c_lockup c_counts c_counter c_reload c_current c_memory u.2 c_kept c_pending c_active c_priorities)) (va_runV (As := [.int y1, .int z0]) (rest := []) ⟨hx, hb, hml, hown, hts⟩ (c_ThumbCoreModel_put l D cI cB cZ h h_memory h_reg h_kept h_pending h_active h_priorities H.size q_size c_n c_z c_c c_v c_keptFlags c_bad c_h c_after c_entered c_mask c_asleep c_lockup c_counts c_counter c_reload c_current c_memory c_reg c_kept c_pending c_active c_priorities y1 z0 hi_y1) (cwV 2 hts (tc_gV wl_ThumbCoreModel_138 wm_ThumbCoreModel_put ws_ThumbCoreModel_put wi_ThumbCoreModel wc_ThumbCoreModel_put) rfl rfl rfl (by decide +kernel) ⟨Nat.le_of_ble_eq_true rfl, Nat.le_of_ble_eq_true rfl⟩) (tc_preV hK hN hP hD [0, 1, 2, 3, 4, 5, 6] rfl (by decide) (q0 := 0) rfl rfl) rfl rfl hl.1 rfl (lv_room (Nat.le_of_ble_eq_true rfl)) d_ThumbCoreModel_wide_171 (by decide)) hP hD hS hA [0, 1, 2, 3, 4, 5, 6] [] [0, 1, 2, 3, 4, 5, 6] rfl rfl (by decide) (by decide) (by decide) (fun _ => rfl) (fun u H locs hu hP hD hS => ?_)
          obtain ⟨s3, s4⟩ := u
          have hq := hq.trans (un2_eq hu _)
          have e_s3 := hu
          have hP : va_P D tcl (wd_ThumbCoreModel cI cB cZ h h_memory h_reg h_kept h_pending h_active h_priorities q_size c_n c_z c_c c_v c_keptFlags c_bad c_h s3 c_entered c_mask c_asleep c_lockup c_counts c_counter c_reload c_current c_memory s4 c_kept c_pending c_active c_priorities) H := hP
          have hD : va_D A (wd_ThumbCoreModel cI cB cZ h h_memory h_reg h_kept h_pending h_active h_priorities q_size c_n c_z c_c c_v c_keptFlags c_bad c_h s3 c_entered c_mask c_asleep c_lockup c_counts c_counter c_reload c_current c_memory s4 c_kept c_pending c_active c_priorities) := hD
          refine lv_goto (tgt := 267) hx hb d_ThumbCoreModel_wide_174 (by decide) ?_
          exact RET H locs ls 267 (c_n, c_z, c_c, c_v, c_bad, s3, c_current, s4, c_active) d_ThumbCoreModel_wide_267 hP hD hS hq
      · have hq := hq.trans (if_neg (fun g => g g_111))
        refine lv_aload_n hx hb d_ThumbCoreModel_wide_114 rfl (lv_at hl 2 rfl) ?_
        refine lv_iload_n hx hb d_ThumbCoreModel_wide_115 rfl (lv_at hl 3 rfl) ?_
        refine lv_bipush (v := 8) hx hb d_ThumbCoreModel_wide_116 (by decide) ?_
        refine lv_icmp_ge (tgt := 127) hx hb d_ThumbCoreModel_wide_118 (by decide) (fun g_118 => ?_) (fun g_118 => ?_)
        · have hq := hq.trans (if_pos g_118)
          exact J_127 H locs ls c_n c_z c_c c_v c_bad c_after c_current c_reg c_active y1 y2 y3 z0 hP hD hS (lv_sub hl [2, 3, 4, 5, 1] rfl) hq
        · have hq := hq.trans (if_neg g_118)
          refine lv_iload_n hx hb d_ThumbCoreModel_wide_121 rfl (lv_at hl 4 rfl) ?_
          refine lv_bipush (v := 8) hx hb d_ThumbCoreModel_wide_122 (by decide) ?_
          refine lv_icmp_lt (tgt := 139) hx hb d_ThumbCoreModel_wide_124 (by decide) (fun g_124 => ?_) (fun g_124 => ?_)
          · have hq := hq.trans (if_pos g_124)
            exact J_139 H locs ls c_n c_z c_c c_v c_bad c_after c_current c_reg c_active y3 z0 hP hD hS (lv_sub hl [2, 5, 1] rfl) hq
          · have hq := hq.trans (if_neg g_124)
            exact J_127 H locs ls c_n c_z c_c c_v c_bad c_after c_current c_reg c_active y1 y2 y3 z0 hP hD hS (lv_sub hl [2, 3, 4, 5, 1] rfl) hq
    · have hq := hq.trans (if_neg (fun g => g g_93))
      refine lv_aload_n hx hb d_ThumbCoreModel_wide_96 rfl (lv_at hl 2 rfl) ?_
      refine lv_iload_n hx hb d_ThumbCoreModel_wide_97 rfl (lv_at hl 3 rfl) ?_
      refine lv_iload_n hx hb d_ThumbCoreModel_wide_98 rfl (lv_at hl 5 rfl) ?_
      refine lv_iload hx hb d_ThumbCoreModel_wide_99 (lv_at hl 1 rfl) ?_
      refine lv_iadd hx hb d_ThumbCoreModel_wide_101 ?_
      refine tc_mv (wo := fun u => (wd_ThumbCoreModel cI cB cZ h h_memory h_reg h_kept h_pending h_active h_priorities q_size c_n c_z c_c c_v c_keptFlags c_bad c_h u.1 c_entered c_mask c_asleep c_lockup c_counts c_counter c_reload c_current c_memory u.2 c_kept c_pending c_active c_priorities)) (va_runV (As := [.int y1, .int (y3 + z0)]) (rest := []) ⟨hx, hb, hml, hown, hts⟩ (c_ThumbCoreModel_put l D cI cB cZ h h_memory h_reg h_kept h_pending h_active h_priorities H.size q_size c_n c_z c_c c_v c_keptFlags c_bad c_h c_after c_entered c_mask c_asleep c_lockup c_counts c_counter c_reload c_current c_memory c_reg c_kept c_pending c_active c_priorities y1 (y3 + z0) hi_y1) (cwV 2 hts (tc_gV wl_ThumbCoreModel_138 wm_ThumbCoreModel_put ws_ThumbCoreModel_put wi_ThumbCoreModel wc_ThumbCoreModel_put) rfl rfl rfl (by decide +kernel) ⟨Nat.le_of_ble_eq_true rfl, Nat.le_of_ble_eq_true rfl⟩) (tc_preV hK hN hP hD [0, 1, 2, 3, 4, 5, 6] rfl (by decide) (q0 := 0) rfl rfl) rfl rfl hl.1 rfl (lv_room (Nat.le_of_ble_eq_true rfl)) d_ThumbCoreModel_wide_102 (by decide)) hP hD hS hA [0, 1, 2, 3, 4, 5, 6] [] [0, 1, 2, 3, 4, 5, 6] rfl rfl (by decide) (by decide) (by decide) (fun _ => rfl) (fun u H locs hu hP hD hS => ?_)
      obtain ⟨s5, s6⟩ := u
      have hq := hq.trans (un2_eq hu _)
      have e_s5 := hu
      have hP : va_P D tcl (wd_ThumbCoreModel cI cB cZ h h_memory h_reg h_kept h_pending h_active h_priorities q_size c_n c_z c_c c_v c_keptFlags c_bad c_h s5 c_entered c_mask c_asleep c_lockup c_counts c_counter c_reload c_current c_memory s6 c_kept c_pending c_active c_priorities) H := hP
      have hD : va_D A (wd_ThumbCoreModel cI cB cZ h h_memory h_reg h_kept h_pending h_active h_priorities q_size c_n c_z c_c c_v c_keptFlags c_bad c_h s5 c_entered c_mask c_asleep c_lockup c_counts c_counter c_reload c_current c_memory s6 c_kept c_pending c_active c_priorities) := hD
      refine lv_goto (tgt := 267) hx hb d_ThumbCoreModel_wide_105 (by decide) ?_
      exact RET H locs ls 267 (c_n, c_z, c_c, c_v, c_bad, s5, c_current, s6, c_active) d_ThumbCoreModel_wide_267 hP hD hS hq
  have J_53 : ∀ (H : Heap) (locs : List Loc) (ls : Array Slot) (c_n : Bool) (c_z : Bool) (c_c : Bool) (c_v : Bool) (c_bad : Bool) (c_after : Int32) (c_current : Int32) (c_reg : Nat → Int32) (c_active : Nat → Bool) (y1 : Int32) (y2 : Int32) (z0 : Int32), va_P D tcl (wd_ThumbCoreModel cI cB cZ h h_memory h_reg h_kept h_pending h_active h_priorities q_size c_n c_z c_c c_v c_keptFlags c_bad c_h c_after c_entered c_mask c_asleep c_lockup c_counts c_counter c_reload c_current c_memory c_reg c_kept c_pending c_active c_priorities) H → va_D A (wd_ThumbCoreModel cI cB cZ h h_memory h_reg h_kept h_pending h_active h_priorities q_size c_n c_z c_c c_v c_keptFlags c_bad c_h c_after c_entered c_mask c_asleep c_lockup c_counts c_counter c_reload c_current c_memory c_reg c_kept c_pending c_active c_priorities) → va_S A s.heap H locs → lv_has ls 8 [(0, .ref h), (1, .int y1), (2, .int y2)] → FF = k_ThumbCoreModel_wide_53 q_size c_h c_memory c_n c_z c_c c_v c_bad c_after c_current c_reg c_active y1 y2 z0 → (vp_in c_current 16) → (vp_in y1 16) → (vp_in y2 16) → W p l e rm_ThumbCoreModel_wide s m ([.ref h] : List Value).toArray below meth c H locs 0 0 Q (F0 m 53 ls [.int z0]) := by
    intro H locs ls c_n c_z c_c c_v c_bad c_after c_current c_reg c_active y1 y2 z0 hP hD hS hl hq hi_c_current hi_y1 hi_y2
    refine lv_istore_n (lv' := [(3, .int z0), (0, .ref h), (1, .int y1), (2, .int y2)]) hx hb d_ThumbCoreModel_wide_53 rfl hl (by decide) rfl (fun ls hl => ?_)
    refine lv_iload_n hx hb d_ThumbCoreModel_wide_54 rfl (lv_at hl 3 rfl) ?_
    refine lv_bipush (v := 15) hx hb d_ThumbCoreModel_wide_55 (by decide) ?_
    refine lv_icmp_ne (tgt := 72) hx hb d_ThumbCoreModel_wide_57 (by decide) (fun g_57 => ?_) (fun g_57 => ?_)
    · have hq := hq.trans (if_pos g_57)
      refine lv_aload_n hx hb d_ThumbCoreModel_wide_72 rfl (lv_at hl 1 rfl) ?_
      refine va_get (D := D) (ci := 5) (v := .ref h_reg) (C := R_ThumbCoreModel) (T := F_ThumbCoreModel) (N := 23) hx hb hts u_ThumbCoreModel hown hK hP 0 rfl rfl 2 (by decide) (hts _ wf_ThumbCoreModel_13) (fun _ h9 => h9) rfl d_ThumbCoreModel_wide_73 ?_
      refine lv_iload_n hx hb d_ThumbCoreModel_wide_76 rfl (lv_at hl 3 rfl) ?_
      refine va_iald hx hb hK hP 2 0 rfl rfl hi_y2 d_ThumbCoreModel_wide_77 ?_
      exact J_78 H locs ls c_n c_z c_c c_v c_bad c_after c_current c_reg c_active y1 y2 z0 (c_reg y2.toNatClampNeg) hP hD hS (lv_sub hl [1, 2, 3, 0] rfl) hq hi_c_current hi_y1
    · have hq := hq.trans (if_neg (fun g => g g_57))
      refine lv_aload_n hx hb d_ThumbCoreModel_wide_60 rfl (lv_at hl 1 rfl) ?_
      refine va_get (D := D) (ci := 5) (v := .ref h_reg) (C := R_ThumbCoreModel) (T := F_ThumbCoreModel) (N := 23) hx hb hts u_ThumbCoreModel hown hK hP 0 rfl rfl 2 (by decide) (hts _ wf_ThumbCoreModel_13) (fun _ h9 => h9) rfl d_ThumbCoreModel_wide_61 ?_
      refine lv_bipush (v := 15) hx hb d_ThumbCoreModel_wide_64 (by decide) ?_
      refine va_iald hx hb hK hP 2 0 rfl rfl (by show ¬ (_ ∨ _); decide) d_ThumbCoreModel_wide_66 ?_
      refine lv_iconst (v := 4) hx hb d_ThumbCoreModel_wide_67 (by decide) ?_
      refine lv_iadd hx hb d_ThumbCoreModel_wide_68 ?_
      refine lv_goto (tgt := 78) hx hb d_ThumbCoreModel_wide_69 (by decide) ?_
      exact J_78 H locs ls c_n c_z c_c c_v c_bad c_after c_current c_reg c_active y1 y2 z0 ((c_reg (15 : Int32).toNatClampNeg) + 4) hP hD hS (lv_sub hl [1, 2, 3, 0] rfl) hq hi_c_current hi_y1
  have hq : FF = f_ThumbCoreModel_wide q_size c_h c_memory c_n c_z c_c c_v c_bad c_after c_current c_reg c_active := hF.symm
  revert hP hD hS
  suffices G : ∀ (H : Heap) (locs : List Loc), va_P D tcl (wd_ThumbCoreModel cI cB cZ h h_memory h_reg h_kept h_pending h_active h_priorities q_size c_n c_z c_c c_v c_keptFlags c_bad c_h c_after c_entered c_mask c_asleep c_lockup c_counts c_counter c_reload c_current c_memory c_reg c_kept c_pending c_active c_priorities) H → va_D A (wd_ThumbCoreModel cI cB cZ h h_memory h_reg h_kept h_pending h_active h_priorities q_size c_n c_z c_c c_v c_keptFlags c_bad c_h c_after c_entered c_mask c_asleep c_lockup c_counts c_counter c_reload c_current c_memory c_reg c_kept c_pending c_active c_priorities) → va_S A s.heap H locs → W p l e rm_ThumbCoreModel_wide s m ([.ref h] : List Value).toArray below meth c H locs 0 0 Q (F0 m 0 ls []) from fun hP hD hS => G _ _ hP hD hS
  intro H locs hP hD hS
  refine lv_aload_n hx hb d_ThumbCoreModel_wide_0 rfl (lv_at hl 0 rfl) ?_
  refine lv_iconst (v := 0) hx hb d_ThumbCoreModel_wide_1 (by decide) ?_
  refine tc_rd (va_runV (As := [.int 0]) (rest := []) ⟨hx, hb, hml, hown, hts⟩ (c_ThumbCoreModel_field l D cI cB cZ h h_memory h_reg h_kept h_pending h_active h_priorities H.size q_size c_n c_z c_c c_v c_keptFlags c_bad c_h c_after c_entered c_mask c_asleep c_lockup c_counts c_counter c_reload c_current c_memory c_reg c_kept c_pending c_active c_priorities 0) (cwV 1 hts (tc_gV wl_ThumbCoreModel_128 wm_ThumbCoreModel_field ws_ThumbCoreModel_field wi_ThumbCoreModel wc_ThumbCoreModel_field) rfl rfl rfl (by decide +kernel) ⟨Nat.le_of_ble_eq_true rfl, Nat.le_of_ble_eq_true rfl⟩) (tc_preV hK hN hP hD [0, 1, 2, 3, 4, 5, 6] rfl (by decide) (q0 := 0) rfl rfl) rfl rfl hl.1 rfl (lv_room (Nat.le_of_ble_eq_true rfl)) d_ThumbCoreModel_wide_2 (by decide)) ?_
  refine lv_topi (fun v1 e_v1 => ?_)
  have hq := tc_nm hq e_v1
  refine lv_bipush (v := 8) hx hb d_ThumbCoreModel_wide_5 (by decide) ?_
  refine lv_aload_n hx hb d_ThumbCoreModel_wide_7 rfl (lv_at hl 0 rfl) ?_
  refine va_get (D := D) (ci := 5) (v := .int c_h) (C := R_ThumbCoreModel) (T := F_ThumbCoreModel) (N := 23) hx hb hts u_ThumbCoreModel hown hK hP 0 rfl rfl 10 (by decide) (hts _ wf_ThumbCoreModel_125) (fun _ h9 => h9) rfl d_ThumbCoreModel_wide_8 ?_
  refine lv_bipush (v := 7) hx hb d_ThumbCoreModel_wide_11 (by decide) ?_
  refine lv_ishr hx hb d_ThumbCoreModel_wide_13 ?_
  refine lv_iconst (v := 1) hx hb d_ThumbCoreModel_wide_14 (by decide) ?_
  refine lv_iand hx hb d_ThumbCoreModel_wide_15 ?_
  refine lv_imul hx hb d_ThumbCoreModel_wide_16 ?_
  refine lv_iadd hx hb d_ThumbCoreModel_wide_17 ?_
  refine lv_topi (fun v2 e_v2 => ?_)
  have hq := tc_nm hq e_v2
  refine lv_istore_n (lv' := [(1, .int v2), (0, .ref h)]) hx hb d_ThumbCoreModel_wide_18 rfl hl (by decide) rfl (fun ls hl => ?_)
  refine lv_aload_n hx hb d_ThumbCoreModel_wide_19 rfl (lv_at hl 1 rfl) ?_
  refine va_get (D := D) (ci := 5) (v := .int c_h) (C := R_ThumbCoreModel) (T := F_ThumbCoreModel) (N := 23) hx hb hts u_ThumbCoreModel hown hK hP 0 rfl rfl 10 (by decide) (hts _ wf_ThumbCoreModel_125) (fun _ h9 => h9) rfl d_ThumbCoreModel_wide_20 ?_
  refine lv_iconst (v := 3) hx hb d_ThumbCoreModel_wide_23 (by decide) ?_
  refine lv_ishr hx hb d_ThumbCoreModel_wide_24 ?_
  refine lv_bipush (v := 15) hx hb d_ThumbCoreModel_wide_25 (by decide) ?_
  refine lv_iand hx hb d_ThumbCoreModel_wide_27 ?_
  refine lv_topi (fun v3 e_v3 => ?_)
  have hq := tc_nm hq e_v3
  refine lv_istore_n (lv' := [(2, .int v3), (1, .int v2), (0, .ref h)]) hx hb d_ThumbCoreModel_wide_28 rfl hl (by decide) rfl (fun ls hl => ?_)
  refine lv_iload_n hx hb d_ThumbCoreModel_wide_29 rfl (lv_at hl 1 rfl) ?_
  refine lv_bipush (v := 15) hx hb d_ThumbCoreModel_wide_30 (by decide) ?_
  refine lv_icmp_ne (tgt := 47) hx hb d_ThumbCoreModel_wide_32 (by decide) (fun g_32 => ?_) (fun g_32 => ?_)
  · have hq := hq.trans (if_pos g_32)
    refine lv_aload_n hx hb d_ThumbCoreModel_wide_47 rfl (lv_at hl 2 rfl) ?_
    refine va_get (D := D) (ci := 5) (v := .ref h_reg) (C := R_ThumbCoreModel) (T := F_ThumbCoreModel) (N := 23) hx hb hts u_ThumbCoreModel hown hK hP 0 rfl rfl 2 (by decide) (hts _ wf_ThumbCoreModel_13) (fun _ h9 => h9) rfl d_ThumbCoreModel_wide_48 ?_
    refine lv_iload_n hx hb d_ThumbCoreModel_wide_51 rfl (lv_at hl 1 rfl) ?_
    refine va_iald hx hb hK hP 2 0 rfl rfl (tc_enW e_v1 e_v2) d_ThumbCoreModel_wide_52 ?_
    exact J_53 H locs ls c_n c_z c_c c_v c_bad c_after c_current c_reg c_active v2 v3 (c_reg v2.toNatClampNeg) hP hD hS (lv_sub hl [2, 1, 0] rfl) hq hi_c_current (tc_enW e_v1 e_v2) (tc_en15 e_v3)
  · have hq := hq.trans (if_neg (fun g => g g_32))
    refine lv_aload_n hx hb d_ThumbCoreModel_wide_35 rfl (lv_at hl 2 rfl) ?_
    refine va_get (D := D) (ci := 5) (v := .ref h_reg) (C := R_ThumbCoreModel) (T := F_ThumbCoreModel) (N := 23) hx hb hts u_ThumbCoreModel hown hK hP 0 rfl rfl 2 (by decide) (hts _ wf_ThumbCoreModel_13) (fun _ h9 => h9) rfl d_ThumbCoreModel_wide_36 ?_
    refine lv_bipush (v := 15) hx hb d_ThumbCoreModel_wide_39 (by decide) ?_
    refine va_iald hx hb hK hP 2 0 rfl rfl (by show ¬ (_ ∨ _); decide) d_ThumbCoreModel_wide_41 ?_
    refine lv_iconst (v := 4) hx hb d_ThumbCoreModel_wide_42 (by decide) ?_
    refine lv_iadd hx hb d_ThumbCoreModel_wide_43 ?_
    refine lv_goto (tgt := 53) hx hb d_ThumbCoreModel_wide_44 (by decide) ?_
    exact J_53 H locs ls c_n c_z c_c c_v c_bad c_after c_current c_reg c_active v2 v3 ((c_reg (15 : Int32).toNatClampNeg) + 4) hP hD hS (lv_sub hl [2, 1, 0] rfl) hq hi_c_current (tc_enW e_v1 e_v2) (tc_en15 e_v3)
abbrev rm_ThumbCoreModel_moves : Room := { frames := 3, cells := 0, slots := 0, locals := 70 }
set_option maxHeartbeats 4000000 in
set_option maxRecDepth 100000 in
theorem c_ThumbCoreModel_moves (l : Launch) (D : va_G) (cI cB cZ : ClassId) (h h_memory h_reg h_kept h_pending h_active h_priorities sz : Nat) (q_size : Int32) (c_n : Bool) (c_z : Bool) (c_c : Bool) (c_v : Bool) (c_keptFlags : Int32) (c_bad : Bool) (c_h : Int32) (c_after : Int32) (c_entered : Bool) (c_mask : Bool) (c_asleep : Bool) (c_lockup : Bool) (c_counts : Bool) (c_counter : Int32) (c_reload : Int32) (c_current : Int32) (c_memory : Nat → Int32) (c_reg : Nat → Int32) (c_kept : Nat → Int32) (c_pending : Nat → Bool) (c_active : Nat → Bool) (c_priorities : Nat → Int32) (x1 : Int32) (x2 : Int32) (x3 : Int32) (hm : tc_memR q_size) (hi_x2 : vp_in x2 16) : Met l y_ThumbCoreModel_moves (.code y_ThumbCoreModel_moves b_ThumbCoreModel_moves 4 none :: tcb) rm_ThumbCoreModel_moves (tc_Pw D tcl (tys cI cB cZ) (wd_ThumbCoreModel cI cB cZ h h_memory h_reg h_kept h_pending h_active h_priorities q_size c_n c_z c_c c_v c_keptFlags c_bad c_h c_after c_entered c_mask c_asleep c_lockup c_counts c_counter c_reload c_current c_memory c_reg c_kept c_pending c_active c_priorities) sz ([.ref h, .int x1, .int x2, .int x3] : List Value) none) (tc_Qv D tcl (wd_ThumbCoreModel cI cB cZ h h_memory h_reg h_kept h_pending h_active h_priorities q_size c_n c_z c_c c_v c_keptFlags c_bad c_h c_after c_entered c_mask c_asleep c_lockup c_counts c_counter c_reload c_current c_memory c_reg c_kept c_pending c_active c_priorities) sz (fun u => (wd_ThumbCoreModel cI cB cZ h h_memory h_reg h_kept h_pending h_active h_priorities q_size c_n c_z c_c c_v c_keptFlags u.1 c_h c_after c_entered c_mask c_asleep c_lockup c_counts c_counter c_reload c_current u.2.1 u.2.2 c_kept c_pending c_active c_priorities)) (f_ThumbCoreModel_moves q_size c_bad c_memory c_reg x1 x2 x3)) 0 0 (va_A (wd_ThumbCoreModel cI cB cZ h h_memory h_reg h_kept h_pending h_active h_priorities q_size c_n c_z c_c c_v c_keptFlags c_bad c_h c_after c_entered c_mask c_asleep c_lockup c_counts c_counter c_reload c_current c_memory c_reg c_kept c_pending c_active c_priorities) sz) := by
  refine tc_mu_v (by decide) (Nat.le_of_ble_eq_true rfl) ?_
  intro p e s m below meth c A Q ls hx hb hml hts hown hK hN hP hD hA hZ hl RET
  have hS : va_S A s.heap s.heap [] := va_S.rf
  have hl : lv_has ls 4 [(0, .ref h), (1, .int x1), (2, .int x2), (3, .int x3)] := hl
  generalize hF : f_ThumbCoreModel_moves q_size c_bad c_memory c_reg x1 x2 x3 = FF at RET
  have hq : FF = f_ThumbCoreModel_moves q_size c_bad c_memory c_reg x1 x2 x3 := hF.symm
  revert hP hD hS
  suffices G : ∀ (H : Heap) (locs : List Loc), va_P D tcl (wd_ThumbCoreModel cI cB cZ h h_memory h_reg h_kept h_pending h_active h_priorities q_size c_n c_z c_c c_v c_keptFlags c_bad c_h c_after c_entered c_mask c_asleep c_lockup c_counts c_counter c_reload c_current c_memory c_reg c_kept c_pending c_active c_priorities) H → va_D A (wd_ThumbCoreModel cI cB cZ h h_memory h_reg h_kept h_pending h_active h_priorities q_size c_n c_z c_c c_v c_keptFlags c_bad c_h c_after c_entered c_mask c_asleep c_lockup c_counts c_counter c_reload c_current c_memory c_reg c_kept c_pending c_active c_priorities) → va_S A s.heap H locs → W p l e rm_ThumbCoreModel_moves s m ([.ref h, .int x1, .int x2, .int x3] : List Value).toArray below meth c H locs 0 0 Q (F0 m 0 ls []) from fun hP hD hS => G _ _ hP hD hS
  intro H locs hP hD hS
  refine lv_iload_n hx hb d_ThumbCoreModel_moves_0 rfl (lv_at hl 1 rfl) ?_
  by_cases g_1_0 : x1 = 0
  · have hq := hq.trans (if_pos g_1_0)
    refine tc_tabIn (k := 0) (off := 43) (tgt := 44) hx hb d_ThumbCoreModel_moves_1 g_1_0 (by decide) (by decide) (by decide +kernel) (by decide) ?_
    refine lv_aload_n hx hb d_ThumbCoreModel_moves_44 rfl (lv_at hl 0 rfl) ?_
    refine lv_iload_n hx hb d_ThumbCoreModel_moves_45 rfl (lv_at hl 3 rfl) ?_
    refine lv_aload_n hx hb d_ThumbCoreModel_moves_46 rfl (lv_at hl 0 rfl) ?_
    refine va_get (D := D) (ci := 5) (v := .ref h_reg) (C := R_ThumbCoreModel) (T := F_ThumbCoreModel) (N := 23) hx hb hts u_ThumbCoreModel hown hK hP 0 rfl rfl 2 (by decide) (hts _ wf_ThumbCoreModel_13) (fun _ h9 => h9) rfl d_ThumbCoreModel_moves_47 ?_
    refine lv_iload_n hx hb d_ThumbCoreModel_moves_50 rfl (lv_at hl 2 rfl) ?_
    refine va_iald hx hb hK hP 2 0 rfl rfl hi_x2 d_ThumbCoreModel_moves_51 ?_
    refine lv_iconst (v := 4) hx hb d_ThumbCoreModel_moves_52 (by decide) ?_
    refine tc_mv (wo := fun u => (wd_ThumbCoreModel cI cB cZ h h_memory h_reg h_kept h_pending h_active h_priorities q_size c_n c_z c_c c_v c_keptFlags u.1 c_h c_after c_entered c_mask c_asleep c_lockup c_counts c_counter c_reload c_current u.2 c_reg c_kept c_pending c_active c_priorities)) (va_runV (As := [.int x3, .int (c_reg x2.toNatClampNeg), .int 4]) (rest := []) ⟨hx, hb, hml, hown, hts⟩ (c_ThumbCoreModel_write l D cI cB cZ h h_memory h_reg h_kept h_pending h_active h_priorities H.size q_size c_n c_z c_c c_v c_keptFlags c_bad c_h c_after c_entered c_mask c_asleep c_lockup c_counts c_counter c_reload c_current c_memory c_reg c_kept c_pending c_active c_priorities x3 (c_reg x2.toNatClampNeg) 4 hm (by decide)) (cwV 3 hts (tc_gV wl_ThumbCoreModel_100 wm_ThumbCoreModel_write ws_ThumbCoreModel_write wi_ThumbCoreModel wc_ThumbCoreModel_write) rfl rfl rfl (by decide +kernel) ⟨Nat.le_of_ble_eq_true rfl, Nat.le_of_ble_eq_true rfl⟩) (tc_preV hK hN hP hD [0, 1, 2, 3, 4, 5, 6] rfl (by decide) (q0 := 0) rfl rfl) rfl rfl hl.1 rfl (lv_room (Nat.le_of_ble_eq_true rfl)) d_ThumbCoreModel_moves_53 (by decide)) hP hD hS hA [0, 1, 2, 3, 4, 5, 6] [] [0, 1, 2, 3, 4, 5, 6] rfl rfl (by decide) (by decide) (by decide) (fun _ => rfl) (fun u H locs hu hP hD hS => ?_)
    obtain ⟨s1, s2⟩ := u
    have hq := hq.trans (un2_eq hu _)
    have e_s1 := hu
    have hP : va_P D tcl (wd_ThumbCoreModel cI cB cZ h h_memory h_reg h_kept h_pending h_active h_priorities q_size c_n c_z c_c c_v c_keptFlags s1 c_h c_after c_entered c_mask c_asleep c_lockup c_counts c_counter c_reload c_current s2 c_reg c_kept c_pending c_active c_priorities) H := hP
    have hD : va_D A (wd_ThumbCoreModel cI cB cZ h h_memory h_reg h_kept h_pending h_active h_priorities q_size c_n c_z c_c c_v c_keptFlags s1 c_h c_after c_entered c_mask c_asleep c_lockup c_counts c_counter c_reload c_current s2 c_reg c_kept c_pending c_active c_priorities) := hD
    refine lv_goto (tgt := 163) hx hb d_ThumbCoreModel_moves_56 (by decide) ?_
    exact RET H locs ls 163 (s1, s2, c_reg) d_ThumbCoreModel_moves_163 hP hD hS hq
  have hq := hq.trans (if_neg g_1_0)
  by_cases g_1_1 : x1 = 1
  · have hq := hq.trans (if_pos g_1_1)
    refine tc_tabIn (k := 1) (off := 58) (tgt := 59) hx hb d_ThumbCoreModel_moves_1 g_1_1 (by decide) (by decide) (by decide +kernel) (by decide) ?_
    refine lv_aload_n hx hb d_ThumbCoreModel_moves_59 rfl (lv_at hl 0 rfl) ?_
    refine lv_iload_n hx hb d_ThumbCoreModel_moves_60 rfl (lv_at hl 3 rfl) ?_
    refine lv_aload_n hx hb d_ThumbCoreModel_moves_61 rfl (lv_at hl 0 rfl) ?_
    refine va_get (D := D) (ci := 5) (v := .ref h_reg) (C := R_ThumbCoreModel) (T := F_ThumbCoreModel) (N := 23) hx hb hts u_ThumbCoreModel hown hK hP 0 rfl rfl 2 (by decide) (hts _ wf_ThumbCoreModel_13) (fun _ h9 => h9) rfl d_ThumbCoreModel_moves_62 ?_
    refine lv_iload_n hx hb d_ThumbCoreModel_moves_65 rfl (lv_at hl 2 rfl) ?_
    refine va_iald hx hb hK hP 2 0 rfl rfl hi_x2 d_ThumbCoreModel_moves_66 ?_
    refine lv_iconst (v := 2) hx hb d_ThumbCoreModel_moves_67 (by decide) ?_
    refine tc_mv (wo := fun u => (wd_ThumbCoreModel cI cB cZ h h_memory h_reg h_kept h_pending h_active h_priorities q_size c_n c_z c_c c_v c_keptFlags u.1 c_h c_after c_entered c_mask c_asleep c_lockup c_counts c_counter c_reload c_current u.2 c_reg c_kept c_pending c_active c_priorities)) (va_runV (As := [.int x3, .int (c_reg x2.toNatClampNeg), .int 2]) (rest := []) ⟨hx, hb, hml, hown, hts⟩ (c_ThumbCoreModel_write l D cI cB cZ h h_memory h_reg h_kept h_pending h_active h_priorities H.size q_size c_n c_z c_c c_v c_keptFlags c_bad c_h c_after c_entered c_mask c_asleep c_lockup c_counts c_counter c_reload c_current c_memory c_reg c_kept c_pending c_active c_priorities x3 (c_reg x2.toNatClampNeg) 2 hm (by decide)) (cwV 3 hts (tc_gV wl_ThumbCoreModel_100 wm_ThumbCoreModel_write ws_ThumbCoreModel_write wi_ThumbCoreModel wc_ThumbCoreModel_write) rfl rfl rfl (by decide +kernel) ⟨Nat.le_of_ble_eq_true rfl, Nat.le_of_ble_eq_true rfl⟩) (tc_preV hK hN hP hD [0, 1, 2, 3, 4, 5, 6] rfl (by decide) (q0 := 0) rfl rfl) rfl rfl hl.1 rfl (lv_room (Nat.le_of_ble_eq_true rfl)) d_ThumbCoreModel_moves_68 (by decide)) hP hD hS hA [0, 1, 2, 3, 4, 5, 6] [] [0, 1, 2, 3, 4, 5, 6] rfl rfl (by decide) (by decide) (by decide) (fun _ => rfl) (fun u H locs hu hP hD hS => ?_)
    obtain ⟨s3, s4⟩ := u
    have hq := hq.trans (un2_eq hu _)
    have e_s3 := hu
    have hP : va_P D tcl (wd_ThumbCoreModel cI cB cZ h h_memory h_reg h_kept h_pending h_active h_priorities q_size c_n c_z c_c c_v c_keptFlags s3 c_h c_after c_entered c_mask c_asleep c_lockup c_counts c_counter c_reload c_current s4 c_reg c_kept c_pending c_active c_priorities) H := hP
    have hD : va_D A (wd_ThumbCoreModel cI cB cZ h h_memory h_reg h_kept h_pending h_active h_priorities q_size c_n c_z c_c c_v c_keptFlags s3 c_h c_after c_entered c_mask c_asleep c_lockup c_counts c_counter c_reload c_current s4 c_reg c_kept c_pending c_active c_priorities) := hD
    refine lv_goto (tgt := 163) hx hb d_ThumbCoreModel_moves_71 (by decide) ?_
    exact RET H locs ls 163 (s3, s4, c_reg) d_ThumbCoreModel_moves_163 hP hD hS hq
  have hq := hq.trans (if_neg g_1_1)
  by_cases g_1_2 : x1 = 2
  · have hq := hq.trans (if_pos g_1_2)
    refine tc_tabIn (k := 2) (off := 73) (tgt := 74) hx hb d_ThumbCoreModel_moves_1 g_1_2 (by decide) (by decide) (by decide +kernel) (by decide) ?_
    refine lv_aload_n hx hb d_ThumbCoreModel_moves_74 rfl (lv_at hl 0 rfl) ?_
    refine lv_iload_n hx hb d_ThumbCoreModel_moves_75 rfl (lv_at hl 3 rfl) ?_
    refine lv_aload_n hx hb d_ThumbCoreModel_moves_76 rfl (lv_at hl 0 rfl) ?_
    refine va_get (D := D) (ci := 5) (v := .ref h_reg) (C := R_ThumbCoreModel) (T := F_ThumbCoreModel) (N := 23) hx hb hts u_ThumbCoreModel hown hK hP 0 rfl rfl 2 (by decide) (hts _ wf_ThumbCoreModel_13) (fun _ h9 => h9) rfl d_ThumbCoreModel_moves_77 ?_
    refine lv_iload_n hx hb d_ThumbCoreModel_moves_80 rfl (lv_at hl 2 rfl) ?_
    refine va_iald hx hb hK hP 2 0 rfl rfl hi_x2 d_ThumbCoreModel_moves_81 ?_
    refine lv_iconst (v := 1) hx hb d_ThumbCoreModel_moves_82 (by decide) ?_
    refine tc_mv (wo := fun u => (wd_ThumbCoreModel cI cB cZ h h_memory h_reg h_kept h_pending h_active h_priorities q_size c_n c_z c_c c_v c_keptFlags u.1 c_h c_after c_entered c_mask c_asleep c_lockup c_counts c_counter c_reload c_current u.2 c_reg c_kept c_pending c_active c_priorities)) (va_runV (As := [.int x3, .int (c_reg x2.toNatClampNeg), .int 1]) (rest := []) ⟨hx, hb, hml, hown, hts⟩ (c_ThumbCoreModel_write l D cI cB cZ h h_memory h_reg h_kept h_pending h_active h_priorities H.size q_size c_n c_z c_c c_v c_keptFlags c_bad c_h c_after c_entered c_mask c_asleep c_lockup c_counts c_counter c_reload c_current c_memory c_reg c_kept c_pending c_active c_priorities x3 (c_reg x2.toNatClampNeg) 1 hm (by decide)) (cwV 3 hts (tc_gV wl_ThumbCoreModel_100 wm_ThumbCoreModel_write ws_ThumbCoreModel_write wi_ThumbCoreModel wc_ThumbCoreModel_write) rfl rfl rfl (by decide +kernel) ⟨Nat.le_of_ble_eq_true rfl, Nat.le_of_ble_eq_true rfl⟩) (tc_preV hK hN hP hD [0, 1, 2, 3, 4, 5, 6] rfl (by decide) (q0 := 0) rfl rfl) rfl rfl hl.1 rfl (lv_room (Nat.le_of_ble_eq_true rfl)) d_ThumbCoreModel_moves_83 (by decide)) hP hD hS hA [0, 1, 2, 3, 4, 5, 6] [] [0, 1, 2, 3, 4, 5, 6] rfl rfl (by decide) (by decide) (by decide) (fun _ => rfl) (fun u H locs hu hP hD hS => ?_)
    obtain ⟨s5, s6⟩ := u
    have hq := hq.trans (un2_eq hu _)
    have e_s5 := hu
    have hP : va_P D tcl (wd_ThumbCoreModel cI cB cZ h h_memory h_reg h_kept h_pending h_active h_priorities q_size c_n c_z c_c c_v c_keptFlags s5 c_h c_after c_entered c_mask c_asleep c_lockup c_counts c_counter c_reload c_current s6 c_reg c_kept c_pending c_active c_priorities) H := hP
    have hD : va_D A (wd_ThumbCoreModel cI cB cZ h h_memory h_reg h_kept h_pending h_active h_priorities q_size c_n c_z c_c c_v c_keptFlags s5 c_h c_after c_entered c_mask c_asleep c_lockup c_counts c_counter c_reload c_current s6 c_reg c_kept c_pending c_active c_priorities) := hD
    refine lv_goto (tgt := 163) hx hb d_ThumbCoreModel_moves_86 (by decide) ?_
    exact RET H locs ls 163 (s5, s6, c_reg) d_ThumbCoreModel_moves_163 hP hD hS hq
  have hq := hq.trans (if_neg g_1_2)
  by_cases g_1_3 : x1 = 3
  · have hq := hq.trans (if_pos g_1_3)
    refine tc_tabIn (k := 3) (off := 88) (tgt := 89) hx hb d_ThumbCoreModel_moves_1 g_1_3 (by decide) (by decide) (by decide +kernel) (by decide) ?_
    refine lv_aload_n hx hb d_ThumbCoreModel_moves_89 rfl (lv_at hl 0 rfl) ?_
    refine va_get (D := D) (ci := 5) (v := .ref h_reg) (C := R_ThumbCoreModel) (T := F_ThumbCoreModel) (N := 23) hx hb hts u_ThumbCoreModel hown hK hP 0 rfl rfl 2 (by decide) (hts _ wf_ThumbCoreModel_13) (fun _ h9 => h9) rfl d_ThumbCoreModel_moves_90 ?_
    refine lv_iload_n hx hb d_ThumbCoreModel_moves_93 rfl (lv_at hl 2 rfl) ?_
    refine lv_aload_n hx hb d_ThumbCoreModel_moves_94 rfl (lv_at hl 0 rfl) ?_
    refine lv_iload_n hx hb d_ThumbCoreModel_moves_95 rfl (lv_at hl 3 rfl) ?_
    refine lv_iconst (v := 1) hx hb d_ThumbCoreModel_moves_96 (by decide) ?_
    refine tc_mi (wo := fun u => (wd_ThumbCoreModel cI cB cZ h h_memory h_reg h_kept h_pending h_active h_priorities q_size c_n c_z c_c c_v c_keptFlags u.2 c_h c_after c_entered c_mask c_asleep c_lockup c_counts c_counter c_reload c_current c_memory c_reg c_kept c_pending c_active c_priorities)) (va_runV (As := [.int x3, .int 1]) (rest := [.int x2, .ref h_reg]) ⟨hx, hb, hml, hown, hts⟩ (c_ThumbCoreModel_read l D cI cB cZ h h_memory h_reg h_kept h_pending h_active h_priorities H.size q_size c_n c_z c_c c_v c_keptFlags c_bad c_h c_after c_entered c_mask c_asleep c_lockup c_counts c_counter c_reload c_current c_memory c_reg c_kept c_pending c_active c_priorities x3 1 hm (by decide)) (cwV 2 hts (tc_gV wl_ThumbCoreModel_45 wm_ThumbCoreModel_read ws_ThumbCoreModel_read wi_ThumbCoreModel wc_ThumbCoreModel_read) rfl rfl rfl (by decide +kernel) ⟨Nat.le_of_ble_eq_true rfl, Nat.le_of_ble_eq_true rfl⟩) (tc_preV hK hN hP hD [0, 1, 2, 3, 4, 5, 6] rfl (by decide) (q0 := 0) rfl rfl) rfl rfl hl.1 rfl (lv_room (Nat.le_of_ble_eq_true rfl)) d_ThumbCoreModel_moves_97 (by decide)) hP hD hS hA [0, 1, 2, 3, 4, 5, 6] [] [0, 1, 2, 3, 4, 5, 6] rfl rfl (by decide) (by decide) (by decide) (fun _ => rfl) (fun u H locs hu hP hD hS => ?_)
    obtain ⟨r7, s8⟩ := u
    have hq := hq.trans (un2_eq hu _)
    have e_r7 := hu
    have hP : va_P D tcl (wd_ThumbCoreModel cI cB cZ h h_memory h_reg h_kept h_pending h_active h_priorities q_size c_n c_z c_c c_v c_keptFlags s8 c_h c_after c_entered c_mask c_asleep c_lockup c_counts c_counter c_reload c_current c_memory c_reg c_kept c_pending c_active c_priorities) H := hP
    have hD : va_D A (wd_ThumbCoreModel cI cB cZ h h_memory h_reg h_kept h_pending h_active h_priorities q_size c_n c_z c_c c_v c_keptFlags s8 c_h c_after c_entered c_mask c_asleep c_lockup c_counts c_counter c_reload c_current c_memory c_reg c_kept c_pending c_active c_priorities) := hD
    refine W.eq (g2 := F0 m 100 ls [.int r7, .int x2, .ref h_reg]) rfl ?_
    refine lv_i2b (v := r7.toInt8.toInt32) hx hb d_ThumbCoreModel_moves_100 rfl ?_
    refine va_iast hx hb hK hP hD hS 2 0 rfl rfl hi_x2 d_ThumbCoreModel_moves_101 (fun H locs hP hD hS => ?_)
    have hP : va_P D tcl (wd_ThumbCoreModel cI cB cZ h h_memory h_reg h_kept h_pending h_active h_priorities q_size c_n c_z c_c c_v c_keptFlags s8 c_h c_after c_entered c_mask c_asleep c_lockup c_counts c_counter c_reload c_current c_memory (upd c_reg x2.toNatClampNeg r7.toInt8.toInt32) c_kept c_pending c_active c_priorities) H := hP
    have hD : va_D A (wd_ThumbCoreModel cI cB cZ h h_memory h_reg h_kept h_pending h_active h_priorities q_size c_n c_z c_c c_v c_keptFlags s8 c_h c_after c_entered c_mask c_asleep c_lockup c_counts c_counter c_reload c_current c_memory (upd c_reg x2.toNatClampNeg r7.toInt8.toInt32) c_kept c_pending c_active c_priorities) := hD
    refine lv_goto (tgt := 163) hx hb d_ThumbCoreModel_moves_102 (by decide) ?_
    exact RET H locs ls 163 (s8, c_memory, (upd c_reg x2.toNatClampNeg r7.toInt8.toInt32)) d_ThumbCoreModel_moves_163 hP hD hS hq
  have hq := hq.trans (if_neg g_1_3)
  by_cases g_1_4 : x1 = 4
  · have hq := hq.trans (if_pos g_1_4)
    refine tc_tabIn (k := 4) (off := 104) (tgt := 105) hx hb d_ThumbCoreModel_moves_1 g_1_4 (by decide) (by decide) (by decide +kernel) (by decide) ?_
    refine lv_aload_n hx hb d_ThumbCoreModel_moves_105 rfl (lv_at hl 0 rfl) ?_
    refine va_get (D := D) (ci := 5) (v := .ref h_reg) (C := R_ThumbCoreModel) (T := F_ThumbCoreModel) (N := 23) hx hb hts u_ThumbCoreModel hown hK hP 0 rfl rfl 2 (by decide) (hts _ wf_ThumbCoreModel_13) (fun _ h9 => h9) rfl d_ThumbCoreModel_moves_106 ?_
    refine lv_iload_n hx hb d_ThumbCoreModel_moves_109 rfl (lv_at hl 2 rfl) ?_
    refine lv_aload_n hx hb d_ThumbCoreModel_moves_110 rfl (lv_at hl 0 rfl) ?_
    refine lv_iload_n hx hb d_ThumbCoreModel_moves_111 rfl (lv_at hl 3 rfl) ?_
    refine lv_iconst (v := 4) hx hb d_ThumbCoreModel_moves_112 (by decide) ?_
    refine tc_mi (wo := fun u => (wd_ThumbCoreModel cI cB cZ h h_memory h_reg h_kept h_pending h_active h_priorities q_size c_n c_z c_c c_v c_keptFlags u.2 c_h c_after c_entered c_mask c_asleep c_lockup c_counts c_counter c_reload c_current c_memory c_reg c_kept c_pending c_active c_priorities)) (va_runV (As := [.int x3, .int 4]) (rest := [.int x2, .ref h_reg]) ⟨hx, hb, hml, hown, hts⟩ (c_ThumbCoreModel_read l D cI cB cZ h h_memory h_reg h_kept h_pending h_active h_priorities H.size q_size c_n c_z c_c c_v c_keptFlags c_bad c_h c_after c_entered c_mask c_asleep c_lockup c_counts c_counter c_reload c_current c_memory c_reg c_kept c_pending c_active c_priorities x3 4 hm (by decide)) (cwV 2 hts (tc_gV wl_ThumbCoreModel_45 wm_ThumbCoreModel_read ws_ThumbCoreModel_read wi_ThumbCoreModel wc_ThumbCoreModel_read) rfl rfl rfl (by decide +kernel) ⟨Nat.le_of_ble_eq_true rfl, Nat.le_of_ble_eq_true rfl⟩) (tc_preV hK hN hP hD [0, 1, 2, 3, 4, 5, 6] rfl (by decide) (q0 := 0) rfl rfl) rfl rfl hl.1 rfl (lv_room (Nat.le_of_ble_eq_true rfl)) d_ThumbCoreModel_moves_113 (by decide)) hP hD hS hA [0, 1, 2, 3, 4, 5, 6] [] [0, 1, 2, 3, 4, 5, 6] rfl rfl (by decide) (by decide) (by decide) (fun _ => rfl) (fun u H locs hu hP hD hS => ?_)
    obtain ⟨r9, s10⟩ := u
    have hq := hq.trans (un2_eq hu _)
    have e_r9 := hu
    have hP : va_P D tcl (wd_ThumbCoreModel cI cB cZ h h_memory h_reg h_kept h_pending h_active h_priorities q_size c_n c_z c_c c_v c_keptFlags s10 c_h c_after c_entered c_mask c_asleep c_lockup c_counts c_counter c_reload c_current c_memory c_reg c_kept c_pending c_active c_priorities) H := hP
    have hD : va_D A (wd_ThumbCoreModel cI cB cZ h h_memory h_reg h_kept h_pending h_active h_priorities q_size c_n c_z c_c c_v c_keptFlags s10 c_h c_after c_entered c_mask c_asleep c_lockup c_counts c_counter c_reload c_current c_memory c_reg c_kept c_pending c_active c_priorities) := hD
    refine W.eq (g2 := F0 m 116 ls [.int r9, .int x2, .ref h_reg]) rfl ?_
    refine va_iast hx hb hK hP hD hS 2 0 rfl rfl hi_x2 d_ThumbCoreModel_moves_116 (fun H locs hP hD hS => ?_)
    have hP : va_P D tcl (wd_ThumbCoreModel cI cB cZ h h_memory h_reg h_kept h_pending h_active h_priorities q_size c_n c_z c_c c_v c_keptFlags s10 c_h c_after c_entered c_mask c_asleep c_lockup c_counts c_counter c_reload c_current c_memory (upd c_reg x2.toNatClampNeg r9) c_kept c_pending c_active c_priorities) H := hP
    have hD : va_D A (wd_ThumbCoreModel cI cB cZ h h_memory h_reg h_kept h_pending h_active h_priorities q_size c_n c_z c_c c_v c_keptFlags s10 c_h c_after c_entered c_mask c_asleep c_lockup c_counts c_counter c_reload c_current c_memory (upd c_reg x2.toNatClampNeg r9) c_kept c_pending c_active c_priorities) := hD
    refine lv_goto (tgt := 163) hx hb d_ThumbCoreModel_moves_117 (by decide) ?_
    exact RET H locs ls 163 (s10, c_memory, (upd c_reg x2.toNatClampNeg r9)) d_ThumbCoreModel_moves_163 hP hD hS hq
  have hq := hq.trans (if_neg g_1_4)
  by_cases g_1_5 : x1 = 5
  · have hq := hq.trans (if_pos g_1_5)
    refine tc_tabIn (k := 5) (off := 119) (tgt := 120) hx hb d_ThumbCoreModel_moves_1 g_1_5 (by decide) (by decide) (by decide +kernel) (by decide) ?_
    refine lv_aload_n hx hb d_ThumbCoreModel_moves_120 rfl (lv_at hl 0 rfl) ?_
    refine va_get (D := D) (ci := 5) (v := .ref h_reg) (C := R_ThumbCoreModel) (T := F_ThumbCoreModel) (N := 23) hx hb hts u_ThumbCoreModel hown hK hP 0 rfl rfl 2 (by decide) (hts _ wf_ThumbCoreModel_13) (fun _ h9 => h9) rfl d_ThumbCoreModel_moves_121 ?_
    refine lv_iload_n hx hb d_ThumbCoreModel_moves_124 rfl (lv_at hl 2 rfl) ?_
    refine lv_aload_n hx hb d_ThumbCoreModel_moves_125 rfl (lv_at hl 0 rfl) ?_
    refine lv_iload_n hx hb d_ThumbCoreModel_moves_126 rfl (lv_at hl 3 rfl) ?_
    refine lv_iconst (v := 2) hx hb d_ThumbCoreModel_moves_127 (by decide) ?_
    refine tc_mi (wo := fun u => (wd_ThumbCoreModel cI cB cZ h h_memory h_reg h_kept h_pending h_active h_priorities q_size c_n c_z c_c c_v c_keptFlags u.2 c_h c_after c_entered c_mask c_asleep c_lockup c_counts c_counter c_reload c_current c_memory c_reg c_kept c_pending c_active c_priorities)) (va_runV (As := [.int x3, .int 2]) (rest := [.int x2, .ref h_reg]) ⟨hx, hb, hml, hown, hts⟩ (c_ThumbCoreModel_read l D cI cB cZ h h_memory h_reg h_kept h_pending h_active h_priorities H.size q_size c_n c_z c_c c_v c_keptFlags c_bad c_h c_after c_entered c_mask c_asleep c_lockup c_counts c_counter c_reload c_current c_memory c_reg c_kept c_pending c_active c_priorities x3 2 hm (by decide)) (cwV 2 hts (tc_gV wl_ThumbCoreModel_45 wm_ThumbCoreModel_read ws_ThumbCoreModel_read wi_ThumbCoreModel wc_ThumbCoreModel_read) rfl rfl rfl (by decide +kernel) ⟨Nat.le_of_ble_eq_true rfl, Nat.le_of_ble_eq_true rfl⟩) (tc_preV hK hN hP hD [0, 1, 2, 3, 4, 5, 6] rfl (by decide) (q0 := 0) rfl rfl) rfl rfl hl.1 rfl (lv_room (Nat.le_of_ble_eq_true rfl)) d_ThumbCoreModel_moves_128 (by decide)) hP hD hS hA [0, 1, 2, 3, 4, 5, 6] [] [0, 1, 2, 3, 4, 5, 6] rfl rfl (by decide) (by decide) (by decide) (fun _ => rfl) (fun u H locs hu hP hD hS => ?_)
    obtain ⟨r11, s12⟩ := u
    have hq := hq.trans (un2_eq hu _)
    have e_r11 := hu
    have hP : va_P D tcl (wd_ThumbCoreModel cI cB cZ h h_memory h_reg h_kept h_pending h_active h_priorities q_size c_n c_z c_c c_v c_keptFlags s12 c_h c_after c_entered c_mask c_asleep c_lockup c_counts c_counter c_reload c_current c_memory c_reg c_kept c_pending c_active c_priorities) H := hP
    have hD : va_D A (wd_ThumbCoreModel cI cB cZ h h_memory h_reg h_kept h_pending h_active h_priorities q_size c_n c_z c_c c_v c_keptFlags s12 c_h c_after c_entered c_mask c_asleep c_lockup c_counts c_counter c_reload c_current c_memory c_reg c_kept c_pending c_active c_priorities) := hD
    refine W.eq (g2 := F0 m 131 ls [.int r11, .int x2, .ref h_reg]) rfl ?_
    refine va_iast hx hb hK hP hD hS 2 0 rfl rfl hi_x2 d_ThumbCoreModel_moves_131 (fun H locs hP hD hS => ?_)
    have hP : va_P D tcl (wd_ThumbCoreModel cI cB cZ h h_memory h_reg h_kept h_pending h_active h_priorities q_size c_n c_z c_c c_v c_keptFlags s12 c_h c_after c_entered c_mask c_asleep c_lockup c_counts c_counter c_reload c_current c_memory (upd c_reg x2.toNatClampNeg r11) c_kept c_pending c_active c_priorities) H := hP
    have hD : va_D A (wd_ThumbCoreModel cI cB cZ h h_memory h_reg h_kept h_pending h_active h_priorities q_size c_n c_z c_c c_v c_keptFlags s12 c_h c_after c_entered c_mask c_asleep c_lockup c_counts c_counter c_reload c_current c_memory (upd c_reg x2.toNatClampNeg r11) c_kept c_pending c_active c_priorities) := hD
    refine lv_goto (tgt := 163) hx hb d_ThumbCoreModel_moves_132 (by decide) ?_
    exact RET H locs ls 163 (s12, c_memory, (upd c_reg x2.toNatClampNeg r11)) d_ThumbCoreModel_moves_163 hP hD hS hq
  have hq := hq.trans (if_neg g_1_5)
  by_cases g_1_6 : x1 = 6
  · have hq := hq.trans (if_pos g_1_6)
    refine tc_tabIn (k := 6) (off := 134) (tgt := 135) hx hb d_ThumbCoreModel_moves_1 g_1_6 (by decide) (by decide) (by decide +kernel) (by decide) ?_
    refine lv_aload_n hx hb d_ThumbCoreModel_moves_135 rfl (lv_at hl 0 rfl) ?_
    refine va_get (D := D) (ci := 5) (v := .ref h_reg) (C := R_ThumbCoreModel) (T := F_ThumbCoreModel) (N := 23) hx hb hts u_ThumbCoreModel hown hK hP 0 rfl rfl 2 (by decide) (hts _ wf_ThumbCoreModel_13) (fun _ h9 => h9) rfl d_ThumbCoreModel_moves_136 ?_
    refine lv_iload_n hx hb d_ThumbCoreModel_moves_139 rfl (lv_at hl 2 rfl) ?_
    refine lv_aload_n hx hb d_ThumbCoreModel_moves_140 rfl (lv_at hl 0 rfl) ?_
    refine lv_iload_n hx hb d_ThumbCoreModel_moves_141 rfl (lv_at hl 3 rfl) ?_
    refine lv_iconst (v := 1) hx hb d_ThumbCoreModel_moves_142 (by decide) ?_
    refine tc_mi (wo := fun u => (wd_ThumbCoreModel cI cB cZ h h_memory h_reg h_kept h_pending h_active h_priorities q_size c_n c_z c_c c_v c_keptFlags u.2 c_h c_after c_entered c_mask c_asleep c_lockup c_counts c_counter c_reload c_current c_memory c_reg c_kept c_pending c_active c_priorities)) (va_runV (As := [.int x3, .int 1]) (rest := [.int x2, .ref h_reg]) ⟨hx, hb, hml, hown, hts⟩ (c_ThumbCoreModel_read l D cI cB cZ h h_memory h_reg h_kept h_pending h_active h_priorities H.size q_size c_n c_z c_c c_v c_keptFlags c_bad c_h c_after c_entered c_mask c_asleep c_lockup c_counts c_counter c_reload c_current c_memory c_reg c_kept c_pending c_active c_priorities x3 1 hm (by decide)) (cwV 2 hts (tc_gV wl_ThumbCoreModel_45 wm_ThumbCoreModel_read ws_ThumbCoreModel_read wi_ThumbCoreModel wc_ThumbCoreModel_read) rfl rfl rfl (by decide +kernel) ⟨Nat.le_of_ble_eq_true rfl, Nat.le_of_ble_eq_true rfl⟩) (tc_preV hK hN hP hD [0, 1, 2, 3, 4, 5, 6] rfl (by decide) (q0 := 0) rfl rfl) rfl rfl hl.1 rfl (lv_room (Nat.le_of_ble_eq_true rfl)) d_ThumbCoreModel_moves_143 (by decide)) hP hD hS hA [0, 1, 2, 3, 4, 5, 6] [] [0, 1, 2, 3, 4, 5, 6] rfl rfl (by decide) (by decide) (by decide) (fun _ => rfl) (fun u H locs hu hP hD hS => ?_)
    obtain ⟨r13, s14⟩ := u
    have hq := hq.trans (un2_eq hu _)
    have e_r13 := hu
    have hP : va_P D tcl (wd_ThumbCoreModel cI cB cZ h h_memory h_reg h_kept h_pending h_active h_priorities q_size c_n c_z c_c c_v c_keptFlags s14 c_h c_after c_entered c_mask c_asleep c_lockup c_counts c_counter c_reload c_current c_memory c_reg c_kept c_pending c_active c_priorities) H := hP
    have hD : va_D A (wd_ThumbCoreModel cI cB cZ h h_memory h_reg h_kept h_pending h_active h_priorities q_size c_n c_z c_c c_v c_keptFlags s14 c_h c_after c_entered c_mask c_asleep c_lockup c_counts c_counter c_reload c_current c_memory c_reg c_kept c_pending c_active c_priorities) := hD
    refine W.eq (g2 := F0 m 146 ls [.int r13, .int x2, .ref h_reg]) rfl ?_
    refine va_iast hx hb hK hP hD hS 2 0 rfl rfl hi_x2 d_ThumbCoreModel_moves_146 (fun H locs hP hD hS => ?_)
    have hP : va_P D tcl (wd_ThumbCoreModel cI cB cZ h h_memory h_reg h_kept h_pending h_active h_priorities q_size c_n c_z c_c c_v c_keptFlags s14 c_h c_after c_entered c_mask c_asleep c_lockup c_counts c_counter c_reload c_current c_memory (upd c_reg x2.toNatClampNeg r13) c_kept c_pending c_active c_priorities) H := hP
    have hD : va_D A (wd_ThumbCoreModel cI cB cZ h h_memory h_reg h_kept h_pending h_active h_priorities q_size c_n c_z c_c c_v c_keptFlags s14 c_h c_after c_entered c_mask c_asleep c_lockup c_counts c_counter c_reload c_current c_memory (upd c_reg x2.toNatClampNeg r13) c_kept c_pending c_active c_priorities) := hD
    refine lv_goto (tgt := 163) hx hb d_ThumbCoreModel_moves_147 (by decide) ?_
    exact RET H locs ls 163 (s14, c_memory, (upd c_reg x2.toNatClampNeg r13)) d_ThumbCoreModel_moves_163 hP hD hS hq
  have hq := hq.trans (if_neg g_1_6)
  have DF : W p l e rm_ThumbCoreModel_moves s m ([.ref h, .int x1, .int x2, .int x3] : List Value).toArray below meth c H locs 0 0 Q (F0 m 150 ls []) := by
    refine lv_aload_n hx hb d_ThumbCoreModel_moves_150 rfl (lv_at hl 0 rfl) ?_
    refine va_get (D := D) (ci := 5) (v := .ref h_reg) (C := R_ThumbCoreModel) (T := F_ThumbCoreModel) (N := 23) hx hb hts u_ThumbCoreModel hown hK hP 0 rfl rfl 2 (by decide) (hts _ wf_ThumbCoreModel_13) (fun _ h9 => h9) rfl d_ThumbCoreModel_moves_151 ?_
    refine lv_iload_n hx hb d_ThumbCoreModel_moves_154 rfl (lv_at hl 2 rfl) ?_
    refine lv_aload_n hx hb d_ThumbCoreModel_moves_155 rfl (lv_at hl 0 rfl) ?_
    refine lv_iload_n hx hb d_ThumbCoreModel_moves_156 rfl (lv_at hl 3 rfl) ?_
    refine lv_iconst (v := 2) hx hb d_ThumbCoreModel_moves_157 (by decide) ?_
    refine tc_mi (wo := fun u => (wd_ThumbCoreModel cI cB cZ h h_memory h_reg h_kept h_pending h_active h_priorities q_size c_n c_z c_c c_v c_keptFlags u.2 c_h c_after c_entered c_mask c_asleep c_lockup c_counts c_counter c_reload c_current c_memory c_reg c_kept c_pending c_active c_priorities)) (va_runV (As := [.int x3, .int 2]) (rest := [.int x2, .ref h_reg]) ⟨hx, hb, hml, hown, hts⟩ (c_ThumbCoreModel_read l D cI cB cZ h h_memory h_reg h_kept h_pending h_active h_priorities H.size q_size c_n c_z c_c c_v c_keptFlags c_bad c_h c_after c_entered c_mask c_asleep c_lockup c_counts c_counter c_reload c_current c_memory c_reg c_kept c_pending c_active c_priorities x3 2 hm (by decide)) (cwV 2 hts (tc_gV wl_ThumbCoreModel_45 wm_ThumbCoreModel_read ws_ThumbCoreModel_read wi_ThumbCoreModel wc_ThumbCoreModel_read) rfl rfl rfl (by decide +kernel) ⟨Nat.le_of_ble_eq_true rfl, Nat.le_of_ble_eq_true rfl⟩) (tc_preV hK hN hP hD [0, 1, 2, 3, 4, 5, 6] rfl (by decide) (q0 := 0) rfl rfl) rfl rfl hl.1 rfl (lv_room (Nat.le_of_ble_eq_true rfl)) d_ThumbCoreModel_moves_158 (by decide)) hP hD hS hA [0, 1, 2, 3, 4, 5, 6] [] [0, 1, 2, 3, 4, 5, 6] rfl rfl (by decide) (by decide) (by decide) (fun _ => rfl) (fun u H locs hu hP hD hS => ?_)
    obtain ⟨r15, s16⟩ := u
    have hq := hq.trans (un2_eq hu _)
    have e_r15 := hu
    have hP : va_P D tcl (wd_ThumbCoreModel cI cB cZ h h_memory h_reg h_kept h_pending h_active h_priorities q_size c_n c_z c_c c_v c_keptFlags s16 c_h c_after c_entered c_mask c_asleep c_lockup c_counts c_counter c_reload c_current c_memory c_reg c_kept c_pending c_active c_priorities) H := hP
    have hD : va_D A (wd_ThumbCoreModel cI cB cZ h h_memory h_reg h_kept h_pending h_active h_priorities q_size c_n c_z c_c c_v c_keptFlags s16 c_h c_after c_entered c_mask c_asleep c_lockup c_counts c_counter c_reload c_current c_memory c_reg c_kept c_pending c_active c_priorities) := hD
    refine W.eq (g2 := F0 m 161 ls [.int r15, .int x2, .ref h_reg]) rfl ?_
    refine lv_i2s (v := r15.toInt16.toInt32) hx hb d_ThumbCoreModel_moves_161 rfl ?_
    refine va_iast hx hb hK hP hD hS 2 0 rfl rfl hi_x2 d_ThumbCoreModel_moves_162 (fun H locs hP hD hS => ?_)
    have hP : va_P D tcl (wd_ThumbCoreModel cI cB cZ h h_memory h_reg h_kept h_pending h_active h_priorities q_size c_n c_z c_c c_v c_keptFlags s16 c_h c_after c_entered c_mask c_asleep c_lockup c_counts c_counter c_reload c_current c_memory (upd c_reg x2.toNatClampNeg r15.toInt16.toInt32) c_kept c_pending c_active c_priorities) H := hP
    have hD : va_D A (wd_ThumbCoreModel cI cB cZ h h_memory h_reg h_kept h_pending h_active h_priorities q_size c_n c_z c_c c_v c_keptFlags s16 c_h c_after c_entered c_mask c_asleep c_lockup c_counts c_counter c_reload c_current c_memory (upd c_reg x2.toNatClampNeg r15.toInt16.toInt32) c_kept c_pending c_active c_priorities) := hD
    exact RET H locs ls 163 (s16, c_memory, (upd c_reg x2.toNatClampNeg r15.toInt16.toInt32)) d_ThumbCoreModel_moves_163 hP hD hS hq
  exact lv_tableOut (x := x1) hx hb d_ThumbCoreModel_moves_1 (by have n0 := tc_ne (j := 0) g_1_0 (by decide); have n1 := tc_ne (j := 1) g_1_1 (by decide); have n2 := tc_ne (j := 2) g_1_2 (by decide); have n3 := tc_ne (j := 3) g_1_3 (by decide); have n4 := tc_ne (j := 4) g_1_4 (by decide); have n5 := tc_ne (j := 5) g_1_5 (by decide); have n6 := tc_ne (j := 6) g_1_6 (by decide); omega) (by decide) DF
abbrev rm_ThumbCoreModel_listed : Room := { frames := 1, cells := 0, slots := 0, locals := 24 }
set_option maxHeartbeats 4000000 in
set_option maxRecDepth 100000 in
theorem c_ThumbCoreModel_listed (l : Launch) (D : va_G) (cI cB cZ : ClassId) (h h_memory h_reg h_kept h_pending h_active h_priorities sz : Nat) (q_size : Int32) (c_n : Bool) (c_z : Bool) (c_c : Bool) (c_v : Bool) (c_keptFlags : Int32) (c_bad : Bool) (c_h : Int32) (c_after : Int32) (c_entered : Bool) (c_mask : Bool) (c_asleep : Bool) (c_lockup : Bool) (c_counts : Bool) (c_counter : Int32) (c_reload : Int32) (c_current : Int32) (c_memory : Nat → Int32) (c_reg : Nat → Int32) (c_kept : Nat → Int32) (c_pending : Nat → Bool) (c_active : Nat → Bool) (c_priorities : Nat → Int32) (x1 : Int32) : Met l y_ThumbCoreModel_listed (.code y_ThumbCoreModel_listed b_ThumbCoreModel_listed 4 (some .int) :: tcb) rm_ThumbCoreModel_listed (tc_Pw D tcl (tys cI cB cZ) (wd_ThumbCoreModel cI cB cZ h h_memory h_reg h_kept h_pending h_active h_priorities q_size c_n c_z c_c c_v c_keptFlags c_bad c_h c_after c_entered c_mask c_asleep c_lockup c_counts c_counter c_reload c_current c_memory c_reg c_kept c_pending c_active c_priorities) sz ([.ref h, .int x1] : List Value) none) (QcRead (f_ThumbCoreModel_listed x1)) 0 0 (fun _ => False) := by
  refine tc_rd_i (by decide) (Nat.le_of_ble_eq_true rfl) ?_
  intro p e s m below meth c Q ls hx hb hml hts hown hK hN hP hD hl RET
  have hl : lv_has ls 4 [(0, .ref h), (1, .int x1)] := hl
  generalize hF : f_ThumbCoreModel_listed x1 = FF at RET
  have J_4 : ∀ n : Nat, ∀ (ls : Array Slot) (y1 : Int32) (y2 : Int32) (y3 : Int32), lv_has ls 4 [(1, .int y1), (2, .int y2), (3, .int y3)] → FF = k_ThumbCoreModel_listed_4 n y1 y2 y3 → (tc_lp y3 9 n) → W p l e rm_ThumbCoreModel_listed s m ([.ref h, .int x1] : List Value).toArray below meth c s.heap [] 0 0 Q (F0 m 4 ls []) := by
    intro n
    induction n with
    | zero =>
      intro ls y1 y2 y3 hl hq hinv
      exact (tc_lp0 hinv).elim
    | succ n_4 IH_4 =>
      intro ls y1 y2 y3 hl hq hinv
      refine lv_iload_n hx hb d_ThumbCoreModel_listed_4 rfl (lv_at hl 2 rfl) ?_
      refine lv_bipush (v := 9) hx hb d_ThumbCoreModel_listed_5 (by decide) ?_
      refine lv_icmp_ge (tgt := 24) hx hb d_ThumbCoreModel_listed_7 (by decide) (fun g_7 => ?_) (fun g_7 => ?_)
      · have hq := hq.trans (if_pos g_7)
        refine lv_iload_n hx hb d_ThumbCoreModel_listed_24 rfl (lv_at hl 1 rfl) ?_
        exact RET ls 25 d_ThumbCoreModel_listed_25 hq
      · have hq := hq.trans (if_neg g_7)
        have hgd : y3.toInt < ((9 : Nat) : Int) := tc_gge g_7 (by decide)
        refine lv_iload_n hx hb d_ThumbCoreModel_listed_10 rfl (lv_at hl 1 rfl) ?_
        refine lv_iload_n hx hb d_ThumbCoreModel_listed_11 rfl (lv_at hl 0 rfl) ?_
        refine lv_iload_n hx hb d_ThumbCoreModel_listed_12 rfl (lv_at hl 2 rfl) ?_
        refine lv_ishr hx hb d_ThumbCoreModel_listed_13 ?_
        refine lv_iconst (v := 1) hx hb d_ThumbCoreModel_listed_14 (by decide) ?_
        refine lv_iand hx hb d_ThumbCoreModel_listed_15 ?_
        refine lv_iadd hx hb d_ThumbCoreModel_listed_16 ?_
        refine lv_topi (fun v1 e_v1 => ?_)
        have hq := tc_nm hq e_v1
        refine lv_istore_n (lv' := [(2, .int v1), (1, .int y1), (3, .int y3)]) hx hb d_ThumbCoreModel_listed_17 rfl hl (by decide) rfl (fun ls hl => ?_)
        refine lv_iinc (k := 2) (v := (y3 + 1)) (lv' := [(3, .int (y3 + 1)), (2, .int v1), (1, .int y1)]) hx hb d_ThumbCoreModel_listed_18 hl rfl rfl (by decide) rfl (fun ls hl => ?_)
        refine lv_goto (tgt := 4) hx hb d_ThumbCoreModel_listed_21 (by decide) ?_
        exact IH_4 ls y1 v1 (y3 + 1) (lv_sub hl [2, 1, 0] rfl) hq (tc_lpS hinv hgd (by decide))
  have hq : FF = f_ThumbCoreModel_listed x1 := hF.symm
  refine lv_iconst (v := 0) hx hb d_ThumbCoreModel_listed_0 (by decide) ?_
  refine lv_istore_n (lv' := [(2, .int 0), (0, .ref h), (1, .int x1)]) hx hb d_ThumbCoreModel_listed_1 rfl hl (by decide) rfl (fun ls hl => ?_)
  refine lv_iconst (v := 0) hx hb d_ThumbCoreModel_listed_2 (by decide) ?_
  refine lv_istore_n (lv' := [(3, .int 0), (2, .int 0), (0, .ref h), (1, .int x1)]) hx hb d_ThumbCoreModel_listed_3 rfl hl (by decide) rfl (fun ls hl => ?_)
  exact J_4 (10) ls x1 0 0 (lv_sub hl [3, 1, 0] rfl) hq (tc_lpE _)
abbrev rm_ThumbCoreModel_allThere : Room := { frames := 2, cells := 0, slots := 0, locals := 46 }
set_option maxHeartbeats 4000000 in
set_option maxRecDepth 100000 in
theorem c_ThumbCoreModel_allThere (l : Launch) (D : va_G) (cI cB cZ : ClassId) (h h_memory h_reg h_kept h_pending h_active h_priorities sz : Nat) (q_size : Int32) (c_n : Bool) (c_z : Bool) (c_c : Bool) (c_v : Bool) (c_keptFlags : Int32) (c_bad : Bool) (c_h : Int32) (c_after : Int32) (c_entered : Bool) (c_mask : Bool) (c_asleep : Bool) (c_lockup : Bool) (c_counts : Bool) (c_counter : Int32) (c_reload : Int32) (c_current : Int32) (c_memory : Nat → Int32) (c_reg : Nat → Int32) (c_kept : Nat → Int32) (c_pending : Nat → Bool) (c_active : Nat → Bool) (c_priorities : Nat → Int32) (x1 : Int32) (x2 : Int32) : Met l y_ThumbCoreModel_allThere (.code y_ThumbCoreModel_allThere b_ThumbCoreModel_allThere 5 (some .boolean) :: tcb) rm_ThumbCoreModel_allThere (tc_Pw D tcl (tys cI cB cZ) (wd_ThumbCoreModel cI cB cZ h h_memory h_reg h_kept h_pending h_active h_priorities q_size c_n c_z c_c c_v c_keptFlags c_bad c_h c_after c_entered c_mask c_asleep c_lockup c_counts c_counter c_reload c_current c_memory c_reg c_kept c_pending c_active c_priorities) sz ([.ref h, .int x1, .int x2] : List Value) none) (QcRead (bI (f_ThumbCoreModel_allThere q_size x1 x2))) 0 0 (fun _ => False) := by
  refine tc_rd_z (by decide) (Nat.le_of_ble_eq_true rfl) ?_
  intro p e s m below meth c Q ls hx hb hml hts hown hK hN hP hD hl RET
  have hl : lv_has ls 5 [(0, .ref h), (1, .int x1), (2, .int x2)] := hl
  generalize hF : f_ThumbCoreModel_allThere q_size x1 x2 = FF at RET
  have J_5 : ∀ n : Nat, ∀ (ls : Array Slot) (y1 : Int32) (y2 : Int32) (y3 : Bool) (y4 : Int32), lv_has ls 5 [(0, .ref h), (1, .int y1), (2, .int y2), (3, .int (bI y3)), (4, .int y4)] → FF = k_ThumbCoreModel_allThere_5 q_size n y1 y2 y3 y4 → (tc_lp y4 (Int32.toInt y2).toNat n) → W p l e rm_ThumbCoreModel_allThere s m ([.ref h, .int x1, .int x2] : List Value).toArray below meth c s.heap [] 0 0 Q (F0 m 5 ls []) := by
    intro n
    induction n with
    | zero =>
      intro ls y1 y2 y3 y4 hl hq hinv
      exact (tc_lp0 hinv).elim
    | succ n_5 IH_5 =>
      have J_34 : ∀ (ls : Array Slot) (y1 : Int32) (y2 : Int32) (y4 : Int32) (z0 : Bool), lv_has ls 5 [(0, .ref h), (1, .int y1), (2, .int y2), (4, .int y4)] → FF = k_ThumbCoreModel_allThere_34 q_size (k_ThumbCoreModel_allThere_5 q_size n_5) y1 y2 y4 z0 → (tc_lp y4 (Int32.toInt y2).toNat (n_5 + 1)) → (y4.toInt < ((Int32.toInt y2).toNat : Nat)) → W p l e rm_ThumbCoreModel_allThere s m ([.ref h, .int x1, .int x2] : List Value).toArray below meth c s.heap [] 0 0 Q (F0 m 34 ls [.int (bI z0)]) := by
        intro ls y1 y2 y4 z0 hl hq hinv hgd
        refine lv_istore_n (lv' := [(3, .int (bI z0)), (0, .ref h), (1, .int y1), (2, .int y2), (4, .int y4)]) hx hb d_ThumbCoreModel_allThere_34 rfl hl (by decide) rfl (fun ls hl => ?_)
        refine lv_iinc (k := 4) (v := (y4 + 1)) (lv' := [(4, .int (y4 + 1)), (3, .int (bI z0)), (0, .ref h), (1, .int y1), (2, .int y2)]) hx hb d_ThumbCoreModel_allThere_35 hl rfl rfl (by decide) rfl (fun ls hl => ?_)
        refine lv_goto (tgt := 5) hx hb d_ThumbCoreModel_allThere_38 (by decide) ?_
        exact IH_5 ls y1 y2 z0 (y4 + 1) (lv_sub hl [2, 3, 4, 1, 0] rfl) hq (tc_lpS hinv hgd (tc_tn _))
      have J_33 : ∀ (ls : Array Slot) (y1 : Int32) (y2 : Int32) (y4 : Int32), lv_has ls 5 [(0, .ref h), (1, .int y1), (2, .int y2), (4, .int y4)] → FF = k_ThumbCoreModel_allThere_33 q_size (k_ThumbCoreModel_allThere_5 q_size n_5) y1 y2 y4 → (tc_lp y4 (Int32.toInt y2).toNat (n_5 + 1)) → (y4.toInt < ((Int32.toInt y2).toNat : Nat)) → W p l e rm_ThumbCoreModel_allThere s m ([.ref h, .int x1, .int x2] : List Value).toArray below meth c s.heap [] 0 0 Q (F0 m 33 ls []) := by
        intro ls y1 y2 y4 hl hq hinv hgd
        refine lv_iconst (v := 0) hx hb d_ThumbCoreModel_allThere_33 (by decide) ?_
        exact J_34 ls y1 y2 y4 false (lv_sub hl [0, 1, 2, 3] rfl) hq (by assumption) (by assumption)
      intro ls y1 y2 y3 y4 hl hq hinv
      refine lv_iload hx hb d_ThumbCoreModel_allThere_5 (lv_at hl 4 rfl) ?_
      refine lv_iload_n hx hb d_ThumbCoreModel_allThere_7 rfl (lv_at hl 2 rfl) ?_
      refine lv_icmp_ge (tgt := 41) hx hb d_ThumbCoreModel_allThere_8 (by decide) (fun g_8 => ?_) (fun g_8 => ?_)
      · have hq := hq.trans (if_pos g_8)
        refine lv_iload_n hx hb d_ThumbCoreModel_allThere_41 rfl (lv_at hl 3 rfl) ?_
        exact RET ls 42 d_ThumbCoreModel_allThere_42 hq
      · have hq := hq.trans (if_neg g_8)
        have hgd := tc_ggl hinv g_8
        refine lv_iload_n hx hb d_ThumbCoreModel_allThere_11 rfl (lv_at hl 3 rfl) ?_
        refine lv_if_eq (tgt := 33) hx hb d_ThumbCoreModel_allThere_12 (by decide) (fun g_12 => ?_) (fun g_12 => ?_)
        · have hq := hq.trans (if_pos g_12)
          exact J_33 ls y1 y2 y4 (lv_sub hl [0, 1, 2, 4] rfl) hq (by assumption) (by assumption)
        · have hq := hq.trans (if_neg g_12)
          refine lv_aload_n hx hb d_ThumbCoreModel_allThere_15 rfl (lv_at hl 0 rfl) ?_
          refine lv_iload_n hx hb d_ThumbCoreModel_allThere_16 rfl (lv_at hl 1 rfl) ?_
          refine lv_iconst (v := 4) hx hb d_ThumbCoreModel_allThere_17 (by decide) ?_
          refine lv_iload hx hb d_ThumbCoreModel_allThere_18 (lv_at hl 4 rfl) ?_
          refine lv_imul hx hb d_ThumbCoreModel_allThere_20 ?_
          refine lv_iadd hx hb d_ThumbCoreModel_allThere_21 ?_
          refine lv_iconst (v := 4) hx hb d_ThumbCoreModel_allThere_22 (by decide) ?_
          refine tc_rd (va_runV (As := [.int (y1 + (4 * y4)), .int 4]) (rest := []) ⟨hx, hb, hml, hown, hts⟩ (c_ThumbCoreModel_there l D cI cB cZ h h_memory h_reg h_kept h_pending h_active h_priorities s.heap.size q_size c_n c_z c_c c_v c_keptFlags c_bad c_h c_after c_entered c_mask c_asleep c_lockup c_counts c_counter c_reload c_current c_memory c_reg c_kept c_pending c_active c_priorities (y1 + (4 * y4)) 4 (by decide)) (cwV 2 hts (tc_gV wl_ThumbCoreModel_37 wm_ThumbCoreModel_there ws_ThumbCoreModel_there wi_ThumbCoreModel wc_ThumbCoreModel_there) rfl rfl rfl (by decide +kernel) ⟨Nat.le_of_ble_eq_true rfl, Nat.le_of_ble_eq_true rfl⟩) (tc_preV hK hN hP hD [0, 1, 2, 3, 4, 5, 6] rfl (by decide) (q0 := 0) rfl rfl) rfl rfl hl.1 rfl (lv_room (Nat.le_of_ble_eq_true rfl)) d_ThumbCoreModel_allThere_23 (by decide)) ?_
          refine tc_topb (fun v1 e_v1 => ?_)
          have hq := tc_nm hq e_v1
          refine lv_if_eq (tgt := 33) hx hb d_ThumbCoreModel_allThere_26 (by decide) (fun g_26 => ?_) (fun g_26 => ?_)
          · have hq := hq.trans (if_pos g_26)
            exact J_33 ls y1 y2 y4 (lv_sub hl [0, 1, 2, 4] rfl) hq (by assumption) (by assumption)
          · have hq := hq.trans (if_neg g_26)
            refine lv_iconst (v := 1) hx hb d_ThumbCoreModel_allThere_29 (by decide) ?_
            refine lv_goto (tgt := 34) hx hb d_ThumbCoreModel_allThere_30 (by decide) ?_
            exact J_34 ls y1 y2 y4 true (lv_sub hl [0, 1, 2, 4] rfl) hq (by assumption) (by assumption)
  have hq : FF = f_ThumbCoreModel_allThere q_size x1 x2 := hF.symm
  refine lv_iconst (v := 1) hx hb d_ThumbCoreModel_allThere_0 (by decide) ?_
  refine lv_istore_n (lv' := [(3, .int 1), (0, .ref h), (1, .int x1), (2, .int x2)]) hx hb d_ThumbCoreModel_allThere_1 rfl hl (by decide) rfl (fun ls hl => ?_)
  refine lv_iconst (v := 0) hx hb d_ThumbCoreModel_allThere_2 (by decide) ?_
  refine lv_istore (lv' := [(4, .int 0), (3, .int 1), (0, .ref h), (1, .int x1), (2, .int x2)]) hx hb d_ThumbCoreModel_allThere_3 hl (by decide) rfl (fun ls hl => ?_)
  exact J_5 ((Int32.toInt x2).toNat.succ) ls x1 x2 true 0 (lv_sub hl [2, 3, 4, 1, 0] rfl) hq (tc_lpE _)
abbrev rm_ThumbCoreModel_push : Room := { frames := 3, cells := 0, slots := 0, locals := 70 }
set_option maxHeartbeats 4000000 in
set_option maxRecDepth 100000 in
theorem c_ThumbCoreModel_push (l : Launch) (D : va_G) (cI cB cZ : ClassId) (h h_memory h_reg h_kept h_pending h_active h_priorities sz : Nat) (q_size : Int32) (c_n : Bool) (c_z : Bool) (c_c : Bool) (c_v : Bool) (c_keptFlags : Int32) (c_bad : Bool) (c_h : Int32) (c_after : Int32) (c_entered : Bool) (c_mask : Bool) (c_asleep : Bool) (c_lockup : Bool) (c_counts : Bool) (c_counter : Int32) (c_reload : Int32) (c_current : Int32) (c_memory : Nat → Int32) (c_reg : Nat → Int32) (c_kept : Nat → Int32) (c_pending : Nat → Bool) (c_active : Nat → Bool) (c_priorities : Nat → Int32) (hm : tc_memR q_size) : Met l y_ThumbCoreModel_push (.code y_ThumbCoreModel_push b_ThumbCoreModel_push 6 none :: tcb) rm_ThumbCoreModel_push (tc_Pw D tcl (tys cI cB cZ) (wd_ThumbCoreModel cI cB cZ h h_memory h_reg h_kept h_pending h_active h_priorities q_size c_n c_z c_c c_v c_keptFlags c_bad c_h c_after c_entered c_mask c_asleep c_lockup c_counts c_counter c_reload c_current c_memory c_reg c_kept c_pending c_active c_priorities) sz ([.ref h] : List Value) none) (tc_Qv D tcl (wd_ThumbCoreModel cI cB cZ h h_memory h_reg h_kept h_pending h_active h_priorities q_size c_n c_z c_c c_v c_keptFlags c_bad c_h c_after c_entered c_mask c_asleep c_lockup c_counts c_counter c_reload c_current c_memory c_reg c_kept c_pending c_active c_priorities) sz (fun u => (wd_ThumbCoreModel cI cB cZ h h_memory h_reg h_kept h_pending h_active h_priorities q_size c_n c_z c_c c_v c_keptFlags u.1 c_h c_after c_entered c_mask c_asleep c_lockup c_counts c_counter c_reload c_current u.2.1 u.2.2 c_kept c_pending c_active c_priorities)) (f_ThumbCoreModel_push q_size c_h c_bad c_memory c_reg)) 0 0 (va_A (wd_ThumbCoreModel cI cB cZ h h_memory h_reg h_kept h_pending h_active h_priorities q_size c_n c_z c_c c_v c_keptFlags c_bad c_h c_after c_entered c_mask c_asleep c_lockup c_counts c_counter c_reload c_current c_memory c_reg c_kept c_pending c_active c_priorities) sz) := by
  refine tc_mu_v (by decide) (Nat.le_of_ble_eq_true rfl) ?_
  intro p e s m below meth c A Q ls hx hb hml hts hown hK hN hP hD hA hZ hl RET
  have hS : va_S A s.heap s.heap [] := va_S.rf
  have hl : lv_has ls 6 [(0, .ref h)] := hl
  generalize hF : f_ThumbCoreModel_push q_size c_h c_bad c_memory c_reg = FF at RET
  have J_119 : ∀ (H : Heap) (locs : List Loc) (ls : Array Slot) (c_bad : Bool) (c_memory : Nat → Int32) (c_reg : Nat → Int32) (y3 : Int32), va_P D tcl (wd_ThumbCoreModel cI cB cZ h h_memory h_reg h_kept h_pending h_active h_priorities q_size c_n c_z c_c c_v c_keptFlags c_bad c_h c_after c_entered c_mask c_asleep c_lockup c_counts c_counter c_reload c_current c_memory c_reg c_kept c_pending c_active c_priorities) H → va_D A (wd_ThumbCoreModel cI cB cZ h h_memory h_reg h_kept h_pending h_active h_priorities q_size c_n c_z c_c c_v c_keptFlags c_bad c_h c_after c_entered c_mask c_asleep c_lockup c_counts c_counter c_reload c_current c_memory c_reg c_kept c_pending c_active c_priorities) → va_S A s.heap H locs → lv_has ls 6 [(0, .ref h), (3, .int y3)] → FF = k_ThumbCoreModel_push_119 q_size c_h c_bad c_memory c_reg y3 → W p l e rm_ThumbCoreModel_push s m ([.ref h] : List Value).toArray below meth c H locs 0 0 Q (F0 m 119 ls []) := by
    intro H locs ls c_bad c_memory c_reg y3 hP hD hS hl hq
    refine lv_aload_n hx hb d_ThumbCoreModel_push_119 rfl (lv_at hl 0 rfl) ?_
    refine va_get (D := D) (ci := 5) (v := .ref h_reg) (C := R_ThumbCoreModel) (T := F_ThumbCoreModel) (N := 23) hx hb hts u_ThumbCoreModel hown hK hP 0 rfl rfl 2 (by decide) (hts _ wf_ThumbCoreModel_13) (fun _ h9 => h9) rfl d_ThumbCoreModel_push_120 ?_
    refine lv_bipush (v := 13) hx hb d_ThumbCoreModel_push_123 (by decide) ?_
    refine lv_iload_n hx hb d_ThumbCoreModel_push_125 rfl (lv_at hl 1 rfl) ?_
    refine va_iast hx hb hK hP hD hS 2 0 rfl rfl (by show ¬ (_ ∨ _); decide) d_ThumbCoreModel_push_126 (fun H locs hP hD hS => ?_)
    have hP : va_P D tcl (wd_ThumbCoreModel cI cB cZ h h_memory h_reg h_kept h_pending h_active h_priorities q_size c_n c_z c_c c_v c_keptFlags c_bad c_h c_after c_entered c_mask c_asleep c_lockup c_counts c_counter c_reload c_current c_memory (upd c_reg (13 : Int32).toNatClampNeg y3) c_kept c_pending c_active c_priorities) H := hP
    have hD : va_D A (wd_ThumbCoreModel cI cB cZ h h_memory h_reg h_kept h_pending h_active h_priorities q_size c_n c_z c_c c_v c_keptFlags c_bad c_h c_after c_entered c_mask c_asleep c_lockup c_counts c_counter c_reload c_current c_memory (upd c_reg (13 : Int32).toNatClampNeg y3) c_kept c_pending c_active c_priorities) := hD
    exact RET H locs ls 127 (c_bad, c_memory, (upd c_reg (13 : Int32).toNatClampNeg y3)) d_ThumbCoreModel_push_127 hP hD hS hq
  have J_55 : ∀ n : Nat, ∀ (H : Heap) (locs : List Loc) (ls : Array Slot) (c_bad : Bool) (c_memory : Nat → Int32) (c_reg : Nat → Int32) (y1 : Int32) (y3 : Int32) (y4 : Int32) (y5 : Int32), va_P D tcl (wd_ThumbCoreModel cI cB cZ h h_memory h_reg h_kept h_pending h_active h_priorities q_size c_n c_z c_c c_v c_keptFlags c_bad c_h c_after c_entered c_mask c_asleep c_lockup c_counts c_counter c_reload c_current c_memory c_reg c_kept c_pending c_active c_priorities) H → va_D A (wd_ThumbCoreModel cI cB cZ h h_memory h_reg h_kept h_pending h_active h_priorities q_size c_n c_z c_c c_v c_keptFlags c_bad c_h c_after c_entered c_mask c_asleep c_lockup c_counts c_counter c_reload c_current c_memory c_reg c_kept c_pending c_active c_priorities) → va_S A s.heap H locs → lv_has ls 6 [(0, .ref h), (1, .int y1), (3, .int y3), (4, .int y4), (5, .int y5)] → FF = k_ThumbCoreModel_push_55 q_size c_h n c_bad c_memory c_reg y1 y3 y4 y5 → (tc_lp y5 9 n) → W p l e rm_ThumbCoreModel_push s m ([.ref h] : List Value).toArray below meth c H locs 0 0 Q (F0 m 55 ls []) := by
    intro n
    induction n with
    | zero =>
      intro H locs ls c_bad c_memory c_reg y1 y3 y4 y5 hP hD hS hl hq hinv
      exact (tc_lp0 hinv).elim
    | succ n_55 IH_55 =>
      have J_113 : ∀ (H : Heap) (locs : List Loc) (ls : Array Slot) (c_bad : Bool) (c_memory : Nat → Int32) (c_reg : Nat → Int32) (y1 : Int32) (y3 : Int32) (y4 : Int32) (y5 : Int32), va_P D tcl (wd_ThumbCoreModel cI cB cZ h h_memory h_reg h_kept h_pending h_active h_priorities q_size c_n c_z c_c c_v c_keptFlags c_bad c_h c_after c_entered c_mask c_asleep c_lockup c_counts c_counter c_reload c_current c_memory c_reg c_kept c_pending c_active c_priorities) H → va_D A (wd_ThumbCoreModel cI cB cZ h h_memory h_reg h_kept h_pending h_active h_priorities q_size c_n c_z c_c c_v c_keptFlags c_bad c_h c_after c_entered c_mask c_asleep c_lockup c_counts c_counter c_reload c_current c_memory c_reg c_kept c_pending c_active c_priorities) → va_S A s.heap H locs → lv_has ls 6 [(0, .ref h), (1, .int y1), (3, .int y3), (4, .int y4), (5, .int y5)] → FF = k_ThumbCoreModel_push_113 q_size c_h (k_ThumbCoreModel_push_55 q_size c_h n_55) c_bad c_memory c_reg y1 y3 y4 y5 → (tc_lp y5 9 (n_55 + 1)) → (y5.toInt < (9 : Nat)) → W p l e rm_ThumbCoreModel_push s m ([.ref h] : List Value).toArray below meth c H locs 0 0 Q (F0 m 113 ls []) := by
        intro H locs ls c_bad c_memory c_reg y1 y3 y4 y5 hP hD hS hl hq hinv hgd
        refine lv_iinc (k := 4) (v := (y5 + 1)) (lv' := [(5, .int (y5 + 1)), (0, .ref h), (1, .int y1), (3, .int y3), (4, .int y4)]) hx hb d_ThumbCoreModel_push_113 hl rfl rfl (by decide) rfl (fun ls hl => ?_)
        refine lv_goto (tgt := 55) hx hb d_ThumbCoreModel_push_116 (by decide) ?_
        exact IH_55 H locs ls c_bad c_memory c_reg y1 y3 y4 (y5 + 1) hP hD hS (lv_sub hl [1, 2, 3, 4, 0] rfl) hq (tc_lpS hinv hgd (by decide))
      have J_106 : ∀ (H : Heap) (locs : List Loc) (ls : Array Slot) (c_bad : Bool) (c_memory : Nat → Int32) (c_reg : Nat → Int32) (y1 : Int32) (y3 : Int32) (y4 : Int32) (y5 : Int32) (z1 : Int32) (z2 : Int32), va_P D tcl (wd_ThumbCoreModel cI cB cZ h h_memory h_reg h_kept h_pending h_active h_priorities q_size c_n c_z c_c c_v c_keptFlags c_bad c_h c_after c_entered c_mask c_asleep c_lockup c_counts c_counter c_reload c_current c_memory c_reg c_kept c_pending c_active c_priorities) H → va_D A (wd_ThumbCoreModel cI cB cZ h h_memory h_reg h_kept h_pending h_active h_priorities q_size c_n c_z c_c c_v c_keptFlags c_bad c_h c_after c_entered c_mask c_asleep c_lockup c_counts c_counter c_reload c_current c_memory c_reg c_kept c_pending c_active c_priorities) → va_S A s.heap H locs → lv_has ls 6 [(0, .ref h), (1, .int y1), (3, .int y3), (4, .int y4), (5, .int y5)] → FF = k_ThumbCoreModel_push_106 q_size c_h (k_ThumbCoreModel_push_55 q_size c_h n_55) c_bad c_memory c_reg y1 y3 y4 y5 z1 z2 → (tc_lp y5 9 (n_55 + 1)) → (y5.toInt < (9 : Nat)) → W p l e rm_ThumbCoreModel_push s m ([.ref h] : List Value).toArray below meth c H locs 0 0 Q (F0 m 106 ls [.int z2, .int z1, .ref h]) := by
        intro H locs ls c_bad c_memory c_reg y1 y3 y4 y5 z1 z2 hP hD hS hl hq hinv hgd
        refine lv_iconst (v := 4) hx hb d_ThumbCoreModel_push_106 (by decide) ?_
        refine tc_mv (wo := fun u => (wd_ThumbCoreModel cI cB cZ h h_memory h_reg h_kept h_pending h_active h_priorities q_size c_n c_z c_c c_v c_keptFlags u.1 c_h c_after c_entered c_mask c_asleep c_lockup c_counts c_counter c_reload c_current u.2 c_reg c_kept c_pending c_active c_priorities)) (va_runV (As := [.int z1, .int z2, .int 4]) (rest := []) ⟨hx, hb, hml, hown, hts⟩ (c_ThumbCoreModel_write l D cI cB cZ h h_memory h_reg h_kept h_pending h_active h_priorities H.size q_size c_n c_z c_c c_v c_keptFlags c_bad c_h c_after c_entered c_mask c_asleep c_lockup c_counts c_counter c_reload c_current c_memory c_reg c_kept c_pending c_active c_priorities z1 z2 4 hm (by decide)) (cwV 3 hts (tc_gV wl_ThumbCoreModel_100 wm_ThumbCoreModel_write ws_ThumbCoreModel_write wi_ThumbCoreModel wc_ThumbCoreModel_write) rfl rfl rfl (by decide +kernel) ⟨Nat.le_of_ble_eq_true rfl, Nat.le_of_ble_eq_true rfl⟩) (tc_preV hK hN hP hD [0, 1, 2, 3, 4, 5, 6] rfl (by decide) (q0 := 0) rfl rfl) rfl rfl hl.1 rfl (lv_room (Nat.le_of_ble_eq_true rfl)) d_ThumbCoreModel_push_107 (by decide)) hP hD hS hA [0, 1, 2, 3, 4, 5, 6] [] [0, 1, 2, 3, 4, 5, 6] rfl rfl (by decide) (by decide) (by decide) (fun _ => rfl) (fun u H locs hu hP hD hS => ?_)
        obtain ⟨s1, s2⟩ := u
        have hq := hq.trans (un2_eq hu _)
        have e_s1 := hu
        have hP : va_P D tcl (wd_ThumbCoreModel cI cB cZ h h_memory h_reg h_kept h_pending h_active h_priorities q_size c_n c_z c_c c_v c_keptFlags s1 c_h c_after c_entered c_mask c_asleep c_lockup c_counts c_counter c_reload c_current s2 c_reg c_kept c_pending c_active c_priorities) H := hP
        have hD : va_D A (wd_ThumbCoreModel cI cB cZ h h_memory h_reg h_kept h_pending h_active h_priorities q_size c_n c_z c_c c_v c_keptFlags s1 c_h c_after c_entered c_mask c_asleep c_lockup c_counts c_counter c_reload c_current s2 c_reg c_kept c_pending c_active c_priorities) := hD
        refine lv_iinc (k := 3) (v := (y4 + 4)) (lv' := [(4, .int (y4 + 4)), (0, .ref h), (1, .int y1), (3, .int y3), (5, .int y5)]) hx hb d_ThumbCoreModel_push_110 hl rfl rfl (by decide) rfl (fun ls hl => ?_)
        exact J_113 H locs ls s1 s2 c_reg y1 y3 (y4 + 4) y5 hP hD hS (lv_sub hl [1, 2, 3, 0, 4] rfl) hq (by assumption) (by assumption)
      intro H locs ls c_bad c_memory c_reg y1 y3 y4 y5 hP hD hS hl hq hinv
      refine lv_iload hx hb d_ThumbCoreModel_push_55 (lv_at hl 4 rfl) ?_
      refine lv_bipush (v := 9) hx hb d_ThumbCoreModel_push_57 (by decide) ?_
      refine lv_icmp_ge (tgt := 119) hx hb d_ThumbCoreModel_push_59 (by decide) (fun g_59 => ?_) (fun g_59 => ?_)
      · have hq := hq.trans (if_pos g_59)
        exact J_119 H locs ls c_bad c_memory c_reg y3 hP hD hS (lv_sub hl [0, 2] rfl) hq
      · have hq := hq.trans (if_neg g_59)
        have hgd : y5.toInt < ((9 : Nat) : Int) := tc_gge g_59 (by decide)
        refine lv_aload_n hx hb d_ThumbCoreModel_push_62 rfl (lv_at hl 0 rfl) ?_
        refine va_get (D := D) (ci := 5) (v := .int (bI c_bad)) (C := R_ThumbCoreModel) (T := F_ThumbCoreModel) (N := 23) hx hb hts u_ThumbCoreModel hown hK hP 0 rfl rfl 9 (by decide) (hts _ wf_ThumbCoreModel_41) (fun _ h9 => h9) rfl d_ThumbCoreModel_push_63 ?_
        refine lv_if_ne (tgt := 119) hx hb d_ThumbCoreModel_push_66 (by decide) (fun g_66 => ?_) (fun g_66 => ?_)
        · have hq := hq.trans (if_pos g_66)
          exact J_119 H locs ls c_bad c_memory c_reg y3 hP hD hS (lv_sub hl [0, 2] rfl) hq
        · have hq := hq.trans (if_neg (fun g => g g_66))
          refine lv_iload_n hx hb d_ThumbCoreModel_push_69 rfl (lv_at hl 1 rfl) ?_
          refine lv_iload hx hb d_ThumbCoreModel_push_70 (lv_at hl 4 rfl) ?_
          refine lv_ishr hx hb d_ThumbCoreModel_push_72 ?_
          refine lv_iconst (v := 1) hx hb d_ThumbCoreModel_push_73 (by decide) ?_
          refine lv_iand hx hb d_ThumbCoreModel_push_74 ?_
          refine lv_iconst (v := 1) hx hb d_ThumbCoreModel_push_75 (by decide) ?_
          refine lv_icmp_ne (tgt := 113) hx hb d_ThumbCoreModel_push_76 (by decide) (fun g_76 => ?_) (fun g_76 => ?_)
          · have hq := hq.trans (if_pos g_76)
            exact J_113 H locs ls c_bad c_memory c_reg y1 y3 y4 y5 hP hD hS (lv_sub hl [0, 1, 2, 3, 4] rfl) hq (by assumption) (by assumption)
          · have hq := hq.trans (if_neg (fun g => g g_76))
            refine lv_aload_n hx hb d_ThumbCoreModel_push_79 rfl (lv_at hl 0 rfl) ?_
            refine lv_iload hx hb d_ThumbCoreModel_push_80 (lv_at hl 3 rfl) ?_
            refine lv_iload hx hb d_ThumbCoreModel_push_82 (lv_at hl 4 rfl) ?_
            refine lv_bipush (v := 8) hx hb d_ThumbCoreModel_push_84 (by decide) ?_
            refine lv_icmp_ne (tgt := 99) hx hb d_ThumbCoreModel_push_86 (by decide) (fun g_86 => ?_) (fun g_86 => ?_)
            · have hq := hq.trans (if_pos g_86)
              refine lv_aload_n hx hb d_ThumbCoreModel_push_99 rfl (lv_at hl 0 rfl) ?_
              refine va_get (D := D) (ci := 5) (v := .ref h_reg) (C := R_ThumbCoreModel) (T := F_ThumbCoreModel) (N := 23) hx hb hts u_ThumbCoreModel hown hK hP 0 rfl rfl 2 (by decide) (hts _ wf_ThumbCoreModel_13) (fun _ h9 => h9) rfl d_ThumbCoreModel_push_100 ?_
              refine lv_iload hx hb d_ThumbCoreModel_push_103 (lv_at hl 4 rfl) ?_
              refine va_iald hx hb hK hP 2 0 rfl rfl (tc_lpI hinv hgd (by decide)) d_ThumbCoreModel_push_105 ?_
              exact J_106 H locs ls c_bad c_memory c_reg y1 y3 y4 y5 y4 (c_reg y5.toNatClampNeg) hP hD hS (lv_sub hl [0, 1, 2, 3, 4] rfl) hq (by assumption) (by assumption)
            · have hq := hq.trans (if_neg (fun g => g g_86))
              refine lv_aload_n hx hb d_ThumbCoreModel_push_89 rfl (lv_at hl 0 rfl) ?_
              refine va_get (D := D) (ci := 5) (v := .ref h_reg) (C := R_ThumbCoreModel) (T := F_ThumbCoreModel) (N := 23) hx hb hts u_ThumbCoreModel hown hK hP 0 rfl rfl 2 (by decide) (hts _ wf_ThumbCoreModel_13) (fun _ h9 => h9) rfl d_ThumbCoreModel_push_90 ?_
              refine lv_bipush (v := 14) hx hb d_ThumbCoreModel_push_93 (by decide) ?_
              refine va_iald hx hb hK hP 2 0 rfl rfl (by show ¬ (_ ∨ _); decide) d_ThumbCoreModel_push_95 ?_
              refine lv_goto (tgt := 106) hx hb d_ThumbCoreModel_push_96 (by decide) ?_
              exact J_106 H locs ls c_bad c_memory c_reg y1 y3 y4 y5 y4 (c_reg (14 : Int32).toNatClampNeg) hP hD hS (lv_sub hl [0, 1, 2, 3, 4] rfl) hq (by assumption) (by assumption)
  have J_46 : ∀ (H : Heap) (locs : List Loc) (ls : Array Slot) (c_bad : Bool) (c_memory : Nat → Int32) (c_reg : Nat → Int32) (y1 : Int32) (y3 : Int32) (z1 : Bool), va_P D tcl (wd_ThumbCoreModel cI cB cZ h h_memory h_reg h_kept h_pending h_active h_priorities q_size c_n c_z c_c c_v c_keptFlags c_bad c_h c_after c_entered c_mask c_asleep c_lockup c_counts c_counter c_reload c_current c_memory c_reg c_kept c_pending c_active c_priorities) H → va_D A (wd_ThumbCoreModel cI cB cZ h h_memory h_reg h_kept h_pending h_active h_priorities q_size c_n c_z c_c c_v c_keptFlags c_bad c_h c_after c_entered c_mask c_asleep c_lockup c_counts c_counter c_reload c_current c_memory c_reg c_kept c_pending c_active c_priorities) → va_S A s.heap H locs → lv_has ls 6 [(0, .ref h), (1, .int y1), (3, .int y3)] → FF = k_ThumbCoreModel_push_46 q_size c_h c_bad c_memory c_reg y1 y3 z1 → W p l e rm_ThumbCoreModel_push s m ([.ref h] : List Value).toArray below meth c H locs 0 0 Q (F0 m 46 ls [.int (bI z1), .ref h]) := by
    intro H locs ls c_bad c_memory c_reg y1 y3 z1 hP hD hS hl hq
    refine va_put (D := D) (ci := 5) (v := .int (bI z1)) (ty := .boolean) (C := R_ThumbCoreModel) (T := F_ThumbCoreModel) (N := 23) hx hb hts u_ThumbCoreModel t_ThumbCoreModel t_ThumbCoreModel_ok n_ThumbCoreModel hown hK hP hD hS 0 rfl rfl 9 (by decide) (hts _ wf_ThumbCoreModel_41) (fun _ h9 => h9) rfl (by decide +kernel) (tc_nb z1) (tc_fb z1) (Nat.le_of_ble_eq_true rfl) d_ThumbCoreModel_push_46 (fun H locs hP hD hS => ?_)
    have hP : va_P D tcl (wd_ThumbCoreModel cI cB cZ h h_memory h_reg h_kept h_pending h_active h_priorities q_size c_n c_z c_c c_v c_keptFlags z1 c_h c_after c_entered c_mask c_asleep c_lockup c_counts c_counter c_reload c_current c_memory c_reg c_kept c_pending c_active c_priorities) H := hP
    have hD : va_D A (wd_ThumbCoreModel cI cB cZ h h_memory h_reg h_kept h_pending h_active h_priorities q_size c_n c_z c_c c_v c_keptFlags z1 c_h c_after c_entered c_mask c_asleep c_lockup c_counts c_counter c_reload c_current c_memory c_reg c_kept c_pending c_active c_priorities) := hD
    refine lv_iload_n hx hb d_ThumbCoreModel_push_49 rfl (lv_at hl 2 rfl) ?_
    refine lv_istore (lv' := [(4, .int y3), (0, .ref h), (1, .int y1), (3, .int y3)]) hx hb d_ThumbCoreModel_push_50 hl (by decide) rfl (fun ls hl => ?_)
    refine lv_iconst (v := 0) hx hb d_ThumbCoreModel_push_52 (by decide) ?_
    refine lv_istore (lv' := [(5, .int 0), (4, .int y3), (0, .ref h), (1, .int y1), (3, .int y3)]) hx hb d_ThumbCoreModel_push_53 hl (by decide) rfl (fun ls hl => ?_)
    exact J_55 (10) H locs ls z1 c_memory c_reg y1 y3 y3 0 hP hD hS (lv_sub hl [2, 3, 4, 1, 0] rfl) hq (tc_lpE _)
  have J_41 : ∀ (H : Heap) (locs : List Loc) (ls : Array Slot) (c_bad : Bool) (c_memory : Nat → Int32) (c_reg : Nat → Int32) (y1 : Int32) (y3 : Int32), va_P D tcl (wd_ThumbCoreModel cI cB cZ h h_memory h_reg h_kept h_pending h_active h_priorities q_size c_n c_z c_c c_v c_keptFlags c_bad c_h c_after c_entered c_mask c_asleep c_lockup c_counts c_counter c_reload c_current c_memory c_reg c_kept c_pending c_active c_priorities) H → va_D A (wd_ThumbCoreModel cI cB cZ h h_memory h_reg h_kept h_pending h_active h_priorities q_size c_n c_z c_c c_v c_keptFlags c_bad c_h c_after c_entered c_mask c_asleep c_lockup c_counts c_counter c_reload c_current c_memory c_reg c_kept c_pending c_active c_priorities) → va_S A s.heap H locs → lv_has ls 6 [(0, .ref h), (1, .int y1), (3, .int y3)] → FF = k_ThumbCoreModel_push_41 q_size c_h c_bad c_memory c_reg y1 y3 → W p l e rm_ThumbCoreModel_push s m ([.ref h] : List Value).toArray below meth c H locs 0 0 Q (F0 m 41 ls [.ref h]) := by
    intro H locs ls c_bad c_memory c_reg y1 y3 hP hD hS hl hq
    refine lv_iconst (v := 1) hx hb d_ThumbCoreModel_push_41 (by decide) ?_
    refine lv_goto (tgt := 46) hx hb d_ThumbCoreModel_push_42 (by decide) ?_
    exact J_46 H locs ls c_bad c_memory c_reg y1 y3 true hP hD hS (lv_sub hl [0, 1, 2] rfl) hq
  have hq : FF = f_ThumbCoreModel_push q_size c_h c_bad c_memory c_reg := hF.symm
  revert hP hD hS
  suffices G : ∀ (H : Heap) (locs : List Loc), va_P D tcl (wd_ThumbCoreModel cI cB cZ h h_memory h_reg h_kept h_pending h_active h_priorities q_size c_n c_z c_c c_v c_keptFlags c_bad c_h c_after c_entered c_mask c_asleep c_lockup c_counts c_counter c_reload c_current c_memory c_reg c_kept c_pending c_active c_priorities) H → va_D A (wd_ThumbCoreModel cI cB cZ h h_memory h_reg h_kept h_pending h_active h_priorities q_size c_n c_z c_c c_v c_keptFlags c_bad c_h c_after c_entered c_mask c_asleep c_lockup c_counts c_counter c_reload c_current c_memory c_reg c_kept c_pending c_active c_priorities) → va_S A s.heap H locs → W p l e rm_ThumbCoreModel_push s m ([.ref h] : List Value).toArray below meth c H locs 0 0 Q (F0 m 0 ls []) from fun hP hD hS => G _ _ hP hD hS
  intro H locs hP hD hS
  refine lv_aload_n hx hb d_ThumbCoreModel_push_0 rfl (lv_at hl 0 rfl) ?_
  refine va_get (D := D) (ci := 5) (v := .int c_h) (C := R_ThumbCoreModel) (T := F_ThumbCoreModel) (N := 23) hx hb hts u_ThumbCoreModel hown hK hP 0 rfl rfl 10 (by decide) (hts _ wf_ThumbCoreModel_125) (fun _ h9 => h9) rfl d_ThumbCoreModel_push_1 ?_
  refine lv_sipush (v := 511) hx hb d_ThumbCoreModel_push_4 (by decide) ?_
  refine lv_iand hx hb d_ThumbCoreModel_push_7 ?_
  refine lv_topi (fun v1 e_v1 => ?_)
  have hq := tc_nm hq e_v1
  refine lv_istore_n (lv' := [(1, .int v1), (0, .ref h)]) hx hb d_ThumbCoreModel_push_8 rfl hl (by decide) rfl (fun ls hl => ?_)
  refine lv_aload_n hx hb d_ThumbCoreModel_push_9 rfl (lv_at hl 1 rfl) ?_
  refine lv_iload_n hx hb d_ThumbCoreModel_push_10 rfl (lv_at hl 0 rfl) ?_
  refine tc_rd (va_runV (As := [.int v1]) (rest := []) ⟨hx, hb, hml, hown, hts⟩ (c_ThumbCoreModel_listed l D cI cB cZ h h_memory h_reg h_kept h_pending h_active h_priorities H.size q_size c_n c_z c_c c_v c_keptFlags c_bad c_h c_after c_entered c_mask c_asleep c_lockup c_counts c_counter c_reload c_current c_memory c_reg c_kept c_pending c_active c_priorities v1) (cwV 1 hts (tc_gV wl_ThumbCoreModel_144 wm_ThumbCoreModel_listed ws_ThumbCoreModel_listed wi_ThumbCoreModel wc_ThumbCoreModel_listed) rfl rfl rfl (by decide +kernel) ⟨Nat.le_of_ble_eq_true rfl, Nat.le_of_ble_eq_true rfl⟩) (tc_preV hK hN hP hD [0, 1, 2, 3, 4, 5, 6] rfl (by decide) (q0 := 0) rfl rfl) rfl rfl hl.1 rfl (lv_room (Nat.le_of_ble_eq_true rfl)) d_ThumbCoreModel_push_11 (by decide)) ?_
  refine lv_topi (fun v2 e_v2 => ?_)
  have hq := tc_nm hq e_v2
  refine lv_istore_n (lv' := [(2, .int v2), (1, .int v1), (0, .ref h)]) hx hb d_ThumbCoreModel_push_14 rfl hl (by decide) rfl (fun ls hl => ?_)
  refine lv_aload_n hx hb d_ThumbCoreModel_push_15 rfl (lv_at hl 2 rfl) ?_
  refine va_get (D := D) (ci := 5) (v := .ref h_reg) (C := R_ThumbCoreModel) (T := F_ThumbCoreModel) (N := 23) hx hb hts u_ThumbCoreModel hown hK hP 0 rfl rfl 2 (by decide) (hts _ wf_ThumbCoreModel_13) (fun _ h9 => h9) rfl d_ThumbCoreModel_push_16 ?_
  refine lv_bipush (v := 13) hx hb d_ThumbCoreModel_push_19 (by decide) ?_
  refine va_iald hx hb hK hP 2 0 rfl rfl (by show ¬ (_ ∨ _); decide) d_ThumbCoreModel_push_21 ?_
  refine lv_iconst (v := 4) hx hb d_ThumbCoreModel_push_22 (by decide) ?_
  refine lv_iload_n hx hb d_ThumbCoreModel_push_23 rfl (lv_at hl 0 rfl) ?_
  refine lv_imul hx hb d_ThumbCoreModel_push_24 ?_
  refine lv_isub hx hb d_ThumbCoreModel_push_25 ?_
  refine lv_topi (fun v3 e_v3 => ?_)
  have hq := tc_nm hq e_v3
  refine lv_istore_n (lv' := [(3, .int v3), (2, .int v2), (1, .int v1), (0, .ref h)]) hx hb d_ThumbCoreModel_push_26 rfl hl (by decide) rfl (fun ls hl => ?_)
  refine lv_aload_n hx hb d_ThumbCoreModel_push_27 rfl (lv_at hl 3 rfl) ?_
  refine lv_iload_n hx hb d_ThumbCoreModel_push_28 rfl (lv_at hl 1 rfl) ?_
  refine lv_if_eq (tgt := 41) hx hb d_ThumbCoreModel_push_29 (by decide) (fun g_29 => ?_) (fun g_29 => ?_)
  · have hq := hq.trans (if_pos g_29)
    exact J_41 H locs ls c_bad c_memory c_reg v1 v3 hP hD hS (lv_sub hl [3, 2, 0] rfl) hq
  · have hq := hq.trans (if_neg g_29)
    refine lv_aload_n hx hb d_ThumbCoreModel_push_32 rfl (lv_at hl 3 rfl) ?_
    refine lv_iload_n hx hb d_ThumbCoreModel_push_33 rfl (lv_at hl 0 rfl) ?_
    refine lv_iload_n hx hb d_ThumbCoreModel_push_34 rfl (lv_at hl 1 rfl) ?_
    refine tc_rd (va_runV (As := [.int v3, .int v2]) (rest := [.ref h]) ⟨hx, hb, hml, hown, hts⟩ (c_ThumbCoreModel_allThere l D cI cB cZ h h_memory h_reg h_kept h_pending h_active h_priorities H.size q_size c_n c_z c_c c_v c_keptFlags c_bad c_h c_after c_entered c_mask c_asleep c_lockup c_counts c_counter c_reload c_current c_memory c_reg c_kept c_pending c_active c_priorities v3 v2) (cwV 2 hts (tc_gV wl_ThumbCoreModel_147 wm_ThumbCoreModel_allThere ws_ThumbCoreModel_allThere wi_ThumbCoreModel wc_ThumbCoreModel_allThere) rfl rfl rfl (by decide +kernel) ⟨Nat.le_of_ble_eq_true rfl, Nat.le_of_ble_eq_true rfl⟩) (tc_preV hK hN hP hD [0, 1, 2, 3, 4, 5, 6] rfl (by decide) (q0 := 0) rfl rfl) rfl rfl hl.1 rfl (lv_room (Nat.le_of_ble_eq_true rfl)) d_ThumbCoreModel_push_35 (by decide)) ?_
    refine tc_topb (fun v4 e_v4 => ?_)
    have hq := tc_nm hq e_v4
    refine lv_if_ne (tgt := 45) hx hb d_ThumbCoreModel_push_38 (by decide) (fun g_38 => ?_) (fun g_38 => ?_)
    · have hq := hq.trans (if_pos g_38)
      refine lv_iconst (v := 0) hx hb d_ThumbCoreModel_push_45 (by decide) ?_
      exact J_46 H locs ls c_bad c_memory c_reg v1 v3 false hP hD hS (lv_sub hl [3, 2, 0] rfl) hq
    · have hq := hq.trans (if_neg (fun g => g g_38))
      exact J_41 H locs ls c_bad c_memory c_reg v1 v3 hP hD hS (lv_sub hl [3, 2, 0] rfl) hq

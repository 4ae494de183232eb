abbrev rm_ThumbCoreModel_pop : Room := { frames := 5, cells := 0, slots := 0, locals := 117 }
set_option maxHeartbeats 4000000 in
set_option maxRecDepth 100000 in
theorem c_ThumbCoreModel_pop (l : Launch) (D : va_G) (cI cB cZ : ClassId) (h h_memory h_reg h_kept h_pending h_active h_priorities sz : Nat) (q_size : Int32) (c_n : Bool) (c_z : Bool) (c_c : Bool) (c_v : Bool) (c_keptFlags : Int32) (c_bad : Bool) (c_h : Int32) (c_after : Int32) (c_entered : Bool) (c_mask : Bool) (c_asleep : Bool) (c_lockup : Bool) (c_counts : Bool) (c_counter : Int32) (c_reload : Int32) (c_current : Int32) (c_memory : Nat → Int32) (c_reg : Nat → Int32) (c_kept : Nat → Int32) (c_pending : Nat → Bool) (c_active : Nat → Bool) (c_priorities : Nat → Int32) (hm : tc_memR q_size) (hi_c_current : vp_in c_current 16) : Met l y_ThumbCoreModel_pop (.code y_ThumbCoreModel_pop b_ThumbCoreModel_pop 5 none :: tcb) rm_ThumbCoreModel_pop (tc_Pw D tcl (tys cI cB cZ) (wd_ThumbCoreModel cI cB cZ h h_memory h_reg h_kept h_pending h_active h_priorities q_size c_n c_z c_c c_v c_keptFlags c_bad c_h c_after c_entered c_mask c_asleep c_lockup c_counts c_counter c_reload c_current c_memory c_reg c_kept c_pending c_active c_priorities) sz ([.ref h] : List Value) none) (tc_Qv D tcl (wd_ThumbCoreModel cI cB cZ h h_memory h_reg h_kept h_pending h_active h_priorities q_size c_n c_z c_c c_v c_keptFlags c_bad c_h c_after c_entered c_mask c_asleep c_lockup c_counts c_counter c_reload c_current c_memory c_reg c_kept c_pending c_active c_priorities) sz (fun u => (wd_ThumbCoreModel cI cB cZ h h_memory h_reg h_kept h_pending h_active h_priorities q_size u.1 u.2.1 u.2.2.1 u.2.2.2.1 c_keptFlags u.2.2.2.2.1 c_h u.2.2.2.2.2.1 c_entered c_mask c_asleep c_lockup c_counts c_counter c_reload u.2.2.2.2.2.2.1 c_memory u.2.2.2.2.2.2.2.1 c_kept c_pending u.2.2.2.2.2.2.2.2 c_priorities)) (f_ThumbCoreModel_pop q_size c_h c_memory c_n c_z c_c c_v c_bad c_after c_current c_reg c_active)) 0 0 (va_A (wd_ThumbCoreModel cI cB cZ h h_memory h_reg h_kept h_pending h_active h_priorities q_size c_n c_z c_c c_v c_keptFlags c_bad c_h c_after c_entered c_mask c_asleep c_lockup c_counts c_counter c_reload c_current c_memory c_reg c_kept c_pending c_active c_priorities) sz) := by
  refine tc_mu_v (by decide) (Nat.le_of_ble_eq_true rfl) ?_
  intro p e s m below meth c A Q ls hx hb hml hts hown hK hN hP hD hA hZ hl RET
  have hS : va_S A s.heap s.heap [] := va_S.rf
  have hl : lv_has ls 5 [(0, .ref h)] := hl
  generalize hF : f_ThumbCoreModel_pop q_size c_h c_memory c_n c_z c_c c_v c_bad c_after c_current c_reg c_active = FF at RET
  have J_135 : ∀ (H : Heap) (locs : List Loc) (ls : Array Slot) (c_n : Bool) (c_z : Bool) (c_c : Bool) (c_v : Bool) (c_bad : Bool) (c_after : Int32) (c_current : Int32) (c_reg : Nat → Int32) (c_active : Nat → Bool) (y3 : Int32), va_P D tcl (wd_ThumbCoreModel cI cB cZ h h_memory h_reg h_kept h_pending h_active h_priorities q_size c_n c_z c_c c_v c_keptFlags c_bad c_h c_after c_entered c_mask c_asleep c_lockup c_counts c_counter c_reload c_current c_memory c_reg c_kept c_pending c_active c_priorities) H → va_D A (wd_ThumbCoreModel cI cB cZ h h_memory h_reg h_kept h_pending h_active h_priorities q_size c_n c_z c_c c_v c_keptFlags c_bad c_h c_after c_entered c_mask c_asleep c_lockup c_counts c_counter c_reload c_current c_memory c_reg c_kept c_pending c_active c_priorities) → va_S A s.heap H locs → lv_has ls 5 [(0, .ref h), (3, .int y3)] → FF = k_ThumbCoreModel_pop_135 q_size c_h c_memory c_n c_z c_c c_v c_bad c_after c_current c_reg c_active y3 → W p l e rm_ThumbCoreModel_pop s m ([.ref h] : List Value).toArray below meth c H locs 0 0 Q (F0 m 135 ls []) := by
    intro H locs ls c_n c_z c_c c_v c_bad c_after c_current c_reg c_active y3 hP hD hS hl hq
    refine lv_aload_n hx hb d_ThumbCoreModel_pop_135 rfl (lv_at hl 0 rfl) ?_
    refine va_get (D := D) (ci := 5) (v := .ref h_reg) (C := R_ThumbCoreModel) (T := F_ThumbCoreModel) (N := 23) hx hb hts u_ThumbCoreModel hown hK hP 0 rfl rfl 2 (by decide) (hts _ wf_ThumbCoreModel_13) (fun _ h9 => h9) rfl d_ThumbCoreModel_pop_136 ?_
    refine lv_bipush (v := 13) hx hb d_ThumbCoreModel_pop_139 (by decide) ?_
    refine lv_iload_n hx hb d_ThumbCoreModel_pop_141 rfl (lv_at hl 1 rfl) ?_
    refine va_iast hx hb hK hP hD hS 2 0 rfl rfl (by show ¬ (_ ∨ _); decide) d_ThumbCoreModel_pop_142 (fun H locs hP hD hS => ?_)
    have hP : va_P D tcl (wd_ThumbCoreModel cI cB cZ h h_memory h_reg h_kept h_pending h_active h_priorities q_size c_n c_z c_c c_v c_keptFlags c_bad c_h c_after c_entered c_mask c_asleep c_lockup c_counts c_counter c_reload c_current c_memory (upd c_reg (13 : Int32).toNatClampNeg y3) c_kept c_pending c_active c_priorities) H := hP
    have hD : va_D A (wd_ThumbCoreModel cI cB cZ h h_memory h_reg h_kept h_pending h_active h_priorities q_size c_n c_z c_c c_v c_keptFlags c_bad c_h c_after c_entered c_mask c_asleep c_lockup c_counts c_counter c_reload c_current c_memory (upd c_reg (13 : Int32).toNatClampNeg y3) c_kept c_pending c_active c_priorities) := hD
    exact RET H locs ls 143 (c_n, c_z, c_c, c_v, c_bad, c_after, c_current, (upd c_reg (13 : Int32).toNatClampNeg y3), c_active) d_ThumbCoreModel_pop_143 hP hD hS hq
  have J_94 : ∀ (H : Heap) (locs : List Loc) (ls : Array Slot) (c_n : Bool) (c_z : Bool) (c_c : Bool) (c_v : Bool) (c_bad : Bool) (c_after : Int32) (c_current : Int32) (c_reg : Nat → Int32) (c_active : Nat → Bool) (y1 : Int32) (y3 : Int32), va_P D tcl (wd_ThumbCoreModel cI cB cZ h h_memory h_reg h_kept h_pending h_active h_priorities q_size c_n c_z c_c c_v c_keptFlags c_bad c_h c_after c_entered c_mask c_asleep c_lockup c_counts c_counter c_reload c_current c_memory c_reg c_kept c_pending c_active c_priorities) H → va_D A (wd_ThumbCoreModel cI cB cZ h h_memory h_reg h_kept h_pending h_active h_priorities q_size c_n c_z c_c c_v c_keptFlags c_bad c_h c_after c_entered c_mask c_asleep c_lockup c_counts c_counter c_reload c_current c_memory c_reg c_kept c_pending c_active c_priorities) → va_S A s.heap H locs → lv_has ls 5 [(0, .ref h), (1, .int y1), (3, .int y3)] → FF = k_ThumbCoreModel_pop_94 q_size c_h c_memory c_n c_z c_c c_v c_bad c_after c_current c_reg c_active y1 y3 → (vp_in c_current 16) → W p l e rm_ThumbCoreModel_pop s m ([.ref h] : List Value).toArray below meth c H locs 0 0 Q (F0 m 94 ls []) := by
    intro H locs ls c_n c_z c_c c_v c_bad c_after c_current c_reg c_active y1 y3 hP hD hS hl hq hi_c_current
    refine lv_aload_n hx hb d_ThumbCoreModel_pop_94 rfl (lv_at hl 0 rfl) ?_
    refine va_get (D := D) (ci := 5) (v := .int (bI c_bad)) (C := R_ThumbCoreModel) (T := F_ThumbCoreModel) (N := 23) hx hb hts u_ThumbCoreModel hown hK hP 0 rfl rfl 9 (by decide) (hts _ wf_ThumbCoreModel_41) (fun _ h9 => h9) rfl d_ThumbCoreModel_pop_95 ?_
    refine lv_if_ne (tgt := 135) hx hb d_ThumbCoreModel_pop_98 (by decide) (fun g_98 => ?_) (fun g_98 => ?_)
    · have hq := hq.trans (if_pos g_98)
      exact J_135 H locs ls c_n c_z c_c c_v c_bad c_after c_current c_reg c_active y3 hP hD hS (lv_sub hl [0, 2] rfl) hq
    · have hq := hq.trans (if_neg (fun g => g g_98))
      refine lv_iload_n hx hb d_ThumbCoreModel_pop_101 rfl (lv_at hl 1 rfl) ?_
      refine lv_sipush (v := 255) hx hb d_ThumbCoreModel_pop_102 (by decide) ?_
      refine lv_icmp_le (tgt := 135) hx hb d_ThumbCoreModel_pop_105 (by decide) (fun g_105 => ?_) (fun g_105 => ?_)
      · have hq := hq.trans (if_pos g_105)
        exact J_135 H locs ls c_n c_z c_c c_v c_bad c_after c_current c_reg c_active y3 hP hD hS (lv_sub hl [0, 2] rfl) hq
      · have hq := hq.trans (if_neg g_105)
        refine lv_aload_n hx hb d_ThumbCoreModel_pop_108 rfl (lv_at hl 0 rfl) ?_
        refine lv_iload_n hx hb d_ThumbCoreModel_pop_109 rfl (lv_at hl 2 rfl) ?_
        refine lv_iconst (v := 4) hx hb d_ThumbCoreModel_pop_110 (by decide) ?_
        refine tc_mi (wo := fun u => (wd_ThumbCoreModel cI cB cZ h h_memory h_reg h_kept h_pending h_active h_priorities q_size c_n c_z c_c c_v c_keptFlags u.2 c_h c_after c_entered c_mask c_asleep c_lockup c_counts c_counter c_reload c_current c_memory c_reg c_kept c_pending c_active c_priorities)) (va_runV (As := [.int y3, .int 4]) (rest := []) ⟨hx, hb, hml, hown, hts⟩ (c_ThumbCoreModel_read l D cI cB cZ h h_memory h_reg h_kept h_pending h_active h_priorities H.size q_size c_n c_z c_c c_v c_keptFlags c_bad c_h c_after c_entered c_mask c_asleep c_lockup c_counts c_counter c_reload c_current c_memory c_reg c_kept c_pending c_active c_priorities y3 4 hm (by decide)) (cwV 2 hts (tc_gV wl_ThumbCoreModel_45 wm_ThumbCoreModel_read ws_ThumbCoreModel_read wi_ThumbCoreModel wc_ThumbCoreModel_read) rfl rfl rfl (by decide +kernel) ⟨Nat.le_of_ble_eq_true rfl, Nat.le_of_ble_eq_true rfl⟩) (tc_preV hK hN hP hD [0, 1, 2, 3, 4, 5, 6] rfl (by decide) (q0 := 0) rfl rfl) rfl rfl hl.1 rfl (lv_room (Nat.le_of_ble_eq_true rfl)) d_ThumbCoreModel_pop_111 (by decide)) hP hD hS hA [0, 1, 2, 3, 4, 5, 6] [] [0, 1, 2, 3, 4, 5, 6] rfl rfl (by decide) (by decide) (by decide) (fun _ => rfl) (fun u H locs hu hP hD hS => ?_)
        obtain ⟨r1, s2⟩ := u
        have hq := hq.trans (un2_eq hu _)
        have e_r1 := hu
        have hP : va_P D tcl (wd_ThumbCoreModel cI cB cZ h h_memory h_reg h_kept h_pending h_active h_priorities q_size c_n c_z c_c c_v c_keptFlags s2 c_h c_after c_entered c_mask c_asleep c_lockup c_counts c_counter c_reload c_current c_memory c_reg c_kept c_pending c_active c_priorities) H := hP
        have hD : va_D A (wd_ThumbCoreModel cI cB cZ h h_memory h_reg h_kept h_pending h_active h_priorities q_size c_n c_z c_c c_v c_keptFlags s2 c_h c_after c_entered c_mask c_asleep c_lockup c_counts c_counter c_reload c_current c_memory c_reg c_kept c_pending c_active c_priorities) := hD
        refine W.eq (g2 := F0 m 114 ls [.int r1]) rfl ?_
        refine lv_istore (lv' := [(4, .int r1), (0, .ref h), (1, .int y1), (3, .int y3)]) hx hb d_ThumbCoreModel_pop_114 hl (by decide) rfl (fun ls hl => ?_)
        refine lv_aload_n hx hb d_ThumbCoreModel_pop_116 rfl (lv_at hl 1 rfl) ?_
        refine va_get (D := D) (ci := 5) (v := .ref h_reg) (C := R_ThumbCoreModel) (T := F_ThumbCoreModel) (N := 23) hx hb hts u_ThumbCoreModel hown hK hP 0 rfl rfl 2 (by decide) (hts _ wf_ThumbCoreModel_13) (fun _ h9 => h9) rfl d_ThumbCoreModel_pop_117 ?_
        refine lv_bipush (v := 13) hx hb d_ThumbCoreModel_pop_120 (by decide) ?_
        refine lv_iload_n hx hb d_ThumbCoreModel_pop_122 rfl (lv_at hl 3 rfl) ?_
        refine lv_iconst (v := 4) hx hb d_ThumbCoreModel_pop_123 (by decide) ?_
        refine lv_iadd hx hb d_ThumbCoreModel_pop_124 ?_
        refine va_iast hx hb hK hP hD hS 2 0 rfl rfl (by show ¬ (_ ∨ _); decide) d_ThumbCoreModel_pop_125 (fun H locs hP hD hS => ?_)
        have hP : va_P D tcl (wd_ThumbCoreModel cI cB cZ h h_memory h_reg h_kept h_pending h_active h_priorities q_size c_n c_z c_c c_v c_keptFlags s2 c_h c_after c_entered c_mask c_asleep c_lockup c_counts c_counter c_reload c_current c_memory (upd c_reg (13 : Int32).toNatClampNeg (y3 + 4)) c_kept c_pending c_active c_priorities) H := hP
        have hD : va_D A (wd_ThumbCoreModel cI cB cZ h h_memory h_reg h_kept h_pending h_active h_priorities q_size c_n c_z c_c c_v c_keptFlags s2 c_h c_after c_entered c_mask c_asleep c_lockup c_counts c_counter c_reload c_current c_memory (upd c_reg (13 : Int32).toNatClampNeg (y3 + 4)) c_kept c_pending c_active c_priorities) := hD
        refine lv_aload_n hx hb d_ThumbCoreModel_pop_126 rfl (lv_at hl 1 rfl) ?_
        refine lv_iload hx hb d_ThumbCoreModel_pop_127 (lv_at hl 0 rfl) ?_
        refine tc_mv (wo := fun u => (wd_ThumbCoreModel cI cB cZ h h_memory h_reg h_kept h_pending h_active h_priorities q_size u.1 u.2.1 u.2.2.1 u.2.2.2.1 c_keptFlags u.2.2.2.2.1 c_h u.2.2.2.2.2.1 c_entered c_mask c_asleep c_lockup c_counts c_counter c_reload u.2.2.2.2.2.2.1 c_memory u.2.2.2.2.2.2.2.1 c_kept c_pending u.2.2.2.2.2.2.2.2 c_priorities)) (va_runV (As := [.int r1]) (rest := []) ⟨hx, hb, hml, hown, hts⟩ (c_ThumbCoreModel_goTo l D cI cB cZ h h_memory h_reg h_kept h_pending h_active h_priorities H.size q_size c_n c_z c_c c_v c_keptFlags s2 c_h c_after c_entered c_mask c_asleep c_lockup c_counts c_counter c_reload c_current c_memory (upd c_reg (13 : Int32).toNatClampNeg (y3 + 4)) c_kept c_pending c_active c_priorities r1 hm hi_c_current) (cwV 1 hts (tc_gV wl_ThumbCoreModel_141 wm_ThumbCoreModel_goTo ws_ThumbCoreModel_goTo wi_ThumbCoreModel wc_ThumbCoreModel_goTo) rfl rfl rfl (by decide +kernel) ⟨Nat.le_of_ble_eq_true rfl, Nat.le_of_ble_eq_true rfl⟩) (tc_preV hK hN hP hD [0, 1, 2, 3, 4, 5, 6] rfl (by decide) (q0 := 0) rfl rfl) rfl rfl hl.1 rfl (lv_room (Nat.le_of_ble_eq_true rfl)) d_ThumbCoreModel_pop_129 (by decide)) hP hD hS hA [0, 1, 2, 3, 4, 5, 6] [] [0, 1, 2, 3, 4, 5, 6] rfl rfl (by decide) (by decide) (by decide) (fun _ => rfl) (fun u H locs hu hP hD hS => ?_)
        obtain ⟨s3, s4, s5, s6, s7, s8, s9, s10, s11⟩ := u
        have hq := hq.trans (un9_eq hu _)
        have e_s3 := hu
        have hP : va_P D tcl (wd_ThumbCoreModel cI cB cZ h h_memory h_reg h_kept h_pending h_active h_priorities q_size s3 s4 s5 s6 c_keptFlags s7 c_h s8 c_entered c_mask c_asleep c_lockup c_counts c_counter c_reload s9 c_memory s10 c_kept c_pending s11 c_priorities) H := hP
        have hD : va_D A (wd_ThumbCoreModel cI cB cZ h h_memory h_reg h_kept h_pending h_active h_priorities q_size s3 s4 s5 s6 c_keptFlags s7 c_h s8 c_entered c_mask c_asleep c_lockup c_counts c_counter c_reload s9 c_memory s10 c_kept c_pending s11 c_priorities) := hD
        refine lv_goto (tgt := 143) hx hb d_ThumbCoreModel_pop_132 (by decide) ?_
        exact RET H locs ls 143 (s3, s4, s5, s6, s7, s8, s9, s10, s11) d_ThumbCoreModel_pop_143 hP hD hS hq
  have J_48 : ∀ n : Nat, ∀ (H : Heap) (locs : List Loc) (ls : Array Slot) (c_n : Bool) (c_z : Bool) (c_c : Bool) (c_v : Bool) (c_bad : Bool) (c_after : Int32) (c_current : Int32) (c_reg : Nat → Int32) (c_active : Nat → Bool) (y1 : Int32) (y3 : Int32) (y4 : Int32), va_P D tcl (wd_ThumbCoreModel cI cB cZ h h_memory h_reg h_kept h_pending h_active h_priorities q_size c_n c_z c_c c_v c_keptFlags c_bad c_h c_after c_entered c_mask c_asleep c_lockup c_counts c_counter c_reload c_current c_memory c_reg c_kept c_pending c_active c_priorities) H → va_D A (wd_ThumbCoreModel cI cB cZ h h_memory h_reg h_kept h_pending h_active h_priorities q_size c_n c_z c_c c_v c_keptFlags c_bad c_h c_after c_entered c_mask c_asleep c_lockup c_counts c_counter c_reload c_current c_memory c_reg c_kept c_pending c_active c_priorities) → va_S A s.heap H locs → lv_has ls 5 [(0, .ref h), (1, .int y1), (3, .int y3), (4, .int y4)] → FF = k_ThumbCoreModel_pop_48 q_size c_h c_memory n c_n c_z c_c c_v c_bad c_after c_current c_reg c_active y1 y3 y4 → (tc_lp y4 8 n) → (vp_in c_current 16) → W p l e rm_ThumbCoreModel_pop s m ([.ref h] : List Value).toArray below meth c H locs 0 0 Q (F0 m 48 ls []) := by
    intro n
    induction n with
    | zero =>
      intro H locs ls c_n c_z c_c c_v c_bad c_after c_current c_reg c_active y1 y3 y4 hP hD hS hl hq hinv hi_c_current
      exact (tc_lp0 hinv).elim
    | succ n_48 IH_48 =>
      have J_88 : ∀ (H : Heap) (locs : List Loc) (ls : Array Slot) (c_n : Bool) (c_z : Bool) (c_c : Bool) (c_v : Bool) (c_bad : Bool) (c_after : Int32) (c_current : Int32) (c_reg : Nat → Int32) (c_active : Nat → Bool) (y1 : Int32) (y3 : Int32) (y4 : Int32), va_P D tcl (wd_ThumbCoreModel cI cB cZ h h_memory h_reg h_kept h_pending h_active h_priorities q_size c_n c_z c_c c_v c_keptFlags c_bad c_h c_after c_entered c_mask c_asleep c_lockup c_counts c_counter c_reload c_current c_memory c_reg c_kept c_pending c_active c_priorities) H → va_D A (wd_ThumbCoreModel cI cB cZ h h_memory h_reg h_kept h_pending h_active h_priorities q_size c_n c_z c_c c_v c_keptFlags c_bad c_h c_after c_entered c_mask c_asleep c_lockup c_counts c_counter c_reload c_current c_memory c_reg c_kept c_pending c_active c_priorities) → va_S A s.heap H locs → lv_has ls 5 [(0, .ref h), (1, .int y1), (3, .int y3), (4, .int y4)] → FF = k_ThumbCoreModel_pop_88 q_size c_h c_memory (k_ThumbCoreModel_pop_48 q_size c_h c_memory n_48) c_n c_z c_c c_v c_bad c_after c_current c_reg c_active y1 y3 y4 → (tc_lp y4 8 (n_48 + 1)) → (y4.toInt < (8 : Nat)) → (vp_in c_current 16) → W p l e rm_ThumbCoreModel_pop s m ([.ref h] : List Value).toArray below meth c H locs 0 0 Q (F0 m 88 ls []) := by
        intro H locs ls c_n c_z c_c c_v c_bad c_after c_current c_reg c_active y1 y3 y4 hP hD hS hl hq hinv hgd hi_c_current
        refine lv_iinc (k := 3) (v := (y4 + 1)) (lv' := [(4, .int (y4 + 1)), (0, .ref h), (1, .int y1), (3, .int y3)]) hx hb d_ThumbCoreModel_pop_88 hl rfl rfl (by decide) rfl (fun ls hl => ?_)
        refine lv_goto (tgt := 48) hx hb d_ThumbCoreModel_pop_91 (by decide) ?_
        exact IH_48 H locs ls c_n c_z c_c c_v c_bad c_after c_current c_reg c_active y1 y3 (y4 + 1) hP hD hS (lv_sub hl [1, 2, 3, 0] rfl) hq (tc_lpS hinv hgd (by decide)) hi_c_current
      intro H locs ls c_n c_z c_c c_v c_bad c_after c_current c_reg c_active y1 y3 y4 hP hD hS hl hq hinv hi_c_current
      refine lv_iload hx hb d_ThumbCoreModel_pop_48 (lv_at hl 3 rfl) ?_
      refine lv_bipush (v := 8) hx hb d_ThumbCoreModel_pop_50 (by decide) ?_
      refine lv_icmp_ge (tgt := 94) hx hb d_ThumbCoreModel_pop_52 (by decide) (fun g_52 => ?_) (fun g_52 => ?_)
      · have hq := hq.trans (if_pos g_52)
        exact J_94 H locs ls c_n c_z c_c c_v c_bad c_after c_current c_reg c_active y1 y3 hP hD hS (lv_sub hl [0, 1, 2] rfl) hq hi_c_current
      · have hq := hq.trans (if_neg g_52)
        have hgd : y4.toInt < ((8 : Nat) : Int) := tc_gge g_52 (by decide)
        refine lv_aload_n hx hb d_ThumbCoreModel_pop_55 rfl (lv_at hl 0 rfl) ?_
        refine va_get (D := D) (ci := 5) (v := .int (bI c_bad)) (C := R_ThumbCoreModel) (T := F_ThumbCoreModel) (N := 23) hx hb hts u_ThumbCoreModel hown hK hP 0 rfl rfl 9 (by decide) (hts _ wf_ThumbCoreModel_41) (fun _ h9 => h9) rfl d_ThumbCoreModel_pop_56 ?_
        refine lv_if_ne (tgt := 94) hx hb d_ThumbCoreModel_pop_59 (by decide) (fun g_59 => ?_) (fun g_59 => ?_)
        · have hq := hq.trans (if_pos g_59)
          exact J_94 H locs ls c_n c_z c_c c_v c_bad c_after c_current c_reg c_active y1 y3 hP hD hS (lv_sub hl [0, 1, 2] rfl) hq hi_c_current
        · have hq := hq.trans (if_neg (fun g => g g_59))
          refine lv_iload_n hx hb d_ThumbCoreModel_pop_62 rfl (lv_at hl 1 rfl) ?_
          refine lv_iload hx hb d_ThumbCoreModel_pop_63 (lv_at hl 3 rfl) ?_
          refine lv_ishr hx hb d_ThumbCoreModel_pop_65 ?_
          refine lv_iconst (v := 1) hx hb d_ThumbCoreModel_pop_66 (by decide) ?_
          refine lv_iand hx hb d_ThumbCoreModel_pop_67 ?_
          refine lv_iconst (v := 1) hx hb d_ThumbCoreModel_pop_68 (by decide) ?_
          refine lv_icmp_ne (tgt := 88) hx hb d_ThumbCoreModel_pop_69 (by decide) (fun g_69 => ?_) (fun g_69 => ?_)
          · have hq := hq.trans (if_pos g_69)
            exact J_88 H locs ls c_n c_z c_c c_v c_bad c_after c_current c_reg c_active y1 y3 y4 hP hD hS (lv_sub hl [0, 1, 2, 3] rfl) hq (by assumption) (by assumption) hi_c_current
          · have hq := hq.trans (if_neg (fun g => g g_69))
            refine lv_aload_n hx hb d_ThumbCoreModel_pop_72 rfl (lv_at hl 0 rfl) ?_
            refine va_get (D := D) (ci := 5) (v := .ref h_reg) (C := R_ThumbCoreModel) (T := F_ThumbCoreModel) (N := 23) hx hb hts u_ThumbCoreModel hown hK hP 0 rfl rfl 2 (by decide) (hts _ wf_ThumbCoreModel_13) (fun _ h9 => h9) rfl d_ThumbCoreModel_pop_73 ?_
            refine lv_iload hx hb d_ThumbCoreModel_pop_76 (lv_at hl 3 rfl) ?_
            refine lv_aload_n hx hb d_ThumbCoreModel_pop_78 rfl (lv_at hl 0 rfl) ?_
            refine lv_iload_n hx hb d_ThumbCoreModel_pop_79 rfl (lv_at hl 2 rfl) ?_
            refine lv_iconst (v := 4) hx hb d_ThumbCoreModel_pop_80 (by decide) ?_
            refine tc_mi (wo := fun u => (wd_ThumbCoreModel cI cB cZ h h_memory h_reg h_kept h_pending h_active h_priorities q_size c_n c_z c_c c_v c_keptFlags u.2 c_h c_after c_entered c_mask c_asleep c_lockup c_counts c_counter c_reload c_current c_memory c_reg c_kept c_pending c_active c_priorities)) (va_runV (As := [.int y3, .int 4]) (rest := [.int y4, .ref h_reg]) ⟨hx, hb, hml, hown, hts⟩ (c_ThumbCoreModel_read l D cI cB cZ h h_memory h_reg h_kept h_pending h_active h_priorities H.size q_size c_n c_z c_c c_v c_keptFlags c_bad c_h c_after c_entered c_mask c_asleep c_lockup c_counts c_counter c_reload c_current c_memory c_reg c_kept c_pending c_active c_priorities y3 4 hm (by decide)) (cwV 2 hts (tc_gV wl_ThumbCoreModel_45 wm_ThumbCoreModel_read ws_ThumbCoreModel_read wi_ThumbCoreModel wc_ThumbCoreModel_read) rfl rfl rfl (by decide +kernel) ⟨Nat.le_of_ble_eq_true rfl, Nat.le_of_ble_eq_true rfl⟩) (tc_preV hK hN hP hD [0, 1, 2, 3, 4, 5, 6] rfl (by decide) (q0 := 0) rfl rfl) rfl rfl hl.1 rfl (lv_room (Nat.le_of_ble_eq_true rfl)) d_ThumbCoreModel_pop_81 (by decide)) hP hD hS hA [0, 1, 2, 3, 4, 5, 6] [] [0, 1, 2, 3, 4, 5, 6] rfl rfl (by decide) (by decide) (by decide) (fun _ => rfl) (fun u H locs hu hP hD hS => ?_)
            obtain ⟨r1, s2⟩ := u
            have hq := hq.trans (un2_eq hu _)
            have e_r1 := hu
            have hP : va_P D tcl (wd_ThumbCoreModel cI cB cZ h h_memory h_reg h_kept h_pending h_active h_priorities q_size c_n c_z c_c c_v c_keptFlags s2 c_h c_after c_entered c_mask c_asleep c_lockup c_counts c_counter c_reload c_current c_memory c_reg c_kept c_pending c_active c_priorities) H := hP
            have hD : va_D A (wd_ThumbCoreModel cI cB cZ h h_memory h_reg h_kept h_pending h_active h_priorities q_size c_n c_z c_c c_v c_keptFlags s2 c_h c_after c_entered c_mask c_asleep c_lockup c_counts c_counter c_reload c_current c_memory c_reg c_kept c_pending c_active c_priorities) := hD
            refine W.eq (g2 := F0 m 84 ls [.int r1, .int y4, .ref h_reg]) rfl ?_
            refine va_iast hx hb hK hP hD hS 2 0 rfl rfl (tc_lpI hinv hgd (by decide)) d_ThumbCoreModel_pop_84 (fun H locs hP hD hS => ?_)
            have hP : va_P D tcl (wd_ThumbCoreModel cI cB cZ h h_memory h_reg h_kept h_pending h_active h_priorities q_size c_n c_z c_c c_v c_keptFlags s2 c_h c_after c_entered c_mask c_asleep c_lockup c_counts c_counter c_reload c_current c_memory (upd c_reg y4.toNatClampNeg r1) c_kept c_pending c_active c_priorities) H := hP
            have hD : va_D A (wd_ThumbCoreModel cI cB cZ h h_memory h_reg h_kept h_pending h_active h_priorities q_size c_n c_z c_c c_v c_keptFlags s2 c_h c_after c_entered c_mask c_asleep c_lockup c_counts c_counter c_reload c_current c_memory (upd c_reg y4.toNatClampNeg r1) c_kept c_pending c_active c_priorities) := hD
            refine lv_iinc (k := 2) (v := (y3 + 4)) (lv' := [(3, .int (y3 + 4)), (0, .ref h), (1, .int y1), (4, .int y4)]) hx hb d_ThumbCoreModel_pop_85 hl rfl rfl (by decide) rfl (fun ls hl => ?_)
            exact J_88 H locs ls c_n c_z c_c c_v s2 c_after c_current (upd c_reg y4.toNatClampNeg r1) c_active y1 (y3 + 4) y4 hP hD hS (lv_sub hl [1, 2, 0, 3] rfl) hq (by assumption) (by assumption) hi_c_current
  have J_42 : ∀ (H : Heap) (locs : List Loc) (ls : Array Slot) (c_n : Bool) (c_z : Bool) (c_c : Bool) (c_v : Bool) (c_bad : Bool) (c_after : Int32) (c_current : Int32) (c_reg : Nat → Int32) (c_active : Nat → Bool) (y1 : Int32) (y3 : Int32) (z1 : Bool), va_P D tcl (wd_ThumbCoreModel cI cB cZ h h_memory h_reg h_kept h_pending h_active h_priorities q_size c_n c_z c_c c_v c_keptFlags c_bad c_h c_after c_entered c_mask c_asleep c_lockup c_counts c_counter c_reload c_current c_memory c_reg c_kept c_pending c_active c_priorities) H → va_D A (wd_ThumbCoreModel cI cB cZ h h_memory h_reg h_kept h_pending h_active h_priorities q_size c_n c_z c_c c_v c_keptFlags c_bad c_h c_after c_entered c_mask c_asleep c_lockup c_counts c_counter c_reload c_current c_memory c_reg c_kept c_pending c_active c_priorities) → va_S A s.heap H locs → lv_has ls 5 [(0, .ref h), (1, .int y1), (3, .int y3)] → FF = k_ThumbCoreModel_pop_42 q_size c_h c_memory c_n c_z c_c c_v c_bad c_after c_current c_reg c_active y1 y3 z1 → (vp_in c_current 16) → W p l e rm_ThumbCoreModel_pop s m ([.ref h] : List Value).toArray below meth c H locs 0 0 Q (F0 m 42 ls [.int (bI z1), .ref h]) := by
    intro H locs ls c_n c_z c_c c_v c_bad c_after c_current c_reg c_active y1 y3 z1 hP hD hS hl hq hi_c_current
    refine va_put (D := D) (ci := 5) (v := .int (bI z1)) (ty := .boolean) (C := R_ThumbCoreModel) (T := F_ThumbCoreModel) (N := 23) hx hb hts u_ThumbCoreModel t_ThumbCoreModel t_ThumbCoreModel_ok n_ThumbCoreModel hown hK hP hD hS 0 rfl rfl 9 (by decide) (hts _ wf_ThumbCoreModel_41) (fun _ h9 => h9) rfl (by decide +kernel) (tc_nb z1) (tc_fb z1) (Nat.le_of_ble_eq_true rfl) d_ThumbCoreModel_pop_42 (fun H locs hP hD hS => ?_)
    have hP : va_P D tcl (wd_ThumbCoreModel cI cB cZ h h_memory h_reg h_kept h_pending h_active h_priorities q_size c_n c_z c_c c_v c_keptFlags z1 c_h c_after c_entered c_mask c_asleep c_lockup c_counts c_counter c_reload c_current c_memory c_reg c_kept c_pending c_active c_priorities) H := hP
    have hD : va_D A (wd_ThumbCoreModel cI cB cZ h h_memory h_reg h_kept h_pending h_active h_priorities q_size c_n c_z c_c c_v c_keptFlags z1 c_h c_after c_entered c_mask c_asleep c_lockup c_counts c_counter c_reload c_current c_memory c_reg c_kept c_pending c_active c_priorities) := hD
    refine lv_iconst (v := 0) hx hb d_ThumbCoreModel_pop_45 (by decide) ?_
    refine lv_istore (lv' := [(4, .int 0), (0, .ref h), (1, .int y1), (3, .int y3)]) hx hb d_ThumbCoreModel_pop_46 hl (by decide) rfl (fun ls hl => ?_)
    exact J_48 (9) H locs ls c_n c_z c_c c_v z1 c_after c_current c_reg c_active y1 y3 0 hP hD hS (lv_sub hl [1, 2, 3, 0] rfl) hq (tc_lpE _) hi_c_current
  have J_37 : ∀ (H : Heap) (locs : List Loc) (ls : Array Slot) (c_n : Bool) (c_z : Bool) (c_c : Bool) (c_v : Bool) (c_bad : Bool) (c_after : Int32) (c_current : Int32) (c_reg : Nat → Int32) (c_active : Nat → Bool) (y1 : Int32) (y3 : Int32), va_P D tcl (wd_ThumbCoreModel cI cB cZ h h_memory h_reg h_kept h_pending h_active h_priorities q_size c_n c_z c_c c_v c_keptFlags c_bad c_h c_after c_entered c_mask c_asleep c_lockup c_counts c_counter c_reload c_current c_memory c_reg c_kept c_pending c_active c_priorities) H → va_D A (wd_ThumbCoreModel cI cB cZ h h_memory h_reg h_kept h_pending h_active h_priorities q_size c_n c_z c_c c_v c_keptFlags c_bad c_h c_after c_entered c_mask c_asleep c_lockup c_counts c_counter c_reload c_current c_memory c_reg c_kept c_pending c_active c_priorities) → va_S A s.heap H locs → lv_has ls 5 [(0, .ref h), (1, .int y1), (3, .int y3)] → FF = k_ThumbCoreModel_pop_37 q_size c_h c_memory c_n c_z c_c c_v c_bad c_after c_current c_reg c_active y1 y3 → (vp_in c_current 16) → W p l e rm_ThumbCoreModel_pop s m ([.ref h] : List Value).toArray below meth c H locs 0 0 Q (F0 m 37 ls [.ref h]) := by
    intro H locs ls c_n c_z c_c c_v c_bad c_after c_current c_reg c_active y1 y3 hP hD hS hl hq hi_c_current
    refine lv_iconst (v := 1) hx hb d_ThumbCoreModel_pop_37 (by decide) ?_
    refine lv_goto (tgt := 42) hx hb d_ThumbCoreModel_pop_38 (by decide) ?_
    exact J_42 H locs ls c_n c_z c_c c_v c_bad c_after c_current c_reg c_active y1 y3 true hP hD hS (lv_sub hl [0, 1, 2] rfl) hq hi_c_current
  have hq : FF = f_ThumbCoreModel_pop q_size c_h c_memory c_n c_z c_c c_v c_bad c_after c_current c_reg c_active := hF.symm
  revert hP hD hS
  suffices G : ∀ (H : Heap) (locs : List Loc), va_P D tcl (wd_ThumbCoreModel cI cB cZ h h_memory h_reg h_kept h_pending h_active h_priorities q_size c_n c_z c_c c_v c_keptFlags c_bad c_h c_after c_entered c_mask c_asleep c_lockup c_counts c_counter c_reload c_current c_memory c_reg c_kept c_pending c_active c_priorities) H → va_D A (wd_ThumbCoreModel cI cB cZ h h_memory h_reg h_kept h_pending h_active h_priorities q_size c_n c_z c_c c_v c_keptFlags c_bad c_h c_after c_entered c_mask c_asleep c_lockup c_counts c_counter c_reload c_current c_memory c_reg c_kept c_pending c_active c_priorities) → va_S A s.heap H locs → W p l e rm_ThumbCoreModel_pop s m ([.ref h] : List Value).toArray below meth c H locs 0 0 Q (F0 m 0 ls []) from fun hP hD hS => G _ _ hP hD hS
  intro H locs hP hD hS
  refine lv_aload_n hx hb d_ThumbCoreModel_pop_0 rfl (lv_at hl 0 rfl) ?_
  refine va_get (D := D) (ci := 5) (v := .int c_h) (C := R_ThumbCoreModel) (T := F_ThumbCoreModel) (N := 23) hx hb hts u_ThumbCoreModel hown hK hP 0 rfl rfl 10 (by decide) (hts _ wf_ThumbCoreModel_125) (fun _ h9 => h9) rfl d_ThumbCoreModel_pop_1 ?_
  refine lv_sipush (v := 511) hx hb d_ThumbCoreModel_pop_4 (by decide) ?_
  refine lv_iand hx hb d_ThumbCoreModel_pop_7 ?_
  refine lv_topi (fun v1 e_v1 => ?_)
  have hq := tc_nm hq e_v1
  refine lv_istore_n (lv' := [(1, .int v1), (0, .ref h)]) hx hb d_ThumbCoreModel_pop_8 rfl hl (by decide) rfl (fun ls hl => ?_)
  refine lv_aload_n hx hb d_ThumbCoreModel_pop_9 rfl (lv_at hl 1 rfl) ?_
  refine lv_iload_n hx hb d_ThumbCoreModel_pop_10 rfl (lv_at hl 0 rfl) ?_
  refine tc_rd (va_runV (As := [.int v1]) (rest := []) ⟨hx, hb, hml, hown, hts⟩ (c_ThumbCoreModel_listed l D cI cB cZ h h_memory h_reg h_kept h_pending h_active h_priorities H.size q_size c_n c_z c_c c_v c_keptFlags c_bad c_h c_after c_entered c_mask c_asleep c_lockup c_counts c_counter c_reload c_current c_memory c_reg c_kept c_pending c_active c_priorities v1) (cwV 1 hts (tc_gV wl_ThumbCoreModel_144 wm_ThumbCoreModel_listed ws_ThumbCoreModel_listed wi_ThumbCoreModel wc_ThumbCoreModel_listed) rfl rfl rfl (by decide +kernel) ⟨Nat.le_of_ble_eq_true rfl, Nat.le_of_ble_eq_true rfl⟩) (tc_preV hK hN hP hD [0, 1, 2, 3, 4, 5, 6] rfl (by decide) (q0 := 0) rfl rfl) rfl rfl hl.1 rfl (lv_room (Nat.le_of_ble_eq_true rfl)) d_ThumbCoreModel_pop_11 (by decide)) ?_
  refine lv_topi (fun v2 e_v2 => ?_)
  have hq := tc_nm hq e_v2
  refine lv_istore_n (lv' := [(2, .int v2), (1, .int v1), (0, .ref h)]) hx hb d_ThumbCoreModel_pop_14 rfl hl (by decide) rfl (fun ls hl => ?_)
  refine lv_aload_n hx hb d_ThumbCoreModel_pop_15 rfl (lv_at hl 2 rfl) ?_
  refine va_get (D := D) (ci := 5) (v := .ref h_reg) (C := R_ThumbCoreModel) (T := F_ThumbCoreModel) (N := 23) hx hb hts u_ThumbCoreModel hown hK hP 0 rfl rfl 2 (by decide) (hts _ wf_ThumbCoreModel_13) (fun _ h9 => h9) rfl d_ThumbCoreModel_pop_16 ?_
  refine lv_bipush (v := 13) hx hb d_ThumbCoreModel_pop_19 (by decide) ?_
  refine va_iald hx hb hK hP 2 0 rfl rfl (by show ¬ (_ ∨ _); decide) d_ThumbCoreModel_pop_21 ?_
  refine lv_topi (fun v3 e_v3 => ?_)
  have hq := tc_nm hq e_v3
  refine lv_istore_n (lv' := [(3, .int v3), (2, .int v2), (1, .int v1), (0, .ref h)]) hx hb d_ThumbCoreModel_pop_22 rfl hl (by decide) rfl (fun ls hl => ?_)
  refine lv_aload_n hx hb d_ThumbCoreModel_pop_23 rfl (lv_at hl 3 rfl) ?_
  refine lv_iload_n hx hb d_ThumbCoreModel_pop_24 rfl (lv_at hl 1 rfl) ?_
  refine lv_if_eq (tgt := 37) hx hb d_ThumbCoreModel_pop_25 (by decide) (fun g_25 => ?_) (fun g_25 => ?_)
  · have hq := hq.trans (if_pos g_25)
    exact J_37 H locs ls c_n c_z c_c c_v c_bad c_after c_current c_reg c_active v1 v3 hP hD hS (lv_sub hl [3, 2, 0] rfl) hq hi_c_current
  · have hq := hq.trans (if_neg g_25)
    refine lv_aload_n hx hb d_ThumbCoreModel_pop_28 rfl (lv_at hl 3 rfl) ?_
    refine lv_iload_n hx hb d_ThumbCoreModel_pop_29 rfl (lv_at hl 0 rfl) ?_
    refine lv_iload_n hx hb d_ThumbCoreModel_pop_30 rfl (lv_at hl 1 rfl) ?_
    refine tc_rd (va_runV (As := [.int v3, .int v2]) (rest := [.ref h]) ⟨hx, hb, hml, hown, hts⟩ (c_ThumbCoreModel_allThere l D cI cB cZ h h_memory h_reg h_kept h_pending h_active h_priorities H.size q_size c_n c_z c_c c_v c_keptFlags c_bad c_h c_after c_entered c_mask c_asleep c_lockup c_counts c_counter c_reload c_current c_memory c_reg c_kept c_pending c_active c_priorities v3 v2) (cwV 2 hts (tc_gV wl_ThumbCoreModel_147 wm_ThumbCoreModel_allThere ws_ThumbCoreModel_allThere wi_ThumbCoreModel wc_ThumbCoreModel_allThere) rfl rfl rfl (by decide +kernel) ⟨Nat.le_of_ble_eq_true rfl, Nat.le_of_ble_eq_true rfl⟩) (tc_preV hK hN hP hD [0, 1, 2, 3, 4, 5, 6] rfl (by decide) (q0 := 0) rfl rfl) rfl rfl hl.1 rfl (lv_room (Nat.le_of_ble_eq_true rfl)) d_ThumbCoreModel_pop_31 (by decide)) ?_
    refine tc_topb (fun v4 e_v4 => ?_)
    have hq := tc_nm hq e_v4
    refine lv_if_ne (tgt := 41) hx hb d_ThumbCoreModel_pop_34 (by decide) (fun g_34 => ?_) (fun g_34 => ?_)
    · have hq := hq.trans (if_pos g_34)
      refine lv_iconst (v := 0) hx hb d_ThumbCoreModel_pop_41 (by decide) ?_
      exact J_42 H locs ls c_n c_z c_c c_v c_bad c_after c_current c_reg c_active v1 v3 false hP hD hS (lv_sub hl [3, 2, 0] rfl) hq hi_c_current
    · have hq := hq.trans (if_neg (fun g => g g_34))
      exact J_37 H locs ls c_n c_z c_c c_v c_bad c_after c_current c_reg c_active v1 v3 hP hD hS (lv_sub hl [3, 2, 0] rfl) hq hi_c_current
abbrev rm_ThumbCoreModel_several : Room := { frames := 3, cells := 0, slots := 0, locals := 70 }
set_option maxHeartbeats 4000000 in
set_option maxRecDepth 100000 in
theorem c_ThumbCoreModel_several (l : Launch) (D : va_G) (cI cB cZ : ClassId) (h h_memory h_reg h_kept h_pending h_active h_priorities sz : Nat) (q_size : Int32) (c_n : Bool) (c_z : Bool) (c_c : Bool) (c_v : Bool) (c_keptFlags : Int32) (c_bad : Bool) (c_h : Int32) (c_after : Int32) (c_entered : Bool) (c_mask : Bool) (c_asleep : Bool) (c_lockup : Bool) (c_counts : Bool) (c_counter : Int32) (c_reload : Int32) (c_current : Int32) (c_memory : Nat → Int32) (c_reg : Nat → Int32) (c_kept : Nat → Int32) (c_pending : Nat → Bool) (c_active : Nat → Bool) (c_priorities : Nat → Int32) (x1 : Bool) (hm : tc_memR q_size) : Met l y_ThumbCoreModel_several (.code y_ThumbCoreModel_several b_ThumbCoreModel_several 10 none :: tcb) rm_ThumbCoreModel_several (tc_Pw D tcl (tys cI cB cZ) (wd_ThumbCoreModel cI cB cZ h h_memory h_reg h_kept h_pending h_active h_priorities q_size c_n c_z c_c c_v c_keptFlags c_bad c_h c_after c_entered c_mask c_asleep c_lockup c_counts c_counter c_reload c_current c_memory c_reg c_kept c_pending c_active c_priorities) sz ([.ref h, .int (bI x1)] : List Value) none) (tc_Qv D tcl (wd_ThumbCoreModel cI cB cZ h h_memory h_reg h_kept h_pending h_active h_priorities q_size c_n c_z c_c c_v c_keptFlags c_bad c_h c_after c_entered c_mask c_asleep c_lockup c_counts c_counter c_reload c_current c_memory c_reg c_kept c_pending c_active c_priorities) sz (fun u => (wd_ThumbCoreModel cI cB cZ h h_memory h_reg h_kept h_pending h_active h_priorities q_size c_n c_z c_c c_v c_keptFlags u.1 c_h c_after c_entered c_mask c_asleep c_lockup c_counts c_counter c_reload c_current u.2.1 u.2.2 c_kept c_pending c_active c_priorities)) (f_ThumbCoreModel_several q_size c_h c_bad c_memory c_reg x1)) 0 0 (va_A (wd_ThumbCoreModel cI cB cZ h h_memory h_reg h_kept h_pending h_active h_priorities q_size c_n c_z c_c c_v c_keptFlags c_bad c_h c_after c_entered c_mask c_asleep c_lockup c_counts c_counter c_reload c_current c_memory c_reg c_kept c_pending c_active c_priorities) sz) := by
  refine tc_mu_v (by decide) (Nat.le_of_ble_eq_true rfl) ?_
  intro p e s m below meth c A Q ls hx hb hml hts hown hK hN hP hD hA hZ hl RET
  have hS : va_S A s.heap s.heap [] := va_S.rf
  have hl : lv_has ls 10 [(0, .ref h), (1, .int (bI x1))] := hl
  generalize hF : f_ThumbCoreModel_several q_size c_h c_bad c_memory c_reg x1 = FF at RET
  have J_203 : ∀ (H : Heap) (locs : List Loc) (ls : Array Slot) (c_bad : Bool) (c_memory : Nat → Int32) (c_reg : Nat → Int32) (z1 : Int32) (z2 : Int32), va_P D tcl (wd_ThumbCoreModel cI cB cZ h h_memory h_reg h_kept h_pending h_active h_priorities q_size c_n c_z c_c c_v c_keptFlags c_bad c_h c_after c_entered c_mask c_asleep c_lockup c_counts c_counter c_reload c_current c_memory c_reg c_kept c_pending c_active c_priorities) H → va_D A (wd_ThumbCoreModel cI cB cZ h h_memory h_reg h_kept h_pending h_active h_priorities q_size c_n c_z c_c c_v c_keptFlags c_bad c_h c_after c_entered c_mask c_asleep c_lockup c_counts c_counter c_reload c_current c_memory c_reg c_kept c_pending c_active c_priorities) → va_S A s.heap H locs → lv_has ls 10 [] → FF = k_ThumbCoreModel_several_203 q_size c_h c_bad c_memory c_reg z1 z2 → (vp_in z1 16) → W p l e rm_ThumbCoreModel_several s m ([.ref h, .int (bI x1)] : List Value).toArray below meth c H locs 0 0 Q (F0 m 203 ls [.int z2, .int z1, .ref h_reg]) := by
    intro H locs ls c_bad c_memory c_reg z1 z2 hP hD hS hl hq hi_z1
    refine va_iast hx hb hK hP hD hS 2 0 rfl rfl hi_z1 d_ThumbCoreModel_several_203 (fun H locs hP hD hS => ?_)
    have hP : va_P D tcl (wd_ThumbCoreModel cI cB cZ h h_memory h_reg h_kept h_pending h_active h_priorities q_size c_n c_z c_c c_v c_keptFlags c_bad c_h c_after c_entered c_mask c_asleep c_lockup c_counts c_counter c_reload c_current c_memory (upd c_reg z1.toNatClampNeg z2) c_kept c_pending c_active c_priorities) H := hP
    have hD : va_D A (wd_ThumbCoreModel cI cB cZ h h_memory h_reg h_kept h_pending h_active h_priorities q_size c_n c_z c_c c_v c_keptFlags c_bad c_h c_after c_entered c_mask c_asleep c_lockup c_counts c_counter c_reload c_current c_memory (upd c_reg z1.toNatClampNeg z2) c_kept c_pending c_active c_priorities) := hD
    exact RET H locs ls 204 (c_bad, c_memory, (upd c_reg z1.toNatClampNeg z2)) d_ThumbCoreModel_several_204 hP hD hS hq
  have J_201 : ∀ (H : Heap) (locs : List Loc) (ls : Array Slot) (c_bad : Bool) (c_memory : Nat → Int32) (c_reg : Nat → Int32) (y8 : Int32) (z1 : Int32), va_P D tcl (wd_ThumbCoreModel cI cB cZ h h_memory h_reg h_kept h_pending h_active h_priorities q_size c_n c_z c_c c_v c_keptFlags c_bad c_h c_after c_entered c_mask c_asleep c_lockup c_counts c_counter c_reload c_current c_memory c_reg c_kept c_pending c_active c_priorities) H → va_D A (wd_ThumbCoreModel cI cB cZ h h_memory h_reg h_kept h_pending h_active h_priorities q_size c_n c_z c_c c_v c_keptFlags c_bad c_h c_after c_entered c_mask c_asleep c_lockup c_counts c_counter c_reload c_current c_memory c_reg c_kept c_pending c_active c_priorities) → va_S A s.heap H locs → lv_has ls 10 [(8, .int y8)] → FF = k_ThumbCoreModel_several_201 q_size c_h c_bad c_memory c_reg y8 z1 → (vp_in z1 16) → W p l e rm_ThumbCoreModel_several s m ([.ref h, .int (bI x1)] : List Value).toArray below meth c H locs 0 0 Q (F0 m 201 ls [.int z1, .ref h_reg]) := by
    intro H locs ls c_bad c_memory c_reg y8 z1 hP hD hS hl hq hi_z1
    refine lv_iload hx hb d_ThumbCoreModel_several_201 (lv_at hl 0 rfl) ?_
    exact J_203 H locs ls c_bad c_memory c_reg z1 y8 hP hD hS (lv_sub hl [] rfl) hq hi_z1
  have J_178 : ∀ (H : Heap) (locs : List Loc) (ls : Array Slot) (c_bad : Bool) (c_memory : Nat → Int32) (c_reg : Nat → Int32) (y1 : Bool) (y3 : Int32) (y6 : Bool) (y8 : Int32), va_P D tcl (wd_ThumbCoreModel cI cB cZ h h_memory h_reg h_kept h_pending h_active h_priorities q_size c_n c_z c_c c_v c_keptFlags c_bad c_h c_after c_entered c_mask c_asleep c_lockup c_counts c_counter c_reload c_current c_memory c_reg c_kept c_pending c_active c_priorities) H → va_D A (wd_ThumbCoreModel cI cB cZ h h_memory h_reg h_kept h_pending h_active h_priorities q_size c_n c_z c_c c_v c_keptFlags c_bad c_h c_after c_entered c_mask c_asleep c_lockup c_counts c_counter c_reload c_current c_memory c_reg c_kept c_pending c_active c_priorities) → va_S A s.heap H locs → lv_has ls 10 [(0, .ref h), (1, .int (bI y1)), (3, .int y3), (6, .int (bI y6)), (8, .int y8)] → FF = k_ThumbCoreModel_several_178 q_size c_h c_bad c_memory c_reg y1 y3 y6 y8 → (vp_in y3 16) → W p l e rm_ThumbCoreModel_several s m ([.ref h, .int (bI x1)] : List Value).toArray below meth c H locs 0 0 Q (F0 m 178 ls []) := by
    intro H locs ls c_bad c_memory c_reg y1 y3 y6 y8 hP hD hS hl hq hi_y3
    refine lv_aload_n hx hb d_ThumbCoreModel_several_178 rfl (lv_at hl 0 rfl) ?_
    refine va_get (D := D) (ci := 5) (v := .ref h_reg) (C := R_ThumbCoreModel) (T := F_ThumbCoreModel) (N := 23) hx hb hts u_ThumbCoreModel hown hK hP 0 rfl rfl 2 (by decide) (hts _ wf_ThumbCoreModel_13) (fun _ h9 => h9) rfl d_ThumbCoreModel_several_179 ?_
    refine lv_iload_n hx hb d_ThumbCoreModel_several_182 rfl (lv_at hl 2 rfl) ?_
    refine lv_iload_n hx hb d_ThumbCoreModel_several_183 rfl (lv_at hl 1 rfl) ?_
    refine lv_if_eq (tgt := 201) hx hb d_ThumbCoreModel_several_184 (by decide) (fun g_184 => ?_) (fun g_184 => ?_)
    · have hq := hq.trans (if_pos g_184)
      exact J_201 H locs ls c_bad c_memory c_reg y8 y3 hP hD hS (lv_sub hl [4] rfl) hq hi_y3
    · have hq := hq.trans (if_neg g_184)
      refine lv_iload hx hb d_ThumbCoreModel_several_187 (lv_at hl 3 rfl) ?_
      refine lv_if_eq (tgt := 201) hx hb d_ThumbCoreModel_several_189 (by decide) (fun g_189 => ?_) (fun g_189 => ?_)
      · have hq := hq.trans (if_pos g_189)
        exact J_201 H locs ls c_bad c_memory c_reg y8 y3 hP hD hS (lv_sub hl [4] rfl) hq hi_y3
      · have hq := hq.trans (if_neg g_189)
        refine lv_aload_n hx hb d_ThumbCoreModel_several_192 rfl (lv_at hl 0 rfl) ?_
        refine va_get (D := D) (ci := 5) (v := .ref h_reg) (C := R_ThumbCoreModel) (T := F_ThumbCoreModel) (N := 23) hx hb hts u_ThumbCoreModel hown hK hP 0 rfl rfl 2 (by decide) (hts _ wf_ThumbCoreModel_13) (fun _ h9 => h9) rfl d_ThumbCoreModel_several_193 ?_
        refine lv_iload_n hx hb d_ThumbCoreModel_several_196 rfl (lv_at hl 2 rfl) ?_
        refine va_iald hx hb hK hP 2 0 rfl rfl hi_y3 d_ThumbCoreModel_several_197 ?_
        refine lv_goto (tgt := 203) hx hb d_ThumbCoreModel_several_198 (by decide) ?_
        exact J_203 H locs ls c_bad c_memory c_reg y3 (c_reg y3.toNatClampNeg) hP hD hS (lv_sub hl [] rfl) hq hi_y3
  have J_110 : ∀ n : Nat, ∀ (H : Heap) (locs : List Loc) (ls : Array Slot) (c_bad : Bool) (c_memory : Nat → Int32) (c_reg : Nat → Int32) (y1 : Bool) (y2 : Int32) (y3 : Int32) (y6 : Bool) (y8 : Int32) (y9 : Int32), va_P D tcl (wd_ThumbCoreModel cI cB cZ h h_memory h_reg h_kept h_pending h_active h_priorities q_size c_n c_z c_c c_v c_keptFlags c_bad c_h c_after c_entered c_mask c_asleep c_lockup c_counts c_counter c_reload c_current c_memory c_reg c_kept c_pending c_active c_priorities) H → va_D A (wd_ThumbCoreModel cI cB cZ h h_memory h_reg h_kept h_pending h_active h_priorities q_size c_n c_z c_c c_v c_keptFlags c_bad c_h c_after c_entered c_mask c_asleep c_lockup c_counts c_counter c_reload c_current c_memory c_reg c_kept c_pending c_active c_priorities) → va_S A s.heap H locs → lv_has ls 10 [(0, .ref h), (1, .int (bI y1)), (2, .int y2), (3, .int y3), (6, .int (bI y6)), (8, .int y8), (9, .int y9)] → FF = k_ThumbCoreModel_several_110 q_size c_h n c_bad c_memory c_reg y1 y2 y3 y6 y8 y9 → (tc_lp y9 8 n) → (vp_in y3 16) → W p l e rm_ThumbCoreModel_several s m ([.ref h, .int (bI x1)] : List Value).toArray below meth c H locs 0 0 Q (F0 m 110 ls []) := by
    intro n
    induction n with
    | zero =>
      intro H locs ls c_bad c_memory c_reg y1 y2 y3 y6 y8 y9 hP hD hS hl hq hinv hi_y3
      exact (tc_lp0 hinv).elim
    | succ n_110 IH_110 =>
      have J_172 : ∀ (H : Heap) (locs : List Loc) (ls : Array Slot) (c_bad : Bool) (c_memory : Nat → Int32) (c_reg : Nat → Int32) (y1 : Bool) (y2 : Int32) (y3 : Int32) (y6 : Bool) (y8 : Int32) (y9 : Int32), va_P D tcl (wd_ThumbCoreModel cI cB cZ h h_memory h_reg h_kept h_pending h_active h_priorities q_size c_n c_z c_c c_v c_keptFlags c_bad c_h c_after c_entered c_mask c_asleep c_lockup c_counts c_counter c_reload c_current c_memory c_reg c_kept c_pending c_active c_priorities) H → va_D A (wd_ThumbCoreModel cI cB cZ h h_memory h_reg h_kept h_pending h_active h_priorities q_size c_n c_z c_c c_v c_keptFlags c_bad c_h c_after c_entered c_mask c_asleep c_lockup c_counts c_counter c_reload c_current c_memory c_reg c_kept c_pending c_active c_priorities) → va_S A s.heap H locs → lv_has ls 10 [(0, .ref h), (1, .int (bI y1)), (2, .int y2), (3, .int y3), (6, .int (bI y6)), (8, .int y8), (9, .int y9)] → FF = k_ThumbCoreModel_several_172 q_size c_h (k_ThumbCoreModel_several_110 q_size c_h n_110) c_bad c_memory c_reg y1 y2 y3 y6 y8 y9 → (tc_lp y9 8 (n_110 + 1)) → (y9.toInt < (8 : Nat)) → (vp_in y3 16) → W p l e rm_ThumbCoreModel_several s m ([.ref h, .int (bI x1)] : List Value).toArray below meth c H locs 0 0 Q (F0 m 172 ls []) := by
        intro H locs ls c_bad c_memory c_reg y1 y2 y3 y6 y8 y9 hP hD hS hl hq hinv hgd hi_y3
        refine lv_iinc (k := 6) (v := (y9 + 1)) (lv' := [(9, .int (y9 + 1)), (0, .ref h), (1, .int (bI y1)), (2, .int y2), (3, .int y3), (6, .int (bI y6)), (8, .int y8)]) hx hb d_ThumbCoreModel_several_172 hl rfl rfl (by decide) rfl (fun ls hl => ?_)
        refine lv_goto (tgt := 110) hx hb d_ThumbCoreModel_several_175 (by decide) ?_
        exact IH_110 H locs ls c_bad c_memory c_reg y1 y2 y3 y6 y8 (y9 + 1) hP hD hS (lv_sub hl [1, 2, 3, 4, 5, 6, 0] rfl) hq (tc_lpS hinv hgd (by decide)) hi_y3
      have J_169 : ∀ (H : Heap) (locs : List Loc) (ls : Array Slot) (c_bad : Bool) (c_memory : Nat → Int32) (c_reg : Nat → Int32) (y1 : Bool) (y2 : Int32) (y3 : Int32) (y6 : Bool) (y8 : Int32) (y9 : Int32), va_P D tcl (wd_ThumbCoreModel cI cB cZ h h_memory h_reg h_kept h_pending h_active h_priorities q_size c_n c_z c_c c_v c_keptFlags c_bad c_h c_after c_entered c_mask c_asleep c_lockup c_counts c_counter c_reload c_current c_memory c_reg c_kept c_pending c_active c_priorities) H → va_D A (wd_ThumbCoreModel cI cB cZ h h_memory h_reg h_kept h_pending h_active h_priorities q_size c_n c_z c_c c_v c_keptFlags c_bad c_h c_after c_entered c_mask c_asleep c_lockup c_counts c_counter c_reload c_current c_memory c_reg c_kept c_pending c_active c_priorities) → va_S A s.heap H locs → lv_has ls 10 [(0, .ref h), (1, .int (bI y1)), (2, .int y2), (3, .int y3), (6, .int (bI y6)), (8, .int y8), (9, .int y9)] → FF = k_ThumbCoreModel_several_169 q_size c_h (k_ThumbCoreModel_several_110 q_size c_h n_110) c_bad c_memory c_reg y1 y2 y3 y6 y8 y9 → (tc_lp y9 8 (n_110 + 1)) → (y9.toInt < (8 : Nat)) → (vp_in y3 16) → W p l e rm_ThumbCoreModel_several s m ([.ref h, .int (bI x1)] : List Value).toArray below meth c H locs 0 0 Q (F0 m 169 ls []) := by
        intro H locs ls c_bad c_memory c_reg y1 y2 y3 y6 y8 y9 hP hD hS hl hq hinv hgd hi_y3
        refine lv_iinc (k := 5) (v := (y8 + 4)) (lv' := [(8, .int (y8 + 4)), (0, .ref h), (1, .int (bI y1)), (2, .int y2), (3, .int y3), (6, .int (bI y6)), (9, .int y9)]) hx hb d_ThumbCoreModel_several_169 hl rfl rfl (by decide) rfl (fun ls hl => ?_)
        exact J_172 H locs ls c_bad c_memory c_reg y1 y2 y3 y6 (y8 + 4) y9 hP hD hS (lv_sub hl [1, 2, 3, 4, 5, 0, 6] rfl) hq (by assumption) (by assumption) hi_y3
      intro H locs ls c_bad c_memory c_reg y1 y2 y3 y6 y8 y9 hP hD hS hl hq hinv hi_y3
      refine lv_iload hx hb d_ThumbCoreModel_several_110 (lv_at hl 6 rfl) ?_
      refine lv_bipush (v := 8) hx hb d_ThumbCoreModel_several_112 (by decide) ?_
      refine lv_icmp_ge (tgt := 178) hx hb d_ThumbCoreModel_several_114 (by decide) (fun g_114 => ?_) (fun g_114 => ?_)
      · have hq := hq.trans (if_pos g_114)
        exact J_178 H locs ls c_bad c_memory c_reg y1 y3 y6 y8 hP hD hS (lv_sub hl [0, 1, 3, 4, 5] rfl) hq hi_y3
      · have hq := hq.trans (if_neg g_114)
        have hgd : y9.toInt < ((8 : Nat) : Int) := tc_gge g_114 (by decide)
        refine lv_aload_n hx hb d_ThumbCoreModel_several_117 rfl (lv_at hl 0 rfl) ?_
        refine va_get (D := D) (ci := 5) (v := .int (bI c_bad)) (C := R_ThumbCoreModel) (T := F_ThumbCoreModel) (N := 23) hx hb hts u_ThumbCoreModel hown hK hP 0 rfl rfl 9 (by decide) (hts _ wf_ThumbCoreModel_41) (fun _ h9 => h9) rfl d_ThumbCoreModel_several_118 ?_
        refine lv_if_ne (tgt := 178) hx hb d_ThumbCoreModel_several_121 (by decide) (fun g_121 => ?_) (fun g_121 => ?_)
        · have hq := hq.trans (if_pos g_121)
          exact J_178 H locs ls c_bad c_memory c_reg y1 y3 y6 y8 hP hD hS (lv_sub hl [0, 1, 3, 4, 5] rfl) hq hi_y3
        · have hq := hq.trans (if_neg (fun g => g g_121))
          refine lv_iload_n hx hb d_ThumbCoreModel_several_124 rfl (lv_at hl 2 rfl) ?_
          refine lv_iload hx hb d_ThumbCoreModel_several_125 (lv_at hl 6 rfl) ?_
          refine lv_ishr hx hb d_ThumbCoreModel_several_127 ?_
          refine lv_iconst (v := 1) hx hb d_ThumbCoreModel_several_128 (by decide) ?_
          refine lv_iand hx hb d_ThumbCoreModel_several_129 ?_
          refine lv_iconst (v := 1) hx hb d_ThumbCoreModel_several_130 (by decide) ?_
          refine lv_icmp_ne (tgt := 172) hx hb d_ThumbCoreModel_several_131 (by decide) (fun g_131 => ?_) (fun g_131 => ?_)
          · have hq := hq.trans (if_pos g_131)
            exact J_172 H locs ls c_bad c_memory c_reg y1 y2 y3 y6 y8 y9 hP hD hS (lv_sub hl [0, 1, 2, 3, 4, 5, 6] rfl) hq (by assumption) (by assumption) hi_y3
          · have hq := hq.trans (if_neg (fun g => g g_131))
            refine lv_iload_n hx hb d_ThumbCoreModel_several_134 rfl (lv_at hl 1 rfl) ?_
            refine lv_if_eq (tgt := 155) hx hb d_ThumbCoreModel_several_135 (by decide) (fun g_135 => ?_) (fun g_135 => ?_)
            · have hq := hq.trans (if_pos g_135)
              refine lv_aload_n hx hb d_ThumbCoreModel_several_155 rfl (lv_at hl 0 rfl) ?_
              refine lv_iload hx hb d_ThumbCoreModel_several_156 (lv_at hl 5 rfl) ?_
              refine lv_aload_n hx hb d_ThumbCoreModel_several_158 rfl (lv_at hl 0 rfl) ?_
              refine va_get (D := D) (ci := 5) (v := .ref h_reg) (C := R_ThumbCoreModel) (T := F_ThumbCoreModel) (N := 23) hx hb hts u_ThumbCoreModel hown hK hP 0 rfl rfl 2 (by decide) (hts _ wf_ThumbCoreModel_13) (fun _ h9 => h9) rfl d_ThumbCoreModel_several_159 ?_
              refine lv_iload hx hb d_ThumbCoreModel_several_162 (lv_at hl 6 rfl) ?_
              refine va_iald hx hb hK hP 2 0 rfl rfl (tc_lpI hinv hgd (by decide)) d_ThumbCoreModel_several_164 ?_
              refine lv_iconst (v := 4) hx hb d_ThumbCoreModel_several_165 (by decide) ?_
              refine tc_mv (wo := fun u => (wd_ThumbCoreModel cI cB cZ h h_memory h_reg h_kept h_pending h_active h_priorities q_size c_n c_z c_c c_v c_keptFlags u.1 c_h c_after c_entered c_mask c_asleep c_lockup c_counts c_counter c_reload c_current u.2 c_reg c_kept c_pending c_active c_priorities)) (va_runV (As := [.int y8, .int (c_reg y9.toNatClampNeg), .int 4]) (rest := []) ⟨hx, hb, hml, hown, hts⟩ (c_ThumbCoreModel_write l D cI cB cZ h h_memory h_reg h_kept h_pending h_active h_priorities H.size q_size c_n c_z c_c c_v c_keptFlags c_bad c_h c_after c_entered c_mask c_asleep c_lockup c_counts c_counter c_reload c_current c_memory c_reg c_kept c_pending c_active c_priorities y8 (c_reg y9.toNatClampNeg) 4 hm (by decide)) (cwV 3 hts (tc_gV wl_ThumbCoreModel_100 wm_ThumbCoreModel_write ws_ThumbCoreModel_write wi_ThumbCoreModel wc_ThumbCoreModel_write) rfl rfl rfl (by decide +kernel) ⟨Nat.le_of_ble_eq_true rfl, Nat.le_of_ble_eq_true rfl⟩) (tc_preV hK hN hP hD [0, 1, 2, 3, 4, 5, 6] rfl (by decide) (q0 := 0) rfl rfl) rfl rfl hl.1 rfl (lv_room (Nat.le_of_ble_eq_true rfl)) d_ThumbCoreModel_several_166 (by decide)) hP hD hS hA [0, 1, 2, 3, 4, 5, 6] [] [0, 1, 2, 3, 4, 5, 6] rfl rfl (by decide) (by decide) (by decide) (fun _ => rfl) (fun u H locs hu hP hD hS => ?_)
              obtain ⟨s1, s2⟩ := u
              have hq := hq.trans (un2_eq hu _)
              have e_s1 := hu
              have hP : va_P D tcl (wd_ThumbCoreModel cI cB cZ h h_memory h_reg h_kept h_pending h_active h_priorities q_size c_n c_z c_c c_v c_keptFlags s1 c_h c_after c_entered c_mask c_asleep c_lockup c_counts c_counter c_reload c_current s2 c_reg c_kept c_pending c_active c_priorities) H := hP
              have hD : va_D A (wd_ThumbCoreModel cI cB cZ h h_memory h_reg h_kept h_pending h_active h_priorities q_size c_n c_z c_c c_v c_keptFlags s1 c_h c_after c_entered c_mask c_asleep c_lockup c_counts c_counter c_reload c_current s2 c_reg c_kept c_pending c_active c_priorities) := hD
              exact J_169 H locs ls s1 s2 c_reg y1 y2 y3 y6 y8 y9 hP hD hS (lv_sub hl [0, 1, 2, 3, 4, 5, 6] rfl) hq (by assumption) (by assumption) hi_y3
            · have hq := hq.trans (if_neg g_135)
              refine lv_aload_n hx hb d_ThumbCoreModel_several_138 rfl (lv_at hl 0 rfl) ?_
              refine va_get (D := D) (ci := 5) (v := .ref h_reg) (C := R_ThumbCoreModel) (T := F_ThumbCoreModel) (N := 23) hx hb hts u_ThumbCoreModel hown hK hP 0 rfl rfl 2 (by decide) (hts _ wf_ThumbCoreModel_13) (fun _ h9 => h9) rfl d_ThumbCoreModel_several_139 ?_
              refine lv_iload hx hb d_ThumbCoreModel_several_142 (lv_at hl 6 rfl) ?_
              refine lv_aload_n hx hb d_ThumbCoreModel_several_144 rfl (lv_at hl 0 rfl) ?_
              refine lv_iload hx hb d_ThumbCoreModel_several_145 (lv_at hl 5 rfl) ?_
              refine lv_iconst (v := 4) hx hb d_ThumbCoreModel_several_147 (by decide) ?_
              refine tc_mi (wo := fun u => (wd_ThumbCoreModel cI cB cZ h h_memory h_reg h_kept h_pending h_active h_priorities q_size c_n c_z c_c c_v c_keptFlags u.2 c_h c_after c_entered c_mask c_asleep c_lockup c_counts c_counter c_reload c_current c_memory c_reg c_kept c_pending c_active c_priorities)) (va_runV (As := [.int y8, .int 4]) (rest := [.int y9, .ref h_reg]) ⟨hx, hb, hml, hown, hts⟩ (c_ThumbCoreModel_read l D cI cB cZ h h_memory h_reg h_kept h_pending h_active h_priorities H.size q_size c_n c_z c_c c_v c_keptFlags c_bad c_h c_after c_entered c_mask c_asleep c_lockup c_counts c_counter c_reload c_current c_memory c_reg c_kept c_pending c_active c_priorities y8 4 hm (by decide)) (cwV 2 hts (tc_gV wl_ThumbCoreModel_45 wm_ThumbCoreModel_read ws_ThumbCoreModel_read wi_ThumbCoreModel wc_ThumbCoreModel_read) rfl rfl rfl (by decide +kernel) ⟨Nat.le_of_ble_eq_true rfl, Nat.le_of_ble_eq_true rfl⟩) (tc_preV hK hN hP hD [0, 1, 2, 3, 4, 5, 6] rfl (by decide) (q0 := 0) rfl rfl) rfl rfl hl.1 rfl (lv_room (Nat.le_of_ble_eq_true rfl)) d_ThumbCoreModel_several_148 (by decide)) hP hD hS hA [0, 1, 2, 3, 4, 5, 6] [] [0, 1, 2, 3, 4, 5, 6] rfl rfl (by decide) (by decide) (by decide) (fun _ => rfl) (fun u H locs hu hP hD hS => ?_)
              obtain ⟨r3, s4⟩ := u
              have hq := hq.trans (un2_eq hu _)
              have e_r3 := hu
              have hP : va_P D tcl (wd_ThumbCoreModel cI cB cZ h h_memory h_reg h_kept h_pending h_active h_priorities q_size c_n c_z c_c c_v c_keptFlags s4 c_h c_after c_entered c_mask c_asleep c_lockup c_counts c_counter c_reload c_current c_memory c_reg c_kept c_pending c_active c_priorities) H := hP
              have hD : va_D A (wd_ThumbCoreModel cI cB cZ h h_memory h_reg h_kept h_pending h_active h_priorities q_size c_n c_z c_c c_v c_keptFlags s4 c_h c_after c_entered c_mask c_asleep c_lockup c_counts c_counter c_reload c_current c_memory c_reg c_kept c_pending c_active c_priorities) := hD
              refine W.eq (g2 := F0 m 151 ls [.int r3, .int y9, .ref h_reg]) rfl ?_
              refine va_iast hx hb hK hP hD hS 2 0 rfl rfl (tc_lpI hinv hgd (by decide)) d_ThumbCoreModel_several_151 (fun H locs hP hD hS => ?_)
              have hP : va_P D tcl (wd_ThumbCoreModel cI cB cZ h h_memory h_reg h_kept h_pending h_active h_priorities q_size c_n c_z c_c c_v c_keptFlags s4 c_h c_after c_entered c_mask c_asleep c_lockup c_counts c_counter c_reload c_current c_memory (upd c_reg y9.toNatClampNeg r3) c_kept c_pending c_active c_priorities) H := hP
              have hD : va_D A (wd_ThumbCoreModel cI cB cZ h h_memory h_reg h_kept h_pending h_active h_priorities q_size c_n c_z c_c c_v c_keptFlags s4 c_h c_after c_entered c_mask c_asleep c_lockup c_counts c_counter c_reload c_current c_memory (upd c_reg y9.toNatClampNeg r3) c_kept c_pending c_active c_priorities) := hD
              refine lv_goto (tgt := 169) hx hb d_ThumbCoreModel_several_152 (by decide) ?_
              exact J_169 H locs ls s4 c_memory (upd c_reg y9.toNatClampNeg r3) y1 y2 y3 y6 y8 y9 hP hD hS (lv_sub hl [0, 1, 2, 3, 4, 5, 6] rfl) hq (by assumption) (by assumption) hi_y3
  have J_100 : ∀ (H : Heap) (locs : List Loc) (ls : Array Slot) (c_bad : Bool) (c_memory : Nat → Int32) (c_reg : Nat → Int32) (y1 : Bool) (y2 : Int32) (y3 : Int32) (y5 : Int32) (y6 : Bool) (z1 : Bool), va_P D tcl (wd_ThumbCoreModel cI cB cZ h h_memory h_reg h_kept h_pending h_active h_priorities q_size c_n c_z c_c c_v c_keptFlags c_bad c_h c_after c_entered c_mask c_asleep c_lockup c_counts c_counter c_reload c_current c_memory c_reg c_kept c_pending c_active c_priorities) H → va_D A (wd_ThumbCoreModel cI cB cZ h h_memory h_reg h_kept h_pending h_active h_priorities q_size c_n c_z c_c c_v c_keptFlags c_bad c_h c_after c_entered c_mask c_asleep c_lockup c_counts c_counter c_reload c_current c_memory c_reg c_kept c_pending c_active c_priorities) → va_S A s.heap H locs → lv_has ls 10 [(0, .ref h), (1, .int (bI y1)), (2, .int y2), (3, .int y3), (5, .int y5), (6, .int (bI y6))] → FF = k_ThumbCoreModel_several_100 q_size c_h c_bad c_memory c_reg y1 y2 y3 y5 y6 z1 → (vp_in y3 16) → W p l e rm_ThumbCoreModel_several s m ([.ref h, .int (bI x1)] : List Value).toArray below meth c H locs 0 0 Q (F0 m 100 ls [.int (bI z1), .ref h]) := by
    intro H locs ls c_bad c_memory c_reg y1 y2 y3 y5 y6 z1 hP hD hS hl hq hi_y3
    refine va_put (D := D) (ci := 5) (v := .int (bI z1)) (ty := .boolean) (C := R_ThumbCoreModel) (T := F_ThumbCoreModel) (N := 23) hx hb hts u_ThumbCoreModel t_ThumbCoreModel t_ThumbCoreModel_ok n_ThumbCoreModel hown hK hP hD hS 0 rfl rfl 9 (by decide) (hts _ wf_ThumbCoreModel_41) (fun _ h9 => h9) rfl (by decide +kernel) (tc_nb z1) (tc_fb z1) (Nat.le_of_ble_eq_true rfl) d_ThumbCoreModel_several_100 (fun H locs hP hD hS => ?_)
    have hP : va_P D tcl (wd_ThumbCoreModel cI cB cZ h h_memory h_reg h_kept h_pending h_active h_priorities q_size c_n c_z c_c c_v c_keptFlags z1 c_h c_after c_entered c_mask c_asleep c_lockup c_counts c_counter c_reload c_current c_memory c_reg c_kept c_pending c_active c_priorities) H := hP
    have hD : va_D A (wd_ThumbCoreModel cI cB cZ h h_memory h_reg h_kept h_pending h_active h_priorities q_size c_n c_z c_c c_v c_keptFlags z1 c_h c_after c_entered c_mask c_asleep c_lockup c_counts c_counter c_reload c_current c_memory c_reg c_kept c_pending c_active c_priorities) := hD
    refine lv_iload hx hb d_ThumbCoreModel_several_103 (lv_at hl 4 rfl) ?_
    refine lv_istore (lv' := [(8, .int y5), (0, .ref h), (1, .int (bI y1)), (2, .int y2), (3, .int y3), (5, .int y5), (6, .int (bI y6))]) hx hb d_ThumbCoreModel_several_105 hl (by decide) rfl (fun ls hl => ?_)
    refine lv_iconst (v := 0) hx hb d_ThumbCoreModel_several_107 (by decide) ?_
    refine lv_istore (lv' := [(9, .int 0), (8, .int y5), (0, .ref h), (1, .int (bI y1)), (2, .int y2), (3, .int y3), (5, .int y5), (6, .int (bI y6))]) hx hb d_ThumbCoreModel_several_108 hl (by decide) rfl (fun ls hl => ?_)
    exact J_110 (9) H locs ls z1 c_memory c_reg y1 y2 y3 y6 y5 0 hP hD hS (lv_sub hl [2, 3, 4, 5, 7, 1, 0] rfl) hq (tc_lpE _) hi_y3
  have J_95 : ∀ (H : Heap) (locs : List Loc) (ls : Array Slot) (c_bad : Bool) (c_memory : Nat → Int32) (c_reg : Nat → Int32) (y1 : Bool) (y2 : Int32) (y3 : Int32) (y5 : Int32) (y6 : Bool), va_P D tcl (wd_ThumbCoreModel cI cB cZ h h_memory h_reg h_kept h_pending h_active h_priorities q_size c_n c_z c_c c_v c_keptFlags c_bad c_h c_after c_entered c_mask c_asleep c_lockup c_counts c_counter c_reload c_current c_memory c_reg c_kept c_pending c_active c_priorities) H → va_D A (wd_ThumbCoreModel cI cB cZ h h_memory h_reg h_kept h_pending h_active h_priorities q_size c_n c_z c_c c_v c_keptFlags c_bad c_h c_after c_entered c_mask c_asleep c_lockup c_counts c_counter c_reload c_current c_memory c_reg c_kept c_pending c_active c_priorities) → va_S A s.heap H locs → lv_has ls 10 [(0, .ref h), (1, .int (bI y1)), (2, .int y2), (3, .int y3), (5, .int y5), (6, .int (bI y6))] → FF = k_ThumbCoreModel_several_95 q_size c_h c_bad c_memory c_reg y1 y2 y3 y5 y6 → (vp_in y3 16) → W p l e rm_ThumbCoreModel_several s m ([.ref h, .int (bI x1)] : List Value).toArray below meth c H locs 0 0 Q (F0 m 95 ls [.ref h]) := by
    intro H locs ls c_bad c_memory c_reg y1 y2 y3 y5 y6 hP hD hS hl hq hi_y3
    refine lv_iconst (v := 1) hx hb d_ThumbCoreModel_several_95 (by decide) ?_
    refine lv_goto (tgt := 100) hx hb d_ThumbCoreModel_several_96 (by decide) ?_
    exact J_100 H locs ls c_bad c_memory c_reg y1 y2 y3 y5 y6 true hP hD hS (lv_sub hl [0, 1, 2, 3, 4, 5] rfl) hq hi_y3
  have J_84 : ∀ (H : Heap) (locs : List Loc) (ls : Array Slot) (c_bad : Bool) (c_memory : Nat → Int32) (c_reg : Nat → Int32) (y1 : Bool) (y2 : Int32) (y3 : Int32) (y4 : Int32) (y5 : Int32) (y6 : Bool), va_P D tcl (wd_ThumbCoreModel cI cB cZ h h_memory h_reg h_kept h_pending h_active h_priorities q_size c_n c_z c_c c_v c_keptFlags c_bad c_h c_after c_entered c_mask c_asleep c_lockup c_counts c_counter c_reload c_current c_memory c_reg c_kept c_pending c_active c_priorities) H → va_D A (wd_ThumbCoreModel cI cB cZ h h_memory h_reg h_kept h_pending h_active h_priorities q_size c_n c_z c_c c_v c_keptFlags c_bad c_h c_after c_entered c_mask c_asleep c_lockup c_counts c_counter c_reload c_current c_memory c_reg c_kept c_pending c_active c_priorities) → va_S A s.heap H locs → lv_has ls 10 [(0, .ref h), (1, .int (bI y1)), (2, .int y2), (3, .int y3), (4, .int y4), (5, .int y5), (6, .int (bI y6))] → FF = k_ThumbCoreModel_several_84 q_size c_h c_bad c_memory c_reg y1 y2 y3 y4 y5 y6 → (vp_in y3 16) → W p l e rm_ThumbCoreModel_several s m ([.ref h, .int (bI x1)] : List Value).toArray below meth c H locs 0 0 Q (F0 m 84 ls [.ref h]) := by
    intro H locs ls c_bad c_memory c_reg y1 y2 y3 y4 y5 y6 hP hD hS hl hq hi_y3
    refine lv_aload_n hx hb d_ThumbCoreModel_several_84 rfl (lv_at hl 0 rfl) ?_
    refine lv_iload hx hb d_ThumbCoreModel_several_85 (lv_at hl 5 rfl) ?_
    refine lv_iload hx hb d_ThumbCoreModel_several_87 (lv_at hl 4 rfl) ?_
    refine tc_rd (va_runV (As := [.int y5, .int y4]) (rest := [.ref h]) ⟨hx, hb, hml, hown, hts⟩ (c_ThumbCoreModel_allThere l D cI cB cZ h h_memory h_reg h_kept h_pending h_active h_priorities H.size q_size c_n c_z c_c c_v c_keptFlags c_bad c_h c_after c_entered c_mask c_asleep c_lockup c_counts c_counter c_reload c_current c_memory c_reg c_kept c_pending c_active c_priorities y5 y4) (cwV 2 hts (tc_gV wl_ThumbCoreModel_147 wm_ThumbCoreModel_allThere ws_ThumbCoreModel_allThere wi_ThumbCoreModel wc_ThumbCoreModel_allThere) rfl rfl rfl (by decide +kernel) ⟨Nat.le_of_ble_eq_true rfl, Nat.le_of_ble_eq_true rfl⟩) (tc_preV hK hN hP hD [0, 1, 2, 3, 4, 5, 6] rfl (by decide) (q0 := 0) rfl rfl) rfl rfl hl.1 rfl (lv_room (Nat.le_of_ble_eq_true rfl)) d_ThumbCoreModel_several_89 (by decide)) ?_
    refine tc_topb (fun v1 e_v1 => ?_)
    have hq := tc_nm hq e_v1
    refine lv_if_ne (tgt := 99) hx hb d_ThumbCoreModel_several_92 (by decide) (fun g_92 => ?_) (fun g_92 => ?_)
    · have hq := hq.trans (if_pos g_92)
      refine lv_iconst (v := 0) hx hb d_ThumbCoreModel_several_99 (by decide) ?_
      exact J_100 H locs ls c_bad c_memory c_reg y1 y2 y3 y5 y6 false hP hD hS (lv_sub hl [0, 1, 2, 3, 5, 6] rfl) hq hi_y3
    · have hq := hq.trans (if_neg (fun g => g g_92))
      exact J_95 H locs ls c_bad c_memory c_reg y1 y2 y3 y5 y6 hP hD hS (lv_sub hl [0, 1, 2, 3, 5, 6] rfl) hq hi_y3
  have J_62 : ∀ (H : Heap) (locs : List Loc) (ls : Array Slot) (c_bad : Bool) (c_memory : Nat → Int32) (c_reg : Nat → Int32) (y1 : Bool) (y2 : Int32) (y3 : Int32) (y4 : Int32) (y5 : Int32) (y6 : Bool) (z0 : Bool), va_P D tcl (wd_ThumbCoreModel cI cB cZ h h_memory h_reg h_kept h_pending h_active h_priorities q_size c_n c_z c_c c_v c_keptFlags c_bad c_h c_after c_entered c_mask c_asleep c_lockup c_counts c_counter c_reload c_current c_memory c_reg c_kept c_pending c_active c_priorities) H → va_D A (wd_ThumbCoreModel cI cB cZ h h_memory h_reg h_kept h_pending h_active h_priorities q_size c_n c_z c_c c_v c_keptFlags c_bad c_h c_after c_entered c_mask c_asleep c_lockup c_counts c_counter c_reload c_current c_memory c_reg c_kept c_pending c_active c_priorities) → va_S A s.heap H locs → lv_has ls 10 [(0, .ref h), (1, .int (bI y1)), (2, .int y2), (3, .int y3), (4, .int y4), (5, .int y5), (6, .int (bI y6))] → FF = k_ThumbCoreModel_several_62 q_size c_h c_bad c_memory c_reg y1 y2 y3 y4 y5 y6 z0 → (vp_in y3 16) → W p l e rm_ThumbCoreModel_several s m ([.ref h, .int (bI x1)] : List Value).toArray below meth c H locs 0 0 Q (F0 m 62 ls [.int (bI z0)]) := by
    intro H locs ls c_bad c_memory c_reg y1 y2 y3 y4 y5 y6 z0 hP hD hS hl hq hi_y3
    refine lv_istore (lv' := [(7, .int (bI z0)), (0, .ref h), (1, .int (bI y1)), (2, .int y2), (3, .int y3), (4, .int y4), (5, .int y5), (6, .int (bI y6))]) hx hb d_ThumbCoreModel_several_62 hl (by decide) rfl (fun ls hl => ?_)
    refine lv_aload_n hx hb d_ThumbCoreModel_several_64 rfl (lv_at hl 1 rfl) ?_
    refine lv_iload hx hb d_ThumbCoreModel_several_65 (lv_at hl 5 rfl) ?_
    refine lv_if_eq (tgt := 95) hx hb d_ThumbCoreModel_several_67 (by decide) (fun g_67 => ?_) (fun g_67 => ?_)
    · have hq := hq.trans (if_pos g_67)
      exact J_95 H locs ls c_bad c_memory c_reg y1 y2 y3 y5 y6 hP hD hS (lv_sub hl [1, 2, 3, 4, 6, 7] rfl) hq hi_y3
    · have hq := hq.trans (if_neg g_67)
      refine lv_iload_n hx hb d_ThumbCoreModel_several_70 rfl (lv_at hl 2 rfl) ?_
      refine lv_if_ne (tgt := 84) hx hb d_ThumbCoreModel_several_71 (by decide) (fun g_71 => ?_) (fun g_71 => ?_)
      · have hq := hq.trans (if_pos g_71)
        exact J_84 H locs ls c_bad c_memory c_reg y1 y2 y3 y4 y5 y6 hP hD hS (lv_sub hl [1, 2, 3, 4, 5, 6, 7] rfl) hq hi_y3
      · have hq := hq.trans (if_neg (fun g => g g_71))
        refine lv_iload hx hb d_ThumbCoreModel_several_74 (lv_at hl 7 rfl) ?_
        refine lv_if_eq (tgt := 84) hx hb d_ThumbCoreModel_several_76 (by decide) (fun g_76 => ?_) (fun g_76 => ?_)
        · have hq := hq.trans (if_pos g_76)
          exact J_84 H locs ls c_bad c_memory c_reg y1 y2 y3 y4 y5 y6 hP hD hS (lv_sub hl [1, 2, 3, 4, 5, 6, 7] rfl) hq hi_y3
        · have hq := hq.trans (if_neg g_76)
          refine lv_iload hx hb d_ThumbCoreModel_several_79 (lv_at hl 0 rfl) ?_
          refine lv_if_eq (tgt := 95) hx hb d_ThumbCoreModel_several_81 (by decide) (fun g_81 => ?_) (fun g_81 => ?_)
          · have hq := hq.trans (if_pos g_81)
            exact J_95 H locs ls c_bad c_memory c_reg y1 y2 y3 y5 y6 hP hD hS (lv_sub hl [1, 2, 3, 4, 6, 7] rfl) hq hi_y3
          · have hq := hq.trans (if_neg g_81)
            exact J_84 H locs ls c_bad c_memory c_reg y1 y2 y3 y4 y5 y6 hP hD hS (lv_sub hl [1, 2, 3, 4, 5, 6, 7] rfl) hq hi_y3
  have J_45 : ∀ (H : Heap) (locs : List Loc) (ls : Array Slot) (c_bad : Bool) (c_memory : Nat → Int32) (c_reg : Nat → Int32) (y1 : Bool) (y2 : Int32) (y3 : Int32) (y4 : Int32) (y5 : Int32) (z0 : Bool), va_P D tcl (wd_ThumbCoreModel cI cB cZ h h_memory h_reg h_kept h_pending h_active h_priorities q_size c_n c_z c_c c_v c_keptFlags c_bad c_h c_after c_entered c_mask c_asleep c_lockup c_counts c_counter c_reload c_current c_memory c_reg c_kept c_pending c_active c_priorities) H → va_D A (wd_ThumbCoreModel cI cB cZ h h_memory h_reg h_kept h_pending h_active h_priorities q_size c_n c_z c_c c_v c_keptFlags c_bad c_h c_after c_entered c_mask c_asleep c_lockup c_counts c_counter c_reload c_current c_memory c_reg c_kept c_pending c_active c_priorities) → va_S A s.heap H locs → lv_has ls 10 [(0, .ref h), (1, .int (bI y1)), (2, .int y2), (3, .int y3), (4, .int y4), (5, .int y5)] → FF = k_ThumbCoreModel_several_45 q_size c_h c_bad c_memory c_reg y1 y2 y3 y4 y5 z0 → (vp_in y3 16) → W p l e rm_ThumbCoreModel_several s m ([.ref h, .int (bI x1)] : List Value).toArray below meth c H locs 0 0 Q (F0 m 45 ls [.int (bI z0)]) := by
    intro H locs ls c_bad c_memory c_reg y1 y2 y3 y4 y5 z0 hP hD hS hl hq hi_y3
    refine lv_istore (lv' := [(6, .int (bI z0)), (0, .ref h), (1, .int (bI y1)), (2, .int y2), (3, .int y3), (4, .int y4), (5, .int y5)]) hx hb d_ThumbCoreModel_several_45 hl (by decide) rfl (fun ls hl => ?_)
    refine lv_iload_n hx hb d_ThumbCoreModel_several_47 rfl (lv_at hl 3 rfl) ?_
    refine lv_iconst (v := 1) hx hb d_ThumbCoreModel_several_48 (by decide) ?_
    refine lv_iload_n hx hb d_ThumbCoreModel_several_49 rfl (lv_at hl 4 rfl) ?_
    refine lv_ishl hx hb d_ThumbCoreModel_several_50 ?_
    refine lv_iconst (v := 1) hx hb d_ThumbCoreModel_several_51 (by decide) ?_
    refine lv_isub hx hb d_ThumbCoreModel_several_52 ?_
    refine lv_iand hx hb d_ThumbCoreModel_several_53 ?_
    refine lv_if_ne (tgt := 61) hx hb d_ThumbCoreModel_several_54 (by decide) (fun g_54 => ?_) (fun g_54 => ?_)
    · have hq := hq.trans (if_pos g_54)
      refine lv_iconst (v := 0) hx hb d_ThumbCoreModel_several_61 (by decide) ?_
      exact J_62 H locs ls c_bad c_memory c_reg y1 y2 y3 y4 y5 z0 false hP hD hS (lv_sub hl [1, 2, 3, 4, 5, 6, 0] rfl) hq hi_y3
    · have hq := hq.trans (if_neg (fun g => g g_54))
      refine lv_iconst (v := 1) hx hb d_ThumbCoreModel_several_57 (by decide) ?_
      refine lv_goto (tgt := 62) hx hb d_ThumbCoreModel_several_58 (by decide) ?_
      exact J_62 H locs ls c_bad c_memory c_reg y1 y2 y3 y4 y5 z0 true hP hD hS (lv_sub hl [1, 2, 3, 4, 5, 6, 0] rfl) hq hi_y3
  have hq : FF = f_ThumbCoreModel_several q_size c_h c_bad c_memory c_reg x1 := hF.symm
  revert hP hD hS
  suffices G : ∀ (H : Heap) (locs : List Loc), va_P D tcl (wd_ThumbCoreModel cI cB cZ h h_memory h_reg h_kept h_pending h_active h_priorities q_size c_n c_z c_c c_v c_keptFlags c_bad c_h c_after c_entered c_mask c_asleep c_lockup c_counts c_counter c_reload c_current c_memory c_reg c_kept c_pending c_active c_priorities) H → va_D A (wd_ThumbCoreModel cI cB cZ h h_memory h_reg h_kept h_pending h_active h_priorities q_size c_n c_z c_c c_v c_keptFlags c_bad c_h c_after c_entered c_mask c_asleep c_lockup c_counts c_counter c_reload c_current c_memory c_reg c_kept c_pending c_active c_priorities) → va_S A s.heap H locs → W p l e rm_ThumbCoreModel_several s m ([.ref h, .int (bI x1)] : List Value).toArray below meth c H locs 0 0 Q (F0 m 0 ls []) from fun hP hD hS => G _ _ hP hD hS
  intro H locs hP hD hS
  refine lv_aload_n hx hb d_ThumbCoreModel_several_0 rfl (lv_at hl 0 rfl) ?_
  refine va_get (D := D) (ci := 5) (v := .int c_h) (C := R_ThumbCoreModel) (T := F_ThumbCoreModel) (N := 23) hx hb hts u_ThumbCoreModel hown hK hP 0 rfl rfl 10 (by decide) (hts _ wf_ThumbCoreModel_125) (fun _ h9 => h9) rfl d_ThumbCoreModel_several_1 ?_
  refine lv_sipush (v := 255) hx hb d_ThumbCoreModel_several_4 (by decide) ?_
  refine lv_iand hx hb d_ThumbCoreModel_several_7 ?_
  refine lv_topi (fun v1 e_v1 => ?_)
  have hq := tc_nm hq e_v1
  refine lv_istore_n (lv' := [(2, .int v1), (0, .ref h), (1, .int (bI x1))]) hx hb d_ThumbCoreModel_several_8 rfl hl (by decide) rfl (fun ls hl => ?_)
  refine lv_aload_n hx hb d_ThumbCoreModel_several_9 rfl (lv_at hl 1 rfl) ?_
  refine lv_bipush (v := 8) hx hb d_ThumbCoreModel_several_10 (by decide) ?_
  refine tc_rd (va_runV (As := [.int 8]) (rest := []) ⟨hx, hb, hml, hown, hts⟩ (c_ThumbCoreModel_field l D cI cB cZ h h_memory h_reg h_kept h_pending h_active h_priorities H.size q_size c_n c_z c_c c_v c_keptFlags c_bad c_h c_after c_entered c_mask c_asleep c_lockup c_counts c_counter c_reload c_current c_memory c_reg c_kept c_pending c_active c_priorities 8) (cwV 1 hts (tc_gV wl_ThumbCoreModel_128 wm_ThumbCoreModel_field ws_ThumbCoreModel_field wi_ThumbCoreModel wc_ThumbCoreModel_field) rfl rfl rfl (by decide +kernel) ⟨Nat.le_of_ble_eq_true rfl, Nat.le_of_ble_eq_true rfl⟩) (tc_preV hK hN hP hD [0, 1, 2, 3, 4, 5, 6] rfl (by decide) (q0 := 0) rfl rfl) rfl rfl hl.1 rfl (lv_room (Nat.le_of_ble_eq_true rfl)) d_ThumbCoreModel_several_12 (by decide)) ?_
  refine lv_topi (fun v2 e_v2 => ?_)
  have hq := tc_nm hq e_v2
  refine lv_istore_n (lv' := [(3, .int v2), (2, .int v1), (0, .ref h), (1, .int (bI x1))]) hx hb d_ThumbCoreModel_several_15 rfl hl (by decide) rfl (fun ls hl => ?_)
  refine lv_aload_n hx hb d_ThumbCoreModel_several_16 rfl (lv_at hl 2 rfl) ?_
  refine lv_iload_n hx hb d_ThumbCoreModel_several_17 rfl (lv_at hl 1 rfl) ?_
  refine tc_rd (va_runV (As := [.int v1]) (rest := []) ⟨hx, hb, hml, hown, hts⟩ (c_ThumbCoreModel_listed l D cI cB cZ h h_memory h_reg h_kept h_pending h_active h_priorities H.size q_size c_n c_z c_c c_v c_keptFlags c_bad c_h c_after c_entered c_mask c_asleep c_lockup c_counts c_counter c_reload c_current c_memory c_reg c_kept c_pending c_active c_priorities v1) (cwV 1 hts (tc_gV wl_ThumbCoreModel_144 wm_ThumbCoreModel_listed ws_ThumbCoreModel_listed wi_ThumbCoreModel wc_ThumbCoreModel_listed) rfl rfl rfl (by decide +kernel) ⟨Nat.le_of_ble_eq_true rfl, Nat.le_of_ble_eq_true rfl⟩) (tc_preV hK hN hP hD [0, 1, 2, 3, 4, 5, 6] rfl (by decide) (q0 := 0) rfl rfl) rfl rfl hl.1 rfl (lv_room (Nat.le_of_ble_eq_true rfl)) d_ThumbCoreModel_several_18 (by decide)) ?_
  refine lv_topi (fun v3 e_v3 => ?_)
  have hq := tc_nm hq e_v3
  refine lv_istore (lv' := [(4, .int v3), (3, .int v2), (2, .int v1), (0, .ref h), (1, .int (bI x1))]) hx hb d_ThumbCoreModel_several_21 hl (by decide) rfl (fun ls hl => ?_)
  refine lv_aload_n hx hb d_ThumbCoreModel_several_23 rfl (lv_at hl 3 rfl) ?_
  refine va_get (D := D) (ci := 5) (v := .ref h_reg) (C := R_ThumbCoreModel) (T := F_ThumbCoreModel) (N := 23) hx hb hts u_ThumbCoreModel hown hK hP 0 rfl rfl 2 (by decide) (hts _ wf_ThumbCoreModel_13) (fun _ h9 => h9) rfl d_ThumbCoreModel_several_24 ?_
  refine lv_iload_n hx hb d_ThumbCoreModel_several_27 rfl (lv_at hl 1 rfl) ?_
  refine va_iald hx hb hK hP 2 0 rfl rfl (tc_enF e_v2) d_ThumbCoreModel_several_28 ?_
  refine lv_topi (fun v4 e_v4 => ?_)
  have hq := tc_nm hq e_v4
  refine lv_istore (lv' := [(5, .int v4), (4, .int v3), (3, .int v2), (2, .int v1), (0, .ref h), (1, .int (bI x1))]) hx hb d_ThumbCoreModel_several_29 hl (by decide) rfl (fun ls hl => ?_)
  refine lv_iload_n hx hb d_ThumbCoreModel_several_31 rfl (lv_at hl 3 rfl) ?_
  refine lv_iload_n hx hb d_ThumbCoreModel_several_32 rfl (lv_at hl 2 rfl) ?_
  refine lv_ishr hx hb d_ThumbCoreModel_several_33 ?_
  refine lv_iconst (v := 1) hx hb d_ThumbCoreModel_several_34 (by decide) ?_
  refine lv_iand hx hb d_ThumbCoreModel_several_35 ?_
  refine lv_iconst (v := 1) hx hb d_ThumbCoreModel_several_36 (by decide) ?_
  refine lv_icmp_ne (tgt := 44) hx hb d_ThumbCoreModel_several_37 (by decide) (fun g_37 => ?_) (fun g_37 => ?_)
  · have hq := hq.trans (if_pos g_37)
    refine lv_iconst (v := 0) hx hb d_ThumbCoreModel_several_44 (by decide) ?_
    exact J_45 H locs ls c_bad c_memory c_reg x1 v1 v2 v3 v4 false hP hD hS (lv_sub hl [4, 5, 3, 2, 1, 0] rfl) hq (tc_enF e_v2)
  · have hq := hq.trans (if_neg (fun g => g g_37))
    refine lv_iconst (v := 1) hx hb d_ThumbCoreModel_several_40 (by decide) ?_
    refine lv_goto (tgt := 45) hx hb d_ThumbCoreModel_several_41 (by decide) ?_
    exact J_45 H locs ls c_bad c_memory c_reg x1 v1 v2 v3 v4 true hP hD hS (lv_sub hl [4, 5, 3, 2, 1, 0] rfl) hq (tc_enF e_v2)
abbrev rm_ThumbCoreModel_turned : Room := { frames := 1, cells := 0, slots := 0, locals := 24 }
set_option maxHeartbeats 4000000 in
set_option maxRecDepth 100000 in
theorem c_ThumbCoreModel_turned (l : Launch) (x1 : Int32) : Met l y_ThumbCoreModel_turned (.code y_ThumbCoreModel_turned b_ThumbCoreModel_turned 1 (some .int) :: tcb) rm_ThumbCoreModel_turned (va_Pc ([.int x1] : List Value) (fun _ => True)) (QcRead (f_ThumbCoreModel_turned x1)) 0 0 (fun _ => False) := by
  refine tc_st_i (by decide) (Nat.le_of_ble_eq_true rfl) ?_
  intro p e s m below meth c Q ls hx hb hml hts hown hl RET
  have hl : lv_has ls 1 [(0, .int x1)] := hl
  generalize hF : f_ThumbCoreModel_turned x1 = FF at RET
  have hq : FF = f_ThumbCoreModel_turned x1 := hF.symm
  refine lv_iload_n hx hb d_ThumbCoreModel_turned_0 rfl (lv_at hl 0 rfl) ?_
  refine lv_bipush (v := 24) hx hb d_ThumbCoreModel_turned_1 (by decide) ?_
  refine lv_ishl hx hb d_ThumbCoreModel_turned_3 ?_
  refine lv_iload_n hx hb d_ThumbCoreModel_turned_4 rfl (lv_at hl 0 rfl) ?_
  refine lv_ldc (v := 65280) hx hb hown (hts _ wk_ThumbCoreModel_150) d_ThumbCoreModel_turned_5 ?_
  refine lv_iand hx hb d_ThumbCoreModel_turned_7 ?_
  refine lv_bipush (v := 8) hx hb d_ThumbCoreModel_turned_8 (by decide) ?_
  refine lv_ishl hx hb d_ThumbCoreModel_turned_10 ?_
  refine lv_ior hx hb d_ThumbCoreModel_turned_11 ?_
  refine lv_iload_n hx hb d_ThumbCoreModel_turned_12 rfl (lv_at hl 0 rfl) ?_
  refine lv_bipush (v := 8) hx hb d_ThumbCoreModel_turned_13 (by decide) ?_
  refine lv_iushr (v := (o_iushr x1 8)) hx hb d_ThumbCoreModel_turned_15 rfl ?_
  refine lv_ldc (v := 65280) hx hb hown (hts _ wk_ThumbCoreModel_150) d_ThumbCoreModel_turned_16 ?_
  refine lv_iand hx hb d_ThumbCoreModel_turned_18 ?_
  refine lv_ior hx hb d_ThumbCoreModel_turned_19 ?_
  refine lv_iload_n hx hb d_ThumbCoreModel_turned_20 rfl (lv_at hl 0 rfl) ?_
  refine lv_bipush (v := 24) hx hb d_ThumbCoreModel_turned_21 (by decide) ?_
  refine lv_iushr (v := (o_iushr x1 24)) hx hb d_ThumbCoreModel_turned_23 rfl ?_
  refine lv_ior hx hb d_ThumbCoreModel_turned_24 ?_
  exact RET ls 25 d_ThumbCoreModel_turned_25 hq
abbrev rm_ThumbCoreModel_kinds : Room := { frames := 6, cells := 0, slots := 0, locals := 141 }
set_option maxHeartbeats 4000000 in
set_option maxRecDepth 100000 in
theorem c_ThumbCoreModel_kinds (l : Launch) (D : va_G) (cI cB cZ : ClassId) (h h_memory h_reg h_kept h_pending h_active h_priorities sz : Nat) (q_size : Int32) (c_n : Bool) (c_z : Bool) (c_c : Bool) (c_v : Bool) (c_keptFlags : Int32) (c_bad : Bool) (c_h : Int32) (c_after : Int32) (c_entered : Bool) (c_mask : Bool) (c_asleep : Bool) (c_lockup : Bool) (c_counts : Bool) (c_counter : Int32) (c_reload : Int32) (c_current : Int32) (c_memory : Nat → Int32) (c_reg : Nat → Int32) (c_kept : Nat → Int32) (c_pending : Nat → Bool) (c_active : Nat → Bool) (c_priorities : Nat → Int32) (hm : tc_memR q_size) (hi_c_current : vp_in c_current 16) : Met l y_ThumbCoreModel_kinds (.code y_ThumbCoreModel_kinds b_ThumbCoreModel_kinds 5 none :: tcb) rm_ThumbCoreModel_kinds (tc_Pw D tcl (tys cI cB cZ) (wd_ThumbCoreModel cI cB cZ h h_memory h_reg h_kept h_pending h_active h_priorities q_size c_n c_z c_c c_v c_keptFlags c_bad c_h c_after c_entered c_mask c_asleep c_lockup c_counts c_counter c_reload c_current c_memory c_reg c_kept c_pending c_active c_priorities) sz ([.ref h] : List Value) none) (tc_Qv D tcl (wd_ThumbCoreModel cI cB cZ h h_memory h_reg h_kept h_pending h_active h_priorities q_size c_n c_z c_c c_v c_keptFlags c_bad c_h c_after c_entered c_mask c_asleep c_lockup c_counts c_counter c_reload c_current c_memory c_reg c_kept c_pending c_active c_priorities) sz (fun u => (wd_ThumbCoreModel cI cB cZ h h_memory h_reg h_kept h_pending h_active h_priorities q_size u.1 u.2.1 u.2.2.1 u.2.2.2.1 c_keptFlags u.2.2.2.2.1 c_h u.2.2.2.2.2.1 c_entered u.2.2.2.2.2.2.1 u.2.2.2.2.2.2.2.1 c_lockup c_counts c_counter c_reload u.2.2.2.2.2.2.2.2.1 u.2.2.2.2.2.2.2.2.2.1 u.2.2.2.2.2.2.2.2.2.2.1 c_kept c_pending u.2.2.2.2.2.2.2.2.2.2.2 c_priorities)) (f_ThumbCoreModel_kinds q_size c_h c_n c_z c_c c_v c_bad c_after c_mask c_asleep c_current c_memory c_reg c_active)) 0 0 (va_A (wd_ThumbCoreModel cI cB cZ h h_memory h_reg h_kept h_pending h_active h_priorities q_size c_n c_z c_c c_v c_keptFlags c_bad c_h c_after c_entered c_mask c_asleep c_lockup c_counts c_counter c_reload c_current c_memory c_reg c_kept c_pending c_active c_priorities) sz) := by
  refine tc_mu_v (by decide) (Nat.le_of_ble_eq_true rfl) ?_
  intro p e s m below meth c A Q ls hx hb hml hts hown hK hN hP hD hA hZ hl RET
  have hS : va_S A s.heap s.heap [] := va_S.rf
  have hl : lv_has ls 5 [(0, .ref h)] := hl
  generalize hF : f_ThumbCoreModel_kinds q_size c_h c_n c_z c_c c_v c_bad c_after c_mask c_asleep c_current c_memory c_reg c_active = FF at RET
  have J_415 : ∀ (H : Heap) (locs : List Loc) (ls : Array Slot) (c_n : Bool) (c_z : Bool) (c_c : Bool) (c_v : Bool) (c_bad : Bool) (c_after : Int32) (c_mask : Bool) (c_asleep : Bool) (c_current : Int32) (c_memory : Nat → Int32) (c_reg : Nat → Int32) (c_active : Nat → Bool) (y1 : Int32) (y2 : Int32) (y3 : Int32), va_P D tcl (wd_ThumbCoreModel cI cB cZ h h_memory h_reg h_kept h_pending h_active h_priorities q_size c_n c_z c_c c_v c_keptFlags c_bad c_h c_after c_entered c_mask c_asleep c_lockup c_counts c_counter c_reload c_current c_memory c_reg c_kept c_pending c_active c_priorities) H → va_D A (wd_ThumbCoreModel cI cB cZ h h_memory h_reg h_kept h_pending h_active h_priorities q_size c_n c_z c_c c_v c_keptFlags c_bad c_h c_after c_entered c_mask c_asleep c_lockup c_counts c_counter c_reload c_current c_memory c_reg c_kept c_pending c_active c_priorities) → va_S A s.heap H locs → lv_has ls 5 [(0, .ref h), (1, .int y1), (2, .int y2), (3, .int y3)] → FF = k_ThumbCoreModel_kinds_415 q_size c_h c_n c_z c_c c_v c_bad c_after c_mask c_asleep c_current c_memory c_reg c_active y1 y2 y3 → (vp_in y1 16) → W p l e rm_ThumbCoreModel_kinds s m ([.ref h] : List Value).toArray below meth c H locs 0 0 Q (F0 m 415 ls []) := by
    intro H locs ls c_n c_z c_c c_v c_bad c_after c_mask c_asleep c_current c_memory c_reg c_active y1 y2 y3 hP hD hS hl hq hi_y1
    refine lv_aload_n hx hb d_ThumbCoreModel_kinds_415 rfl (lv_at hl 0 rfl) ?_
    refine va_get (D := D) (ci := 5) (v := .int (bI c_bad)) (C := R_ThumbCoreModel) (T := F_ThumbCoreModel) (N := 23) hx hb hts u_ThumbCoreModel hown hK hP 0 rfl rfl 9 (by decide) (hts _ wf_ThumbCoreModel_41) (fun _ h9 => h9) rfl d_ThumbCoreModel_kinds_416 ?_
    refine lv_if_ne (tgt := 462) hx hb d_ThumbCoreModel_kinds_419 (by decide) (fun g_419 => ?_) (fun g_419 => ?_)
    · have hq := hq.trans (if_pos g_419)
      exact RET H locs ls 462 (c_n, c_z, c_c, c_v, c_bad, c_after, c_mask, c_asleep, c_current, c_memory, c_reg, c_active) d_ThumbCoreModel_kinds_462 hP hD hS hq
    · have hq := hq.trans (if_neg (fun g => g g_419))
      refine lv_aload_n hx hb d_ThumbCoreModel_kinds_422 rfl (lv_at hl 0 rfl) ?_
      refine va_get (D := D) (ci := 5) (v := .int c_h) (C := R_ThumbCoreModel) (T := F_ThumbCoreModel) (N := 23) hx hb hts u_ThumbCoreModel hown hK hP 0 rfl rfl 10 (by decide) (hts _ wf_ThumbCoreModel_125) (fun _ h9 => h9) rfl d_ThumbCoreModel_kinds_423 ?_
      refine lv_bipush (v := 8) hx hb d_ThumbCoreModel_kinds_426 (by decide) ?_
      refine lv_ishr hx hb d_ThumbCoreModel_kinds_428 ?_
      refine lv_bipush (v := 15) hx hb d_ThumbCoreModel_kinds_429 (by decide) ?_
      refine lv_iand hx hb d_ThumbCoreModel_kinds_431 ?_
      refine lv_bipush (v := 10) hx hb d_ThumbCoreModel_kinds_432 (by decide) ?_
      refine lv_icmp_ne (tgt := 462) hx hb d_ThumbCoreModel_kinds_434 (by decide) (fun g_434 => ?_) (fun g_434 => ?_)
      · have hq := hq.trans (if_pos g_434)
        exact RET H locs ls 462 (c_n, c_z, c_c, c_v, c_bad, c_after, c_mask, c_asleep, c_current, c_memory, c_reg, c_active) d_ThumbCoreModel_kinds_462 hP hD hS hq
      · have hq := hq.trans (if_neg (fun g => g g_434))
        refine lv_iload_n hx hb d_ThumbCoreModel_kinds_437 rfl (lv_at hl 3 rfl) ?_
        refine lv_iconst (v := 3) hx hb d_ThumbCoreModel_kinds_438 (by decide) ?_
        refine lv_icmp_ne (tgt := 462) hx hb d_ThumbCoreModel_kinds_439 (by decide) (fun g_439 => ?_) (fun g_439 => ?_)
        · have hq := hq.trans (if_pos g_439)
          exact RET H locs ls 462 (c_n, c_z, c_c, c_v, c_bad, c_after, c_mask, c_asleep, c_current, c_memory, c_reg, c_active) d_ThumbCoreModel_kinds_462 hP hD hS hq
        · have hq := hq.trans (if_neg (fun g => g g_439))
          refine lv_aload_n hx hb d_ThumbCoreModel_kinds_442 rfl (lv_at hl 0 rfl) ?_
          refine va_get (D := D) (ci := 5) (v := .ref h_reg) (C := R_ThumbCoreModel) (T := F_ThumbCoreModel) (N := 23) hx hb hts u_ThumbCoreModel hown hK hP 0 rfl rfl 2 (by decide) (hts _ wf_ThumbCoreModel_13) (fun _ h9 => h9) rfl d_ThumbCoreModel_kinds_443 ?_
          refine lv_iload_n hx hb d_ThumbCoreModel_kinds_446 rfl (lv_at hl 1 rfl) ?_
          refine lv_iload_n hx hb d_ThumbCoreModel_kinds_447 rfl (lv_at hl 2 rfl) ?_
          refine lv_bipush (v := 8) hx hb d_ThumbCoreModel_kinds_448 (by decide) ?_
          refine lv_ishl hx hb d_ThumbCoreModel_kinds_450 ?_
          refine lv_iload_n hx hb d_ThumbCoreModel_kinds_451 rfl (lv_at hl 2 rfl) ?_
          refine lv_bipush (v := 8) hx hb d_ThumbCoreModel_kinds_452 (by decide) ?_
          refine lv_ishr hx hb d_ThumbCoreModel_kinds_454 ?_
          refine lv_sipush (v := 255) hx hb d_ThumbCoreModel_kinds_455 (by decide) ?_
          refine lv_iand hx hb d_ThumbCoreModel_kinds_458 ?_
          refine lv_ior hx hb d_ThumbCoreModel_kinds_459 ?_
          refine lv_i2s (v := ((o_ishl y2 8) ||| ((o_ishr y2 8) &&& 255)).toInt16.toInt32) hx hb d_ThumbCoreModel_kinds_460 rfl ?_
          refine va_iast hx hb hK hP hD hS 2 0 rfl rfl hi_y1 d_ThumbCoreModel_kinds_461 (fun H locs hP hD hS => ?_)
          have hP : va_P D tcl (wd_ThumbCoreModel cI cB cZ h h_memory h_reg h_kept h_pending h_active h_priorities q_size c_n c_z c_c c_v c_keptFlags c_bad c_h c_after c_entered c_mask c_asleep c_lockup c_counts c_counter c_reload c_current c_memory (upd c_reg y1.toNatClampNeg (((o_ishl y2 8) ||| ((o_ishr y2 8) &&& 255)).toInt16.toInt32)) c_kept c_pending c_active c_priorities) H := hP
          have hD : va_D A (wd_ThumbCoreModel cI cB cZ h h_memory h_reg h_kept h_pending h_active h_priorities q_size c_n c_z c_c c_v c_keptFlags c_bad c_h c_after c_entered c_mask c_asleep c_lockup c_counts c_counter c_reload c_current c_memory (upd c_reg y1.toNatClampNeg (((o_ishl y2 8) ||| ((o_ishr y2 8) &&& 255)).toInt16.toInt32)) c_kept c_pending c_active c_priorities) := hD
          exact RET H locs ls 462 (c_n, c_z, c_c, c_v, c_bad, c_after, c_mask, c_asleep, c_current, c_memory, (upd c_reg y1.toNatClampNeg (((o_ishl y2 8) ||| ((o_ishr y2 8) &&& 255)).toInt16.toInt32)), c_active) d_ThumbCoreModel_kinds_462 hP hD hS hq
  have J_157 : ∀ (H : Heap) (locs : List Loc) (ls : Array Slot) (c_n : Bool) (c_z : Bool) (c_c : Bool) (c_v : Bool) (c_bad : Bool) (c_after : Int32) (c_mask : Bool) (c_asleep : Bool) (c_current : Int32) (c_memory : Nat → Int32) (c_reg : Nat → Int32) (c_active : Nat → Bool) (y1 : Int32) (y2 : Int32) (y3 : Int32) (z2 : Int32) (z3 : Int32), va_P D tcl (wd_ThumbCoreModel cI cB cZ h h_memory h_reg h_kept h_pending h_active h_priorities q_size c_n c_z c_c c_v c_keptFlags c_bad c_h c_after c_entered c_mask c_asleep c_lockup c_counts c_counter c_reload c_current c_memory c_reg c_kept c_pending c_active c_priorities) H → va_D A (wd_ThumbCoreModel cI cB cZ h h_memory h_reg h_kept h_pending h_active h_priorities q_size c_n c_z c_c c_v c_keptFlags c_bad c_h c_after c_entered c_mask c_asleep c_lockup c_counts c_counter c_reload c_current c_memory c_reg c_kept c_pending c_active c_priorities) → va_S A s.heap H locs → lv_has ls 5 [(0, .ref h), (1, .int y1), (2, .int y2), (3, .int y3)] → FF = k_ThumbCoreModel_kinds_157 q_size c_h c_n c_z c_c c_v c_bad c_after c_mask c_asleep c_current c_memory c_reg c_active y1 y2 y3 z2 z3 → (vp_in y1 16) → W p l e rm_ThumbCoreModel_kinds s m ([.ref h] : List Value).toArray below meth c H locs 0 0 Q (F0 m 157 ls [.int z3, .int z2, .int 13, .ref h_reg]) := by
    intro H locs ls c_n c_z c_c c_v c_bad c_after c_mask c_asleep c_current c_memory c_reg c_active y1 y2 y3 z2 z3 hP hD hS hl hq hi_y1
    refine lv_iadd hx hb d_ThumbCoreModel_kinds_157 ?_
    refine va_iast hx hb hK hP hD hS 2 0 rfl rfl (by show ¬ (_ ∨ _); decide) d_ThumbCoreModel_kinds_158 (fun H locs hP hD hS => ?_)
    have hP : va_P D tcl (wd_ThumbCoreModel cI cB cZ h h_memory h_reg h_kept h_pending h_active h_priorities q_size c_n c_z c_c c_v c_keptFlags c_bad c_h c_after c_entered c_mask c_asleep c_lockup c_counts c_counter c_reload c_current c_memory (upd c_reg (13 : Int32).toNatClampNeg (z2 + z3)) c_kept c_pending c_active c_priorities) H := hP
    have hD : va_D A (wd_ThumbCoreModel cI cB cZ h h_memory h_reg h_kept h_pending h_active h_priorities q_size c_n c_z c_c c_v c_keptFlags c_bad c_h c_after c_entered c_mask c_asleep c_lockup c_counts c_counter c_reload c_current c_memory (upd c_reg (13 : Int32).toNatClampNeg (z2 + z3)) c_kept c_pending c_active c_priorities) := hD
    refine lv_goto (tgt := 415) hx hb d_ThumbCoreModel_kinds_159 (by decide) ?_
    exact J_415 H locs ls c_n c_z c_c c_v c_bad c_after c_mask c_asleep c_current c_memory (upd c_reg (13 : Int32).toNatClampNeg (z2 + z3)) c_active y1 y2 y3 hP hD hS (lv_sub hl [0, 1, 2, 3] rfl) hq hi_y1
  have J_203 : ∀ (H : Heap) (locs : List Loc) (ls : Array Slot) (c_n : Bool) (c_z : Bool) (c_c : Bool) (c_v : Bool) (c_bad : Bool) (c_after : Int32) (c_mask : Bool) (c_asleep : Bool) (c_current : Int32) (c_memory : Nat → Int32) (c_reg : Nat → Int32) (c_active : Nat → Bool) (y1 : Int32) (y2 : Int32) (y3 : Int32) (z1 : Int32) (z2 : Int32), va_P D tcl (wd_ThumbCoreModel cI cB cZ h h_memory h_reg h_kept h_pending h_active h_priorities q_size c_n c_z c_c c_v c_keptFlags c_bad c_h c_after c_entered c_mask c_asleep c_lockup c_counts c_counter c_reload c_current c_memory c_reg c_kept c_pending c_active c_priorities) H → va_D A (wd_ThumbCoreModel cI cB cZ h h_memory h_reg h_kept h_pending h_active h_priorities q_size c_n c_z c_c c_v c_keptFlags c_bad c_h c_after c_entered c_mask c_asleep c_lockup c_counts c_counter c_reload c_current c_memory c_reg c_kept c_pending c_active c_priorities) → va_S A s.heap H locs → lv_has ls 5 [(0, .ref h), (1, .int y1), (2, .int y2), (3, .int y3)] → FF = k_ThumbCoreModel_kinds_203 q_size c_h c_n c_z c_c c_v c_bad c_after c_mask c_asleep c_current c_memory c_reg c_active y1 y2 y3 z1 z2 → (vp_in y1 16) → (vp_in z1 16) → W p l e rm_ThumbCoreModel_kinds s m ([.ref h] : List Value).toArray below meth c H locs 0 0 Q (F0 m 203 ls [.int z2, .int z1, .ref h_reg]) := by
    intro H locs ls c_n c_z c_c c_v c_bad c_after c_mask c_asleep c_current c_memory c_reg c_active y1 y2 y3 z1 z2 hP hD hS hl hq hi_y1 hi_z1
    refine va_iast hx hb hK hP hD hS 2 0 rfl rfl hi_z1 d_ThumbCoreModel_kinds_203 (fun H locs hP hD hS => ?_)
    have hP : va_P D tcl (wd_ThumbCoreModel cI cB cZ h h_memory h_reg h_kept h_pending h_active h_priorities q_size c_n c_z c_c c_v c_keptFlags c_bad c_h c_after c_entered c_mask c_asleep c_lockup c_counts c_counter c_reload c_current c_memory (upd c_reg z1.toNatClampNeg z2) c_kept c_pending c_active c_priorities) H := hP
    have hD : va_D A (wd_ThumbCoreModel cI cB cZ h h_memory h_reg h_kept h_pending h_active h_priorities q_size c_n c_z c_c c_v c_keptFlags c_bad c_h c_after c_entered c_mask c_asleep c_lockup c_counts c_counter c_reload c_current c_memory (upd c_reg z1.toNatClampNeg z2) c_kept c_pending c_active c_priorities) := hD
    refine lv_goto (tgt := 415) hx hb d_ThumbCoreModel_kinds_204 (by decide) ?_
    exact J_415 H locs ls c_n c_z c_c c_v c_bad c_after c_mask c_asleep c_current c_memory (upd c_reg z1.toNatClampNeg z2) c_active y1 y2 y3 hP hD hS (lv_sub hl [0, 1, 2, 3] rfl) hq hi_y1
  have J_270 : ∀ (H : Heap) (locs : List Loc) (ls : Array Slot) (c_n : Bool) (c_z : Bool) (c_c : Bool) (c_v : Bool) (c_bad : Bool) (c_after : Int32) (c_mask : Bool) (c_asleep : Bool) (c_current : Int32) (c_memory : Nat → Int32) (c_reg : Nat → Int32) (c_active : Nat → Bool) (y1 : Int32) (y2 : Int32) (y3 : Int32) (z1 : Bool), va_P D tcl (wd_ThumbCoreModel cI cB cZ h h_memory h_reg h_kept h_pending h_active h_priorities q_size c_n c_z c_c c_v c_keptFlags c_bad c_h c_after c_entered c_mask c_asleep c_lockup c_counts c_counter c_reload c_current c_memory c_reg c_kept c_pending c_active c_priorities) H → va_D A (wd_ThumbCoreModel cI cB cZ h h_memory h_reg h_kept h_pending h_active h_priorities q_size c_n c_z c_c c_v c_keptFlags c_bad c_h c_after c_entered c_mask c_asleep c_lockup c_counts c_counter c_reload c_current c_memory c_reg c_kept c_pending c_active c_priorities) → va_S A s.heap H locs → lv_has ls 5 [(0, .ref h), (1, .int y1), (2, .int y2), (3, .int y3)] → FF = k_ThumbCoreModel_kinds_270 q_size c_h c_n c_z c_c c_v c_bad c_after c_mask c_asleep c_current c_memory c_reg c_active y1 y2 y3 z1 → (vp_in y1 16) → W p l e rm_ThumbCoreModel_kinds s m ([.ref h] : List Value).toArray below meth c H locs 0 0 Q (F0 m 270 ls [.int (bI z1), .ref h]) := by
    intro H locs ls c_n c_z c_c c_v c_bad c_after c_mask c_asleep c_current c_memory c_reg c_active y1 y2 y3 z1 hP hD hS hl hq hi_y1
    refine va_put (D := D) (ci := 5) (v := .int (bI z1)) (ty := .boolean) (C := R_ThumbCoreModel) (T := F_ThumbCoreModel) (N := 23) hx hb hts u_ThumbCoreModel t_ThumbCoreModel t_ThumbCoreModel_ok n_ThumbCoreModel hown hK hP hD hS 0 rfl rfl 13 (by decide) (hts _ wf_ThumbCoreModel_53) (fun _ h9 => h9) rfl (by decide +kernel) (tc_nb z1) (tc_fb z1) (Nat.le_of_ble_eq_true rfl) d_ThumbCoreModel_kinds_270 (fun H locs hP hD hS => ?_)
    have hP : va_P D tcl (wd_ThumbCoreModel cI cB cZ h h_memory h_reg h_kept h_pending h_active h_priorities q_size c_n c_z c_c c_v c_keptFlags c_bad c_h c_after c_entered z1 c_asleep c_lockup c_counts c_counter c_reload c_current c_memory c_reg c_kept c_pending c_active c_priorities) H := hP
    have hD : va_D A (wd_ThumbCoreModel cI cB cZ h h_memory h_reg h_kept h_pending h_active h_priorities q_size c_n c_z c_c c_v c_keptFlags c_bad c_h c_after c_entered z1 c_asleep c_lockup c_counts c_counter c_reload c_current c_memory c_reg c_kept c_pending c_active c_priorities) := hD
    refine lv_goto (tgt := 415) hx hb d_ThumbCoreModel_kinds_273 (by decide) ?_
    exact J_415 H locs ls c_n c_z c_c c_v c_bad c_after z1 c_asleep c_current c_memory c_reg c_active y1 y2 y3 hP hD hS (lv_sub hl [0, 1, 2, 3] rfl) hq hi_y1
  have J_238 : ∀ (H : Heap) (locs : List Loc) (ls : Array Slot) (c_n : Bool) (c_z : Bool) (c_c : Bool) (c_v : Bool) (c_bad : Bool) (c_after : Int32) (c_mask : Bool) (c_asleep : Bool) (c_current : Int32) (c_memory : Nat → Int32) (c_reg : Nat → Int32) (c_active : Nat → Bool) (y1 : Int32) (y2 : Int32) (y3 : Int32) (z1 : Bool), va_P D tcl (wd_ThumbCoreModel cI cB cZ h h_memory h_reg h_kept h_pending h_active h_priorities q_size c_n c_z c_c c_v c_keptFlags c_bad c_h c_after c_entered c_mask c_asleep c_lockup c_counts c_counter c_reload c_current c_memory c_reg c_kept c_pending c_active c_priorities) H → va_D A (wd_ThumbCoreModel cI cB cZ h h_memory h_reg h_kept h_pending h_active h_priorities q_size c_n c_z c_c c_v c_keptFlags c_bad c_h c_after c_entered c_mask c_asleep c_lockup c_counts c_counter c_reload c_current c_memory c_reg c_kept c_pending c_active c_priorities) → va_S A s.heap H locs → lv_has ls 5 [(0, .ref h), (1, .int y1), (2, .int y2), (3, .int y3)] → FF = k_ThumbCoreModel_kinds_238 q_size c_h c_n c_z c_c c_v c_bad c_after c_mask c_asleep c_current c_memory c_reg c_active y1 y2 y3 z1 → (vp_in y1 16) → W p l e rm_ThumbCoreModel_kinds s m ([.ref h] : List Value).toArray below meth c H locs 0 0 Q (F0 m 238 ls [.int (bI z1), .ref h]) := by
    intro H locs ls c_n c_z c_c c_v c_bad c_after c_mask c_asleep c_current c_memory c_reg c_active y1 y2 y3 z1 hP hD hS hl hq hi_y1
    refine va_put (D := D) (ci := 5) (v := .int (bI z1)) (ty := .boolean) (C := R_ThumbCoreModel) (T := F_ThumbCoreModel) (N := 23) hx hb hts u_ThumbCoreModel t_ThumbCoreModel t_ThumbCoreModel_ok n_ThumbCoreModel hown hK hP hD hS 0 rfl rfl 9 (by decide) (hts _ wf_ThumbCoreModel_41) (fun _ h9 => h9) rfl (by decide +kernel) (tc_nb z1) (tc_fb z1) (Nat.le_of_ble_eq_true rfl) d_ThumbCoreModel_kinds_238 (fun H locs hP hD hS => ?_)
    have hP : va_P D tcl (wd_ThumbCoreModel cI cB cZ h h_memory h_reg h_kept h_pending h_active h_priorities q_size c_n c_z c_c c_v c_keptFlags z1 c_h c_after c_entered c_mask c_asleep c_lockup c_counts c_counter c_reload c_current c_memory c_reg c_kept c_pending c_active c_priorities) H := hP
    have hD : va_D A (wd_ThumbCoreModel cI cB cZ h h_memory h_reg h_kept h_pending h_active h_priorities q_size c_n c_z c_c c_v c_keptFlags z1 c_h c_after c_entered c_mask c_asleep c_lockup c_counts c_counter c_reload c_current c_memory c_reg c_kept c_pending c_active c_priorities) := hD
    refine lv_aload_n hx hb d_ThumbCoreModel_kinds_241 rfl (lv_at hl 0 rfl) ?_
    refine lv_aload_n hx hb d_ThumbCoreModel_kinds_242 rfl (lv_at hl 0 rfl) ?_
    refine va_get (D := D) (ci := 5) (v := .int (bI z1)) (C := R_ThumbCoreModel) (T := F_ThumbCoreModel) (N := 23) hx hb hts u_ThumbCoreModel hown hK hP 0 rfl rfl 9 (by decide) (hts _ wf_ThumbCoreModel_41) (fun _ h9 => h9) rfl d_ThumbCoreModel_kinds_243 ?_
    refine lv_if_eq (tgt := 256) hx hb d_ThumbCoreModel_kinds_246 (by decide) (fun g_246 => ?_) (fun g_246 => ?_)
    · have hq := hq.trans (if_pos g_246)
      refine lv_aload_n hx hb d_ThumbCoreModel_kinds_256 rfl (lv_at hl 0 rfl) ?_
      refine va_get (D := D) (ci := 5) (v := .int c_h) (C := R_ThumbCoreModel) (T := F_ThumbCoreModel) (N := 23) hx hb hts u_ThumbCoreModel hown hK hP 0 rfl rfl 10 (by decide) (hts _ wf_ThumbCoreModel_125) (fun _ h9 => h9) rfl d_ThumbCoreModel_kinds_257 ?_
      refine lv_ldc (v := 46706) hx hb hown (hts _ wk_ThumbCoreModel_156) d_ThumbCoreModel_kinds_260 ?_
      refine lv_icmp_ne (tgt := 269) hx hb d_ThumbCoreModel_kinds_262 (by decide) (fun g_262 => ?_) (fun g_262 => ?_)
      · have hq := hq.trans (if_pos g_262)
        refine lv_iconst (v := 0) hx hb d_ThumbCoreModel_kinds_269 (by decide) ?_
        exact J_270 H locs ls c_n c_z c_c c_v z1 c_after c_mask c_asleep c_current c_memory c_reg c_active y1 y2 y3 false hP hD hS (lv_sub hl [0, 1, 2, 3] rfl) hq hi_y1
      · have hq := hq.trans (if_neg (fun g => g g_262))
        refine lv_iconst (v := 1) hx hb d_ThumbCoreModel_kinds_265 (by decide) ?_
        refine lv_goto (tgt := 270) hx hb d_ThumbCoreModel_kinds_266 (by decide) ?_
        exact J_270 H locs ls c_n c_z c_c c_v z1 c_after c_mask c_asleep c_current c_memory c_reg c_active y1 y2 y3 true hP hD hS (lv_sub hl [0, 1, 2, 3] rfl) hq hi_y1
    · have hq := hq.trans (if_neg g_246)
      refine lv_aload_n hx hb d_ThumbCoreModel_kinds_249 rfl (lv_at hl 0 rfl) ?_
      refine va_get (D := D) (ci := 5) (v := .int (bI c_mask)) (C := R_ThumbCoreModel) (T := F_ThumbCoreModel) (N := 23) hx hb hts u_ThumbCoreModel hown hK hP 0 rfl rfl 13 (by decide) (hts _ wf_ThumbCoreModel_53) (fun _ h9 => h9) rfl d_ThumbCoreModel_kinds_250 ?_
      refine lv_goto (tgt := 270) hx hb d_ThumbCoreModel_kinds_253 (by decide) ?_
      exact J_270 H locs ls c_n c_z c_c c_v z1 c_after c_mask c_asleep c_current c_memory c_reg c_active y1 y2 y3 c_mask hP hD hS (lv_sub hl [0, 1, 2, 3] rfl) hq hi_y1
  have J_237 : ∀ (H : Heap) (locs : List Loc) (ls : Array Slot) (c_n : Bool) (c_z : Bool) (c_c : Bool) (c_v : Bool) (c_bad : Bool) (c_after : Int32) (c_mask : Bool) (c_asleep : Bool) (c_current : Int32) (c_memory : Nat → Int32) (c_reg : Nat → Int32) (c_active : Nat → Bool) (y1 : Int32) (y2 : Int32) (y3 : Int32), va_P D tcl (wd_ThumbCoreModel cI cB cZ h h_memory h_reg h_kept h_pending h_active h_priorities q_size c_n c_z c_c c_v c_keptFlags c_bad c_h c_after c_entered c_mask c_asleep c_lockup c_counts c_counter c_reload c_current c_memory c_reg c_kept c_pending c_active c_priorities) H → va_D A (wd_ThumbCoreModel cI cB cZ h h_memory h_reg h_kept h_pending h_active h_priorities q_size c_n c_z c_c c_v c_keptFlags c_bad c_h c_after c_entered c_mask c_asleep c_lockup c_counts c_counter c_reload c_current c_memory c_reg c_kept c_pending c_active c_priorities) → va_S A s.heap H locs → lv_has ls 5 [(0, .ref h), (1, .int y1), (2, .int y2), (3, .int y3)] → FF = k_ThumbCoreModel_kinds_237 q_size c_h c_n c_z c_c c_v c_bad c_after c_mask c_asleep c_current c_memory c_reg c_active y1 y2 y3 → (vp_in y1 16) → W p l e rm_ThumbCoreModel_kinds s m ([.ref h] : List Value).toArray below meth c H locs 0 0 Q (F0 m 237 ls [.ref h]) := by
    intro H locs ls c_n c_z c_c c_v c_bad c_after c_mask c_asleep c_current c_memory c_reg c_active y1 y2 y3 hP hD hS hl hq hi_y1
    refine lv_iconst (v := 0) hx hb d_ThumbCoreModel_kinds_237 (by decide) ?_
    exact J_238 H locs ls c_n c_z c_c c_v c_bad c_after c_mask c_asleep c_current c_memory c_reg c_active y1 y2 y3 false hP hD hS (lv_sub hl [0, 1, 2, 3] rfl) hq hi_y1
  have J_350 : ∀ (H : Heap) (locs : List Loc) (ls : Array Slot) (c_n : Bool) (c_z : Bool) (c_c : Bool) (c_v : Bool) (c_bad : Bool) (c_after : Int32) (c_mask : Bool) (c_asleep : Bool) (c_current : Int32) (c_memory : Nat → Int32) (c_reg : Nat → Int32) (c_active : Nat → Bool) (y1 : Int32) (y2 : Int32) (y3 : Int32) (z1 : Int32) (z2 : Int32), va_P D tcl (wd_ThumbCoreModel cI cB cZ h h_memory h_reg h_kept h_pending h_active h_priorities q_size c_n c_z c_c c_v c_keptFlags c_bad c_h c_after c_entered c_mask c_asleep c_lockup c_counts c_counter c_reload c_current c_memory c_reg c_kept c_pending c_active c_priorities) H → va_D A (wd_ThumbCoreModel cI cB cZ h h_memory h_reg h_kept h_pending h_active h_priorities q_size c_n c_z c_c c_v c_keptFlags c_bad c_h c_after c_entered c_mask c_asleep c_lockup c_counts c_counter c_reload c_current c_memory c_reg c_kept c_pending c_active c_priorities) → va_S A s.heap H locs → lv_has ls 5 [(0, .ref h), (1, .int y1), (2, .int y2), (3, .int y3)] → FF = k_ThumbCoreModel_kinds_350 q_size c_h c_n c_z c_c c_v c_bad c_after c_mask c_asleep c_current c_memory c_reg c_active y1 y2 y3 z1 z2 → (vp_in y1 16) → (vp_in z1 16) → W p l e rm_ThumbCoreModel_kinds s m ([.ref h] : List Value).toArray below meth c H locs 0 0 Q (F0 m 350 ls [.int z2, .int z1, .ref h_reg]) := by
    intro H locs ls c_n c_z c_c c_v c_bad c_after c_mask c_asleep c_current c_memory c_reg c_active y1 y2 y3 z1 z2 hP hD hS hl hq hi_y1 hi_z1
    refine va_iast hx hb hK hP hD hS 2 0 rfl rfl hi_z1 d_ThumbCoreModel_kinds_350 (fun H locs hP hD hS => ?_)
    have hP : va_P D tcl (wd_ThumbCoreModel cI cB cZ h h_memory h_reg h_kept h_pending h_active h_priorities q_size c_n c_z c_c c_v c_keptFlags c_bad c_h c_after c_entered c_mask c_asleep c_lockup c_counts c_counter c_reload c_current c_memory (upd c_reg z1.toNatClampNeg z2) c_kept c_pending c_active c_priorities) H := hP
    have hD : va_D A (wd_ThumbCoreModel cI cB cZ h h_memory h_reg h_kept h_pending h_active h_priorities q_size c_n c_z c_c c_v c_keptFlags c_bad c_h c_after c_entered c_mask c_asleep c_lockup c_counts c_counter c_reload c_current c_memory (upd c_reg z1.toNatClampNeg z2) c_kept c_pending c_active c_priorities) := hD
    refine lv_goto (tgt := 415) hx hb d_ThumbCoreModel_kinds_351 (by decide) ?_
    exact J_415 H locs ls c_n c_z c_c c_v c_bad c_after c_mask c_asleep c_current c_memory (upd c_reg z1.toNatClampNeg z2) c_active y1 y2 y3 hP hD hS (lv_sub hl [0, 1, 2, 3] rfl) hq hi_y1
  have J_287 : ∀ (H : Heap) (locs : List Loc) (ls : Array Slot) (c_n : Bool) (c_z : Bool) (c_c : Bool) (c_v : Bool) (c_bad : Bool) (c_after : Int32) (c_mask : Bool) (c_asleep : Bool) (c_current : Int32) (c_memory : Nat → Int32) (c_reg : Nat → Int32) (c_active : Nat → Bool) (y1 : Int32) (y2 : Int32) (y3 : Int32) (z1 : Bool), va_P D tcl (wd_ThumbCoreModel cI cB cZ h h_memory h_reg h_kept h_pending h_active h_priorities q_size c_n c_z c_c c_v c_keptFlags c_bad c_h c_after c_entered c_mask c_asleep c_lockup c_counts c_counter c_reload c_current c_memory c_reg c_kept c_pending c_active c_priorities) H → va_D A (wd_ThumbCoreModel cI cB cZ h h_memory h_reg h_kept h_pending h_active h_priorities q_size c_n c_z c_c c_v c_keptFlags c_bad c_h c_after c_entered c_mask c_asleep c_lockup c_counts c_counter c_reload c_current c_memory c_reg c_kept c_pending c_active c_priorities) → va_S A s.heap H locs → lv_has ls 5 [(0, .ref h), (1, .int y1), (2, .int y2), (3, .int y3)] → FF = k_ThumbCoreModel_kinds_287 q_size c_h c_n c_z c_c c_v c_bad c_after c_mask c_asleep c_current c_memory c_reg c_active y1 y2 y3 z1 → (vp_in y1 16) → W p l e rm_ThumbCoreModel_kinds s m ([.ref h] : List Value).toArray below meth c H locs 0 0 Q (F0 m 287 ls [.int (bI z1), .ref h]) := by
    intro H locs ls c_n c_z c_c c_v c_bad c_after c_mask c_asleep c_current c_memory c_reg c_active y1 y2 y3 z1 hP hD hS hl hq hi_y1
    refine va_put (D := D) (ci := 5) (v := .int (bI z1)) (ty := .boolean) (C := R_ThumbCoreModel) (T := F_ThumbCoreModel) (N := 23) hx hb hts u_ThumbCoreModel t_ThumbCoreModel t_ThumbCoreModel_ok n_ThumbCoreModel hown hK hP hD hS 0 rfl rfl 9 (by decide) (hts _ wf_ThumbCoreModel_41) (fun _ h9 => h9) rfl (by decide +kernel) (tc_nb z1) (tc_fb z1) (Nat.le_of_ble_eq_true rfl) d_ThumbCoreModel_kinds_287 (fun H locs hP hD hS => ?_)
    have hP : va_P D tcl (wd_ThumbCoreModel cI cB cZ h h_memory h_reg h_kept h_pending h_active h_priorities q_size c_n c_z c_c c_v c_keptFlags z1 c_h c_after c_entered c_mask c_asleep c_lockup c_counts c_counter c_reload c_current c_memory c_reg c_kept c_pending c_active c_priorities) H := hP
    have hD : va_D A (wd_ThumbCoreModel cI cB cZ h h_memory h_reg h_kept h_pending h_active h_priorities q_size c_n c_z c_c c_v c_keptFlags z1 c_h c_after c_entered c_mask c_asleep c_lockup c_counts c_counter c_reload c_current c_memory c_reg c_kept c_pending c_active c_priorities) := hD
    refine lv_iload_n hx hb d_ThumbCoreModel_kinds_290 rfl (lv_at hl 2 rfl) ?_
    refine tc_rd (va_runS (As := [.int y2]) (rest := []) ⟨hx, hb, hml, hown, hts⟩ (c_ThumbCoreModel_turned l y2) (va_cwS 1 hts (tc_gS wl_ThumbCoreModel_157 wt_ThumbCoreModel_turned wi_ThumbCoreModel wc_ThumbCoreModel_turned) rfl rfl rfl (by decide +kernel) ⟨Nat.le_of_ble_eq_true rfl, Nat.le_of_ble_eq_true rfl⟩) tc_preS rfl rfl hl.1 rfl (lv_room (Nat.le_of_ble_eq_true rfl)) d_ThumbCoreModel_kinds_291 (by decide)) ?_
    refine lv_topi (fun v1 e_v1 => ?_)
    have hq := tc_nm hq e_v1
    refine lv_istore (lv' := [(4, .int v1), (0, .ref h), (1, .int y1), (2, .int y2), (3, .int y3)]) hx hb d_ThumbCoreModel_kinds_294 hl (by decide) rfl (fun ls hl => ?_)
    refine lv_aload_n hx hb d_ThumbCoreModel_kinds_296 rfl (lv_at hl 1 rfl) ?_
    refine va_get (D := D) (ci := 5) (v := .ref h_reg) (C := R_ThumbCoreModel) (T := F_ThumbCoreModel) (N := 23) hx hb hts u_ThumbCoreModel hown hK hP 0 rfl rfl 2 (by decide) (hts _ wf_ThumbCoreModel_13) (fun _ h9 => h9) rfl d_ThumbCoreModel_kinds_297 ?_
    refine lv_iload_n hx hb d_ThumbCoreModel_kinds_300 rfl (lv_at hl 2 rfl) ?_
    refine lv_aload_n hx hb d_ThumbCoreModel_kinds_301 rfl (lv_at hl 1 rfl) ?_
    refine va_get (D := D) (ci := 5) (v := .int (bI z1)) (C := R_ThumbCoreModel) (T := F_ThumbCoreModel) (N := 23) hx hb hts u_ThumbCoreModel hown hK hP 0 rfl rfl 9 (by decide) (hts _ wf_ThumbCoreModel_41) (fun _ h9 => h9) rfl d_ThumbCoreModel_kinds_302 ?_
    refine lv_if_eq (tgt := 317) hx hb d_ThumbCoreModel_kinds_305 (by decide) (fun g_305 => ?_) (fun g_305 => ?_)
    · have hq := hq.trans (if_pos g_305)
      refine lv_iload_n hx hb d_ThumbCoreModel_kinds_317 rfl (lv_at hl 4 rfl) ?_
      refine lv_if_ne (tgt := 326) hx hb d_ThumbCoreModel_kinds_318 (by decide) (fun g_318 => ?_) (fun g_318 => ?_)
      · have hq := hq.trans (if_pos g_318)
        refine lv_iload_n hx hb d_ThumbCoreModel_kinds_326 rfl (lv_at hl 4 rfl) ?_
        refine lv_iconst (v := 1) hx hb d_ThumbCoreModel_kinds_327 (by decide) ?_
        refine lv_icmp_ne (tgt := 345) hx hb d_ThumbCoreModel_kinds_328 (by decide) (fun g_328 => ?_) (fun g_328 => ?_)
        · have hq := hq.trans (if_pos g_328)
          refine lv_iload hx hb d_ThumbCoreModel_kinds_345 (lv_at hl 0 rfl) ?_
          refine lv_bipush (v := 16) hx hb d_ThumbCoreModel_kinds_347 (by decide) ?_
          refine lv_ishr hx hb d_ThumbCoreModel_kinds_349 ?_
          exact J_350 H locs ls c_n c_z c_c c_v z1 c_after c_mask c_asleep c_current c_memory c_reg c_active y1 y2 y3 y1 (o_ishr v1 16) hP hD hS (lv_sub hl [1, 2, 3, 4] rfl) hq hi_y1 hi_y1
        · have hq := hq.trans (if_neg (fun g => g g_328))
          refine lv_iload hx hb d_ThumbCoreModel_kinds_331 (lv_at hl 0 rfl) ?_
          refine lv_bipush (v := 16) hx hb d_ThumbCoreModel_kinds_333 (by decide) ?_
          refine lv_ishl hx hb d_ThumbCoreModel_kinds_335 ?_
          refine lv_iload hx hb d_ThumbCoreModel_kinds_336 (lv_at hl 0 rfl) ?_
          refine lv_bipush (v := 16) hx hb d_ThumbCoreModel_kinds_338 (by decide) ?_
          refine lv_iushr (v := (o_iushr v1 16)) hx hb d_ThumbCoreModel_kinds_340 rfl ?_
          refine lv_ior hx hb d_ThumbCoreModel_kinds_341 ?_
          refine lv_goto (tgt := 350) hx hb d_ThumbCoreModel_kinds_342 (by decide) ?_
          exact J_350 H locs ls c_n c_z c_c c_v z1 c_after c_mask c_asleep c_current c_memory c_reg c_active y1 y2 y3 y1 ((o_ishl v1 16) ||| (o_iushr v1 16)) hP hD hS (lv_sub hl [1, 2, 3, 4] rfl) hq hi_y1 hi_y1
      · have hq := hq.trans (if_neg (fun g => g g_318))
        refine lv_iload hx hb d_ThumbCoreModel_kinds_321 (lv_at hl 0 rfl) ?_
        refine lv_goto (tgt := 350) hx hb d_ThumbCoreModel_kinds_323 (by decide) ?_
        exact J_350 H locs ls c_n c_z c_c c_v z1 c_after c_mask c_asleep c_current c_memory c_reg c_active y1 y2 y3 y1 v1 hP hD hS (lv_sub hl [1, 2, 3, 4] rfl) hq hi_y1 hi_y1
    · have hq := hq.trans (if_neg g_305)
      refine lv_aload_n hx hb d_ThumbCoreModel_kinds_308 rfl (lv_at hl 1 rfl) ?_
      refine va_get (D := D) (ci := 5) (v := .ref h_reg) (C := R_ThumbCoreModel) (T := F_ThumbCoreModel) (N := 23) hx hb hts u_ThumbCoreModel hown hK hP 0 rfl rfl 2 (by decide) (hts _ wf_ThumbCoreModel_13) (fun _ h9 => h9) rfl d_ThumbCoreModel_kinds_309 ?_
      refine lv_iload_n hx hb d_ThumbCoreModel_kinds_312 rfl (lv_at hl 2 rfl) ?_
      refine va_iald hx hb hK hP 2 0 rfl rfl hi_y1 d_ThumbCoreModel_kinds_313 ?_
      refine lv_goto (tgt := 350) hx hb d_ThumbCoreModel_kinds_314 (by decide) ?_
      exact J_350 H locs ls c_n c_z c_c c_v z1 c_after c_mask c_asleep c_current c_memory c_reg c_active y1 y2 y3 y1 (c_reg y1.toNatClampNeg) hP hD hS (lv_sub hl [1, 2, 3, 4] rfl) hq hi_y1 hi_y1
  have J_404 : ∀ (H : Heap) (locs : List Loc) (ls : Array Slot) (c_n : Bool) (c_z : Bool) (c_c : Bool) (c_v : Bool) (c_bad : Bool) (c_after : Int32) (c_mask : Bool) (c_asleep : Bool) (c_current : Int32) (c_memory : Nat → Int32) (c_reg : Nat → Int32) (c_active : Nat → Bool) (y1 : Int32) (y2 : Int32) (y3 : Int32) (z1 : Bool), va_P D tcl (wd_ThumbCoreModel cI cB cZ h h_memory h_reg h_kept h_pending h_active h_priorities q_size c_n c_z c_c c_v c_keptFlags c_bad c_h c_after c_entered c_mask c_asleep c_lockup c_counts c_counter c_reload c_current c_memory c_reg c_kept c_pending c_active c_priorities) H → va_D A (wd_ThumbCoreModel cI cB cZ h h_memory h_reg h_kept h_pending h_active h_priorities q_size c_n c_z c_c c_v c_keptFlags c_bad c_h c_after c_entered c_mask c_asleep c_lockup c_counts c_counter c_reload c_current c_memory c_reg c_kept c_pending c_active c_priorities) → va_S A s.heap H locs → lv_has ls 5 [(0, .ref h), (1, .int y1), (2, .int y2), (3, .int y3)] → FF = k_ThumbCoreModel_kinds_404 q_size c_h c_n c_z c_c c_v c_bad c_after c_mask c_asleep c_current c_memory c_reg c_active y1 y2 y3 z1 → (vp_in y1 16) → W p l e rm_ThumbCoreModel_kinds s m ([.ref h] : List Value).toArray below meth c H locs 0 0 Q (F0 m 404 ls [.int (bI z1), .ref h]) := by
    intro H locs ls c_n c_z c_c c_v c_bad c_after c_mask c_asleep c_current c_memory c_reg c_active y1 y2 y3 z1 hP hD hS hl hq hi_y1
    refine va_put (D := D) (ci := 5) (v := .int (bI z1)) (ty := .boolean) (C := R_ThumbCoreModel) (T := F_ThumbCoreModel) (N := 23) hx hb hts u_ThumbCoreModel t_ThumbCoreModel t_ThumbCoreModel_ok n_ThumbCoreModel hown hK hP hD hS 0 rfl rfl 14 (by decide) (hts _ wf_ThumbCoreModel_56) (fun _ h9 => h9) rfl (by decide +kernel) (tc_nb z1) (tc_fb z1) (Nat.le_of_ble_eq_true rfl) d_ThumbCoreModel_kinds_404 (fun H locs hP hD hS => ?_)
    have hP : va_P D tcl (wd_ThumbCoreModel cI cB cZ h h_memory h_reg h_kept h_pending h_active h_priorities q_size c_n c_z c_c c_v c_keptFlags c_bad c_h c_after c_entered c_mask z1 c_lockup c_counts c_counter c_reload c_current c_memory c_reg c_kept c_pending c_active c_priorities) H := hP
    have hD : va_D A (wd_ThumbCoreModel cI cB cZ h h_memory h_reg h_kept h_pending h_active h_priorities q_size c_n c_z c_c c_v c_keptFlags c_bad c_h c_after c_entered c_mask z1 c_lockup c_counts c_counter c_reload c_current c_memory c_reg c_kept c_pending c_active c_priorities) := hD
    refine lv_goto (tgt := 415) hx hb d_ThumbCoreModel_kinds_407 (by decide) ?_
    exact J_415 H locs ls c_n c_z c_c c_v c_bad c_after c_mask z1 c_current c_memory c_reg c_active y1 y2 y3 hP hD hS (lv_sub hl [0, 1, 2, 3] rfl) hq hi_y1
  have J_386 : ∀ (H : Heap) (locs : List Loc) (ls : Array Slot) (c_n : Bool) (c_z : Bool) (c_c : Bool) (c_v : Bool) (c_bad : Bool) (c_after : Int32) (c_mask : Bool) (c_asleep : Bool) (c_current : Int32) (c_memory : Nat → Int32) (c_reg : Nat → Int32) (c_active : Nat → Bool) (y1 : Int32) (y2 : Int32) (y3 : Int32) (z1 : Bool), va_P D tcl (wd_ThumbCoreModel cI cB cZ h h_memory h_reg h_kept h_pending h_active h_priorities q_size c_n c_z c_c c_v c_keptFlags c_bad c_h c_after c_entered c_mask c_asleep c_lockup c_counts c_counter c_reload c_current c_memory c_reg c_kept c_pending c_active c_priorities) H → va_D A (wd_ThumbCoreModel cI cB cZ h h_memory h_reg h_kept h_pending h_active h_priorities q_size c_n c_z c_c c_v c_keptFlags c_bad c_h c_after c_entered c_mask c_asleep c_lockup c_counts c_counter c_reload c_current c_memory c_reg c_kept c_pending c_active c_priorities) → va_S A s.heap H locs → lv_has ls 5 [(0, .ref h), (1, .int y1), (2, .int y2), (3, .int y3)] → FF = k_ThumbCoreModel_kinds_386 q_size c_h c_n c_z c_c c_v c_bad c_after c_mask c_asleep c_current c_memory c_reg c_active y1 y2 y3 z1 → (vp_in y1 16) → W p l e rm_ThumbCoreModel_kinds s m ([.ref h] : List Value).toArray below meth c H locs 0 0 Q (F0 m 386 ls [.int (bI z1), .ref h]) := by
    intro H locs ls c_n c_z c_c c_v c_bad c_after c_mask c_asleep c_current c_memory c_reg c_active y1 y2 y3 z1 hP hD hS hl hq hi_y1
    refine va_put (D := D) (ci := 5) (v := .int (bI z1)) (ty := .boolean) (C := R_ThumbCoreModel) (T := F_ThumbCoreModel) (N := 23) hx hb hts u_ThumbCoreModel t_ThumbCoreModel t_ThumbCoreModel_ok n_ThumbCoreModel hown hK hP hD hS 0 rfl rfl 9 (by decide) (hts _ wf_ThumbCoreModel_41) (fun _ h9 => h9) rfl (by decide +kernel) (tc_nb z1) (tc_fb z1) (Nat.le_of_ble_eq_true rfl) d_ThumbCoreModel_kinds_386 (fun H locs hP hD hS => ?_)
    have hP : va_P D tcl (wd_ThumbCoreModel cI cB cZ h h_memory h_reg h_kept h_pending h_active h_priorities q_size c_n c_z c_c c_v c_keptFlags z1 c_h c_after c_entered c_mask c_asleep c_lockup c_counts c_counter c_reload c_current c_memory c_reg c_kept c_pending c_active c_priorities) H := hP
    have hD : va_D A (wd_ThumbCoreModel cI cB cZ h h_memory h_reg h_kept h_pending h_active h_priorities q_size c_n c_z c_c c_v c_keptFlags z1 c_h c_after c_entered c_mask c_asleep c_lockup c_counts c_counter c_reload c_current c_memory c_reg c_kept c_pending c_active c_priorities) := hD
    refine lv_aload_n hx hb d_ThumbCoreModel_kinds_389 rfl (lv_at hl 0 rfl) ?_
    refine lv_aload_n hx hb d_ThumbCoreModel_kinds_390 rfl (lv_at hl 0 rfl) ?_
    refine va_get (D := D) (ci := 5) (v := .int c_h) (C := R_ThumbCoreModel) (T := F_ThumbCoreModel) (N := 23) hx hb hts u_ThumbCoreModel hown hK hP 0 rfl rfl 10 (by decide) (hts _ wf_ThumbCoreModel_125) (fun _ h9 => h9) rfl d_ThumbCoreModel_kinds_391 ?_
    refine lv_ldc (v := 48944) hx hb hown (hts _ wk_ThumbCoreModel_163) d_ThumbCoreModel_kinds_394 ?_
    refine lv_icmp_ne (tgt := 403) hx hb d_ThumbCoreModel_kinds_396 (by decide) (fun g_396 => ?_) (fun g_396 => ?_)
    · have hq := hq.trans (if_pos g_396)
      refine lv_iconst (v := 0) hx hb d_ThumbCoreModel_kinds_403 (by decide) ?_
      exact J_404 H locs ls c_n c_z c_c c_v z1 c_after c_mask c_asleep c_current c_memory c_reg c_active y1 y2 y3 false hP hD hS (lv_sub hl [0, 1, 2, 3] rfl) hq hi_y1
    · have hq := hq.trans (if_neg (fun g => g g_396))
      refine lv_iconst (v := 1) hx hb d_ThumbCoreModel_kinds_399 (by decide) ?_
      refine lv_goto (tgt := 404) hx hb d_ThumbCoreModel_kinds_400 (by decide) ?_
      exact J_404 H locs ls c_n c_z c_c c_v z1 c_after c_mask c_asleep c_current c_memory c_reg c_active y1 y2 y3 true hP hD hS (lv_sub hl [0, 1, 2, 3] rfl) hq hi_y1
  have J_385 : ∀ (H : Heap) (locs : List Loc) (ls : Array Slot) (c_n : Bool) (c_z : Bool) (c_c : Bool) (c_v : Bool) (c_bad : Bool) (c_after : Int32) (c_mask : Bool) (c_asleep : Bool) (c_current : Int32) (c_memory : Nat → Int32) (c_reg : Nat → Int32) (c_active : Nat → Bool) (y1 : Int32) (y2 : Int32) (y3 : Int32), va_P D tcl (wd_ThumbCoreModel cI cB cZ h h_memory h_reg h_kept h_pending h_active h_priorities q_size c_n c_z c_c c_v c_keptFlags c_bad c_h c_after c_entered c_mask c_asleep c_lockup c_counts c_counter c_reload c_current c_memory c_reg c_kept c_pending c_active c_priorities) H → va_D A (wd_ThumbCoreModel cI cB cZ h h_memory h_reg h_kept h_pending h_active h_priorities q_size c_n c_z c_c c_v c_keptFlags c_bad c_h c_after c_entered c_mask c_asleep c_lockup c_counts c_counter c_reload c_current c_memory c_reg c_kept c_pending c_active c_priorities) → va_S A s.heap H locs → lv_has ls 5 [(0, .ref h), (1, .int y1), (2, .int y2), (3, .int y3)] → FF = k_ThumbCoreModel_kinds_385 q_size c_h c_n c_z c_c c_v c_bad c_after c_mask c_asleep c_current c_memory c_reg c_active y1 y2 y3 → (vp_in y1 16) → W p l e rm_ThumbCoreModel_kinds s m ([.ref h] : List Value).toArray below meth c H locs 0 0 Q (F0 m 385 ls [.ref h]) := by
    intro H locs ls c_n c_z c_c c_v c_bad c_after c_mask c_asleep c_current c_memory c_reg c_active y1 y2 y3 hP hD hS hl hq hi_y1
    refine lv_iconst (v := 0) hx hb d_ThumbCoreModel_kinds_385 (by decide) ?_
    exact J_386 H locs ls c_n c_z c_c c_v c_bad c_after c_mask c_asleep c_current c_memory c_reg c_active y1 y2 y3 false hP hD hS (lv_sub hl [0, 1, 2, 3] rfl) hq hi_y1
  have hq : FF = f_ThumbCoreModel_kinds q_size c_h c_n c_z c_c c_v c_bad c_after c_mask c_asleep c_current c_memory c_reg c_active := hF.symm
  revert hP hD hS
  suffices G : ∀ (H : Heap) (locs : List Loc), va_P D tcl (wd_ThumbCoreModel cI cB cZ h h_memory h_reg h_kept h_pending h_active h_priorities q_size c_n c_z c_c c_v c_keptFlags c_bad c_h c_after c_entered c_mask c_asleep c_lockup c_counts c_counter c_reload c_current c_memory c_reg c_kept c_pending c_active c_priorities) H → va_D A (wd_ThumbCoreModel cI cB cZ h h_memory h_reg h_kept h_pending h_active h_priorities q_size c_n c_z c_c c_v c_keptFlags c_bad c_h c_after c_entered c_mask c_asleep c_lockup c_counts c_counter c_reload c_current c_memory c_reg c_kept c_pending c_active c_priorities) → va_S A s.heap H locs → W p l e rm_ThumbCoreModel_kinds s m ([.ref h] : List Value).toArray below meth c H locs 0 0 Q (F0 m 0 ls []) from fun hP hD hS => G _ _ hP hD hS
  intro H locs hP hD hS
  refine lv_aload_n hx hb d_ThumbCoreModel_kinds_0 rfl (lv_at hl 0 rfl) ?_
  refine lv_iconst (v := 0) hx hb d_ThumbCoreModel_kinds_1 (by decide) ?_
  refine tc_rd (va_runV (As := [.int 0]) (rest := []) ⟨hx, hb, hml, hown, hts⟩ (c_ThumbCoreModel_field l D cI cB cZ h h_memory h_reg h_kept h_pending h_active h_priorities H.size q_size c_n c_z c_c c_v c_keptFlags c_bad c_h c_after c_entered c_mask c_asleep c_lockup c_counts c_counter c_reload c_current c_memory c_reg c_kept c_pending c_active c_priorities 0) (cwV 1 hts (tc_gV wl_ThumbCoreModel_128 wm_ThumbCoreModel_field ws_ThumbCoreModel_field wi_ThumbCoreModel wc_ThumbCoreModel_field) rfl rfl rfl (by decide +kernel) ⟨Nat.le_of_ble_eq_true rfl, Nat.le_of_ble_eq_true rfl⟩) (tc_preV hK hN hP hD [0, 1, 2, 3, 4, 5, 6] rfl (by decide) (q0 := 0) rfl rfl) rfl rfl hl.1 rfl (lv_room (Nat.le_of_ble_eq_true rfl)) d_ThumbCoreModel_kinds_2 (by decide)) ?_
  refine lv_topi (fun v1 e_v1 => ?_)
  have hq := tc_nm hq e_v1
  refine lv_istore_n (lv' := [(1, .int v1), (0, .ref h)]) hx hb d_ThumbCoreModel_kinds_5 rfl hl (by decide) rfl (fun ls hl => ?_)
  refine lv_aload_n hx hb d_ThumbCoreModel_kinds_6 rfl (lv_at hl 1 rfl) ?_
  refine va_get (D := D) (ci := 5) (v := .ref h_reg) (C := R_ThumbCoreModel) (T := F_ThumbCoreModel) (N := 23) hx hb hts u_ThumbCoreModel hown hK hP 0 rfl rfl 2 (by decide) (hts _ wf_ThumbCoreModel_13) (fun _ h9 => h9) rfl d_ThumbCoreModel_kinds_7 ?_
  refine lv_aload_n hx hb d_ThumbCoreModel_kinds_10 rfl (lv_at hl 1 rfl) ?_
  refine lv_iconst (v := 3) hx hb d_ThumbCoreModel_kinds_11 (by decide) ?_
  refine tc_rd (va_runV (As := [.int 3]) (rest := [.ref h_reg]) ⟨hx, hb, hml, hown, hts⟩ (c_ThumbCoreModel_field l D cI cB cZ h h_memory h_reg h_kept h_pending h_active h_priorities H.size q_size c_n c_z c_c c_v c_keptFlags c_bad c_h c_after c_entered c_mask c_asleep c_lockup c_counts c_counter c_reload c_current c_memory c_reg c_kept c_pending c_active c_priorities 3) (cwV 1 hts (tc_gV wl_ThumbCoreModel_128 wm_ThumbCoreModel_field ws_ThumbCoreModel_field wi_ThumbCoreModel wc_ThumbCoreModel_field) rfl rfl rfl (by decide +kernel) ⟨Nat.le_of_ble_eq_true rfl, Nat.le_of_ble_eq_true rfl⟩) (tc_preV hK hN hP hD [0, 1, 2, 3, 4, 5, 6] rfl (by decide) (q0 := 0) rfl rfl) rfl rfl hl.1 rfl (lv_room (Nat.le_of_ble_eq_true rfl)) d_ThumbCoreModel_kinds_12 (by decide)) ?_
  refine lv_topi (fun v2 e_v2 => ?_)
  have hq := tc_nm hq e_v2
  refine va_iald hx hb hK hP 2 0 rfl rfl (tc_enF e_v2) d_ThumbCoreModel_kinds_15 ?_
  refine lv_topi (fun v3 e_v3 => ?_)
  have hq := tc_nm hq e_v3
  refine lv_istore_n (lv' := [(2, .int v3), (1, .int v1), (0, .ref h)]) hx hb d_ThumbCoreModel_kinds_16 rfl hl (by decide) rfl (fun ls hl => ?_)
  refine lv_aload_n hx hb d_ThumbCoreModel_kinds_17 rfl (lv_at hl 2 rfl) ?_
  refine va_get (D := D) (ci := 5) (v := .int c_h) (C := R_ThumbCoreModel) (T := F_ThumbCoreModel) (N := 23) hx hb hts u_ThumbCoreModel hown hK hP 0 rfl rfl 10 (by decide) (hts _ wf_ThumbCoreModel_125) (fun _ h9 => h9) rfl d_ThumbCoreModel_kinds_18 ?_
  refine lv_bipush (v := 6) hx hb d_ThumbCoreModel_kinds_21 (by decide) ?_
  refine lv_ishr hx hb d_ThumbCoreModel_kinds_23 ?_
  refine lv_iconst (v := 3) hx hb d_ThumbCoreModel_kinds_24 (by decide) ?_
  refine lv_iand hx hb d_ThumbCoreModel_kinds_25 ?_
  refine lv_topi (fun v4 e_v4 => ?_)
  have hq := tc_nm hq e_v4
  refine lv_istore_n (lv' := [(3, .int v4), (2, .int v3), (1, .int v1), (0, .ref h)]) hx hb d_ThumbCoreModel_kinds_26 rfl hl (by decide) rfl (fun ls hl => ?_)
  refine lv_aload_n hx hb d_ThumbCoreModel_kinds_27 rfl (lv_at hl 3 rfl) ?_
  refine va_get (D := D) (ci := 5) (v := .int c_h) (C := R_ThumbCoreModel) (T := F_ThumbCoreModel) (N := 23) hx hb hts u_ThumbCoreModel hown hK hP 0 rfl rfl 10 (by decide) (hts _ wf_ThumbCoreModel_125) (fun _ h9 => h9) rfl d_ThumbCoreModel_kinds_28 ?_
  refine lv_bipush (v := 8) hx hb d_ThumbCoreModel_kinds_31 (by decide) ?_
  refine lv_ishr hx hb d_ThumbCoreModel_kinds_33 ?_
  refine lv_bipush (v := 15) hx hb d_ThumbCoreModel_kinds_34 (by decide) ?_
  refine lv_iand hx hb d_ThumbCoreModel_kinds_36 ?_
  by_cases g_37_0 : ((o_ishr c_h 8) &&& 15) = 0
  · have hq := hq.trans (if_pos g_37_0)
    refine tc_tabIn (k := 0) (off := 79) (tgt := 116) hx hb d_ThumbCoreModel_kinds_37 g_37_0 (by decide) (by decide) (by decide +kernel) (by decide) ?_
    refine lv_aload_n hx hb d_ThumbCoreModel_kinds_116 rfl (lv_at hl 3 rfl) ?_
    refine va_get (D := D) (ci := 5) (v := .ref h_reg) (C := R_ThumbCoreModel) (T := F_ThumbCoreModel) (N := 23) hx hb hts u_ThumbCoreModel hown hK hP 0 rfl rfl 2 (by decide) (hts _ wf_ThumbCoreModel_13) (fun _ h9 => h9) rfl d_ThumbCoreModel_kinds_117 ?_
    refine lv_bipush (v := 13) hx hb d_ThumbCoreModel_kinds_120 (by decide) ?_
    refine lv_dup2_11 hx hb d_ThumbCoreModel_kinds_122 rfl rfl ?_
    refine va_iald hx hb hK hP 2 0 rfl rfl (by show ¬ (_ ∨ _); decide) d_ThumbCoreModel_kinds_123 ?_
    refine lv_aload_n hx hb d_ThumbCoreModel_kinds_124 rfl (lv_at hl 3 rfl) ?_
    refine va_get (D := D) (ci := 5) (v := .int c_h) (C := R_ThumbCoreModel) (T := F_ThumbCoreModel) (N := 23) hx hb hts u_ThumbCoreModel hown hK hP 0 rfl rfl 10 (by decide) (hts _ wf_ThumbCoreModel_125) (fun _ h9 => h9) rfl d_ThumbCoreModel_kinds_125 ?_
    refine lv_sipush (v := 128) hx hb d_ThumbCoreModel_kinds_128 (by decide) ?_
    refine lv_iand hx hb d_ThumbCoreModel_kinds_131 ?_
    refine lv_if_ne (tgt := 147) hx hb d_ThumbCoreModel_kinds_132 (by decide) (fun g_132 => ?_) (fun g_132 => ?_)
    · have hq := hq.trans (if_pos g_132)
      refine lv_bipush (v := (-4)) hx hb d_ThumbCoreModel_kinds_147 (by decide) ?_
      refine lv_aload_n hx hb d_ThumbCoreModel_kinds_149 rfl (lv_at hl 3 rfl) ?_
      refine va_get (D := D) (ci := 5) (v := .int c_h) (C := R_ThumbCoreModel) (T := F_ThumbCoreModel) (N := 23) hx hb hts u_ThumbCoreModel hown hK hP 0 rfl rfl 10 (by decide) (hts _ wf_ThumbCoreModel_125) (fun _ h9 => h9) rfl d_ThumbCoreModel_kinds_150 ?_
      refine lv_bipush (v := 127) hx hb d_ThumbCoreModel_kinds_153 (by decide) ?_
      refine lv_iand hx hb d_ThumbCoreModel_kinds_155 ?_
      refine lv_imul hx hb d_ThumbCoreModel_kinds_156 ?_
      exact J_157 H locs ls c_n c_z c_c c_v c_bad c_after c_mask c_asleep c_current c_memory c_reg c_active v1 v3 v4 (c_reg (13 : Int32).toNatClampNeg) ((-4) * (c_h &&& 127)) hP hD hS (lv_sub hl [3, 2, 1, 0] rfl) hq (tc_enF e_v1)
    · have hq := hq.trans (if_neg (fun g => g g_132))
      refine lv_iconst (v := 4) hx hb d_ThumbCoreModel_kinds_135 (by decide) ?_
      refine lv_aload_n hx hb d_ThumbCoreModel_kinds_136 rfl (lv_at hl 3 rfl) ?_
      refine va_get (D := D) (ci := 5) (v := .int c_h) (C := R_ThumbCoreModel) (T := F_ThumbCoreModel) (N := 23) hx hb hts u_ThumbCoreModel hown hK hP 0 rfl rfl 10 (by decide) (hts _ wf_ThumbCoreModel_125) (fun _ h9 => h9) rfl d_ThumbCoreModel_kinds_137 ?_
      refine lv_bipush (v := 127) hx hb d_ThumbCoreModel_kinds_140 (by decide) ?_
      refine lv_iand hx hb d_ThumbCoreModel_kinds_142 ?_
      refine lv_imul hx hb d_ThumbCoreModel_kinds_143 ?_
      refine lv_goto (tgt := 157) hx hb d_ThumbCoreModel_kinds_144 (by decide) ?_
      exact J_157 H locs ls c_n c_z c_c c_v c_bad c_after c_mask c_asleep c_current c_memory c_reg c_active v1 v3 v4 (c_reg (13 : Int32).toNatClampNeg) (4 * (c_h &&& 127)) hP hD hS (lv_sub hl [3, 2, 1, 0] rfl) hq (tc_enF e_v1)
  have hq := hq.trans (if_neg g_37_0)
  by_cases g_37_2 : ((o_ishr c_h 8) &&& 15) = 2
  · have hq := hq.trans (if_pos g_37_2)
    refine tc_tabIn (k := 2) (off := 125) (tgt := 162) hx hb d_ThumbCoreModel_kinds_37 g_37_2 (by decide) (by decide) (by decide +kernel) (by decide) ?_
    refine lv_aload_n hx hb d_ThumbCoreModel_kinds_162 rfl (lv_at hl 3 rfl) ?_
    refine va_get (D := D) (ci := 5) (v := .ref h_reg) (C := R_ThumbCoreModel) (T := F_ThumbCoreModel) (N := 23) hx hb hts u_ThumbCoreModel hown hK hP 0 rfl rfl 2 (by decide) (hts _ wf_ThumbCoreModel_13) (fun _ h9 => h9) rfl d_ThumbCoreModel_kinds_163 ?_
    refine lv_iload_n hx hb d_ThumbCoreModel_kinds_166 rfl (lv_at hl 2 rfl) ?_
    refine lv_iload_n hx hb d_ThumbCoreModel_kinds_167 rfl (lv_at hl 0 rfl) ?_
    refine lv_if_ne (tgt := 176) hx hb d_ThumbCoreModel_kinds_168 (by decide) (fun g_168 => ?_) (fun g_168 => ?_)
    · have hq := hq.trans (if_pos g_168)
      refine lv_iload_n hx hb d_ThumbCoreModel_kinds_176 rfl (lv_at hl 0 rfl) ?_
      refine lv_iconst (v := 1) hx hb d_ThumbCoreModel_kinds_177 (by decide) ?_
      refine lv_icmp_ne (tgt := 186) hx hb d_ThumbCoreModel_kinds_178 (by decide) (fun g_178 => ?_) (fun g_178 => ?_)
      · have hq := hq.trans (if_pos g_178)
        refine lv_iload_n hx hb d_ThumbCoreModel_kinds_186 rfl (lv_at hl 0 rfl) ?_
        refine lv_iconst (v := 2) hx hb d_ThumbCoreModel_kinds_187 (by decide) ?_
        refine lv_icmp_ne (tgt := 198) hx hb d_ThumbCoreModel_kinds_188 (by decide) (fun g_188 => ?_) (fun g_188 => ?_)
        · have hq := hq.trans (if_pos g_188)
          refine lv_iload_n hx hb d_ThumbCoreModel_kinds_198 rfl (lv_at hl 1 rfl) ?_
          refine lv_sipush (v := 255) hx hb d_ThumbCoreModel_kinds_199 (by decide) ?_
          refine lv_iand hx hb d_ThumbCoreModel_kinds_202 ?_
          exact J_203 H locs ls c_n c_z c_c c_v c_bad c_after c_mask c_asleep c_current c_memory c_reg c_active v1 v3 v4 v1 (v3 &&& 255) hP hD hS (lv_sub hl [3, 2, 1, 0] rfl) hq (tc_enF e_v1) (tc_enF e_v1)
        · have hq := hq.trans (if_neg (fun g => g g_188))
          refine lv_iload_n hx hb d_ThumbCoreModel_kinds_191 rfl (lv_at hl 1 rfl) ?_
          refine lv_ldc (v := 65535) hx hb hown (hts _ wk_ThumbCoreModel_151) d_ThumbCoreModel_kinds_192 ?_
          refine lv_iand hx hb d_ThumbCoreModel_kinds_194 ?_
          refine lv_goto (tgt := 203) hx hb d_ThumbCoreModel_kinds_195 (by decide) ?_
          exact J_203 H locs ls c_n c_z c_c c_v c_bad c_after c_mask c_asleep c_current c_memory c_reg c_active v1 v3 v4 v1 (v3 &&& 65535) hP hD hS (lv_sub hl [3, 2, 1, 0] rfl) hq (tc_enF e_v1) (tc_enF e_v1)
      · have hq := hq.trans (if_neg (fun g => g g_178))
        refine lv_iload_n hx hb d_ThumbCoreModel_kinds_181 rfl (lv_at hl 1 rfl) ?_
        refine lv_i2b (v := v3.toInt8.toInt32) hx hb d_ThumbCoreModel_kinds_182 rfl ?_
        refine lv_goto (tgt := 203) hx hb d_ThumbCoreModel_kinds_183 (by decide) ?_
        exact J_203 H locs ls c_n c_z c_c c_v c_bad c_after c_mask c_asleep c_current c_memory c_reg c_active v1 v3 v4 v1 v3.toInt8.toInt32 hP hD hS (lv_sub hl [3, 2, 1, 0] rfl) hq (tc_enF e_v1) (tc_enF e_v1)
    · have hq := hq.trans (if_neg (fun g => g g_168))
      refine lv_iload_n hx hb d_ThumbCoreModel_kinds_171 rfl (lv_at hl 1 rfl) ?_
      refine lv_i2s (v := v3.toInt16.toInt32) hx hb d_ThumbCoreModel_kinds_172 rfl ?_
      refine lv_goto (tgt := 203) hx hb d_ThumbCoreModel_kinds_173 (by decide) ?_
      exact J_203 H locs ls c_n c_z c_c c_v c_bad c_after c_mask c_asleep c_current c_memory c_reg c_active v1 v3 v4 v1 v3.toInt16.toInt32 hP hD hS (lv_sub hl [3, 2, 1, 0] rfl) hq (tc_enF e_v1) (tc_enF e_v1)
  have hq := hq.trans (if_neg g_37_2)
  by_cases g_37_4 : ((o_ishr c_h 8) &&& 15) = 4
  · have hq := hq.trans (if_pos g_37_4)
    refine tc_tabIn (k := 4) (off := 170) (tgt := 207) hx hb d_ThumbCoreModel_kinds_37 g_37_4 (by decide) (by decide) (by decide +kernel) (by decide) ?_
    refine lv_aload_n hx hb d_ThumbCoreModel_kinds_207 rfl (lv_at hl 3 rfl) ?_
    refine tc_mv (wo := fun u => (wd_ThumbCoreModel cI cB cZ h h_memory h_reg h_kept h_pending h_active h_priorities q_size c_n c_z c_c c_v c_keptFlags u.1 c_h c_after c_entered c_mask c_asleep c_lockup c_counts c_counter c_reload c_current u.2.1 u.2.2 c_kept c_pending c_active c_priorities)) (va_runV (As := []) (rest := []) ⟨hx, hb, hml, hown, hts⟩ (c_ThumbCoreModel_push l D cI cB cZ h h_memory h_reg h_kept h_pending h_active h_priorities H.size q_size c_n c_z c_c c_v c_keptFlags c_bad c_h c_after c_entered c_mask c_asleep c_lockup c_counts c_counter c_reload c_current c_memory c_reg c_kept c_pending c_active c_priorities hm) (cwV 0 hts (tc_gV wl_ThumbCoreModel_152 wm_ThumbCoreModel_push ws_ThumbCoreModel_push wi_ThumbCoreModel wc_ThumbCoreModel_push) rfl rfl rfl (by decide +kernel) ⟨Nat.le_of_ble_eq_true rfl, Nat.le_of_ble_eq_true rfl⟩) (tc_preV hK hN hP hD [0, 1, 2, 3, 4, 5, 6] rfl (by decide) (q0 := 0) rfl rfl) rfl rfl hl.1 rfl (lv_room (Nat.le_of_ble_eq_true rfl)) d_ThumbCoreModel_kinds_208 (by decide)) hP hD hS hA [0, 1, 2, 3, 4, 5, 6] [] [0, 1, 2, 3, 4, 5, 6] rfl rfl (by decide) (by decide) (by decide) (fun _ => rfl) (fun u H locs hu hP hD hS => ?_)
    obtain ⟨s5, s6, s7⟩ := u
    have hq := hq.trans (un3_eq hu _)
    have e_s5 := hu
    have hP : va_P D tcl (wd_ThumbCoreModel cI cB cZ h h_memory h_reg h_kept h_pending h_active h_priorities q_size c_n c_z c_c c_v c_keptFlags s5 c_h c_after c_entered c_mask c_asleep c_lockup c_counts c_counter c_reload c_current s6 s7 c_kept c_pending c_active c_priorities) H := hP
    have hD : va_D A (wd_ThumbCoreModel cI cB cZ h h_memory h_reg h_kept h_pending h_active h_priorities q_size c_n c_z c_c c_v c_keptFlags s5 c_h c_after c_entered c_mask c_asleep c_lockup c_counts c_counter c_reload c_current s6 s7 c_kept c_pending c_active c_priorities) := hD
    refine lv_goto (tgt := 415) hx hb d_ThumbCoreModel_kinds_211 (by decide) ?_
    exact J_415 H locs ls c_n c_z c_c c_v s5 c_after c_mask c_asleep c_current s6 s7 c_active v1 v3 v4 hP hD hS (lv_sub hl [3, 2, 1, 0] rfl) hq (tc_enF e_v1)
  have hq := hq.trans (if_neg g_37_4)
  by_cases g_37_5 : ((o_ishr c_h 8) &&& 15) = 5
  · have hq := hq.trans (if_pos g_37_5)
    refine tc_tabIn (k := 5) (off := 170) (tgt := 207) hx hb d_ThumbCoreModel_kinds_37 g_37_5 (by decide) (by decide) (by decide +kernel) (by decide) ?_
    refine lv_aload_n hx hb d_ThumbCoreModel_kinds_207 rfl (lv_at hl 3 rfl) ?_
    refine tc_mv (wo := fun u => (wd_ThumbCoreModel cI cB cZ h h_memory h_reg h_kept h_pending h_active h_priorities q_size c_n c_z c_c c_v c_keptFlags u.1 c_h c_after c_entered c_mask c_asleep c_lockup c_counts c_counter c_reload c_current u.2.1 u.2.2 c_kept c_pending c_active c_priorities)) (va_runV (As := []) (rest := []) ⟨hx, hb, hml, hown, hts⟩ (c_ThumbCoreModel_push l D cI cB cZ h h_memory h_reg h_kept h_pending h_active h_priorities H.size q_size c_n c_z c_c c_v c_keptFlags c_bad c_h c_after c_entered c_mask c_asleep c_lockup c_counts c_counter c_reload c_current c_memory c_reg c_kept c_pending c_active c_priorities hm) (cwV 0 hts (tc_gV wl_ThumbCoreModel_152 wm_ThumbCoreModel_push ws_ThumbCoreModel_push wi_ThumbCoreModel wc_ThumbCoreModel_push) rfl rfl rfl (by decide +kernel) ⟨Nat.le_of_ble_eq_true rfl, Nat.le_of_ble_eq_true rfl⟩) (tc_preV hK hN hP hD [0, 1, 2, 3, 4, 5, 6] rfl (by decide) (q0 := 0) rfl rfl) rfl rfl hl.1 rfl (lv_room (Nat.le_of_ble_eq_true rfl)) d_ThumbCoreModel_kinds_208 (by decide)) hP hD hS hA [0, 1, 2, 3, 4, 5, 6] [] [0, 1, 2, 3, 4, 5, 6] rfl rfl (by decide) (by decide) (by decide) (fun _ => rfl) (fun u H locs hu hP hD hS => ?_)
    obtain ⟨s8, s9, s10⟩ := u
    have hq := hq.trans (un3_eq hu _)
    have e_s8 := hu
    have hP : va_P D tcl (wd_ThumbCoreModel cI cB cZ h h_memory h_reg h_kept h_pending h_active h_priorities q_size c_n c_z c_c c_v c_keptFlags s8 c_h c_after c_entered c_mask c_asleep c_lockup c_counts c_counter c_reload c_current s9 s10 c_kept c_pending c_active c_priorities) H := hP
    have hD : va_D A (wd_ThumbCoreModel cI cB cZ h h_memory h_reg h_kept h_pending h_active h_priorities q_size c_n c_z c_c c_v c_keptFlags s8 c_h c_after c_entered c_mask c_asleep c_lockup c_counts c_counter c_reload c_current s9 s10 c_kept c_pending c_active c_priorities) := hD
    refine lv_goto (tgt := 415) hx hb d_ThumbCoreModel_kinds_211 (by decide) ?_
    exact J_415 H locs ls c_n c_z c_c c_v s8 c_after c_mask c_asleep c_current s9 s10 c_active v1 v3 v4 hP hD hS (lv_sub hl [3, 2, 1, 0] rfl) hq (tc_enF e_v1)
  have hq := hq.trans (if_neg g_37_5)
  by_cases g_37_6 : ((o_ishr c_h 8) &&& 15) = 6
  · have hq := hq.trans (if_pos g_37_6)
    refine tc_tabIn (k := 6) (off := 177) (tgt := 214) hx hb d_ThumbCoreModel_kinds_37 g_37_6 (by decide) (by decide) (by decide +kernel) (by decide) ?_
    refine lv_aload_n hx hb d_ThumbCoreModel_kinds_214 rfl (lv_at hl 3 rfl) ?_
    refine lv_aload_n hx hb d_ThumbCoreModel_kinds_215 rfl (lv_at hl 3 rfl) ?_
    refine va_get (D := D) (ci := 5) (v := .int c_h) (C := R_ThumbCoreModel) (T := F_ThumbCoreModel) (N := 23) hx hb hts u_ThumbCoreModel hown hK hP 0 rfl rfl 10 (by decide) (hts _ wf_ThumbCoreModel_125) (fun _ h9 => h9) rfl d_ThumbCoreModel_kinds_216 ?_
    refine lv_ldc (v := 46690) hx hb hown (hts _ wk_ThumbCoreModel_155) d_ThumbCoreModel_kinds_219 ?_
    refine lv_icmp_eq (tgt := 237) hx hb d_ThumbCoreModel_kinds_221 (by decide) (fun g_221 => ?_) (fun g_221 => ?_)
    · have hq := hq.trans (if_pos g_221)
      exact J_237 H locs ls c_n c_z c_c c_v c_bad c_after c_mask c_asleep c_current c_memory c_reg c_active v1 v3 v4 hP hD hS (lv_sub hl [3, 2, 1, 0] rfl) hq (tc_enF e_v1)
    · have hq := hq.trans (if_neg g_221)
      refine lv_aload_n hx hb d_ThumbCoreModel_kinds_224 rfl (lv_at hl 3 rfl) ?_
      refine va_get (D := D) (ci := 5) (v := .int c_h) (C := R_ThumbCoreModel) (T := F_ThumbCoreModel) (N := 23) hx hb hts u_ThumbCoreModel hown hK hP 0 rfl rfl 10 (by decide) (hts _ wf_ThumbCoreModel_125) (fun _ h9 => h9) rfl d_ThumbCoreModel_kinds_225 ?_
      refine lv_ldc (v := 46706) hx hb hown (hts _ wk_ThumbCoreModel_156) d_ThumbCoreModel_kinds_228 ?_
      refine lv_icmp_eq (tgt := 237) hx hb d_ThumbCoreModel_kinds_230 (by decide) (fun g_230 => ?_) (fun g_230 => ?_)
      · have hq := hq.trans (if_pos g_230)
        exact J_237 H locs ls c_n c_z c_c c_v c_bad c_after c_mask c_asleep c_current c_memory c_reg c_active v1 v3 v4 hP hD hS (lv_sub hl [3, 2, 1, 0] rfl) hq (tc_enF e_v1)
      · have hq := hq.trans (if_neg g_230)
        refine lv_iconst (v := 1) hx hb d_ThumbCoreModel_kinds_233 (by decide) ?_
        refine lv_goto (tgt := 238) hx hb d_ThumbCoreModel_kinds_234 (by decide) ?_
        exact J_238 H locs ls c_n c_z c_c c_v c_bad c_after c_mask c_asleep c_current c_memory c_reg c_active v1 v3 v4 true hP hD hS (lv_sub hl [3, 2, 1, 0] rfl) hq (tc_enF e_v1)
  have hq := hq.trans (if_neg g_37_6)
  by_cases g_37_10 : ((o_ishr c_h 8) &&& 15) = 10
  · have hq := hq.trans (if_pos g_37_10)
    refine tc_tabIn (k := 10) (off := 239) (tgt := 276) hx hb d_ThumbCoreModel_kinds_37 g_37_10 (by decide) (by decide) (by decide +kernel) (by decide) ?_
    refine lv_aload_n hx hb d_ThumbCoreModel_kinds_276 rfl (lv_at hl 3 rfl) ?_
    refine lv_iload_n hx hb d_ThumbCoreModel_kinds_277 rfl (lv_at hl 0 rfl) ?_
    refine lv_iconst (v := 2) hx hb d_ThumbCoreModel_kinds_278 (by decide) ?_
    refine lv_icmp_ne (tgt := 286) hx hb d_ThumbCoreModel_kinds_279 (by decide) (fun g_279 => ?_) (fun g_279 => ?_)
    · have hq := hq.trans (if_pos g_279)
      refine lv_iconst (v := 0) hx hb d_ThumbCoreModel_kinds_286 (by decide) ?_
      exact J_287 H locs ls c_n c_z c_c c_v c_bad c_after c_mask c_asleep c_current c_memory c_reg c_active v1 v3 v4 false hP hD hS (lv_sub hl [3, 2, 1, 0] rfl) hq (tc_enF e_v1)
    · have hq := hq.trans (if_neg (fun g => g g_279))
      refine lv_iconst (v := 1) hx hb d_ThumbCoreModel_kinds_282 (by decide) ?_
      refine lv_goto (tgt := 287) hx hb d_ThumbCoreModel_kinds_283 (by decide) ?_
      exact J_287 H locs ls c_n c_z c_c c_v c_bad c_after c_mask c_asleep c_current c_memory c_reg c_active v1 v3 v4 true hP hD hS (lv_sub hl [3, 2, 1, 0] rfl) hq (tc_enF e_v1)
  have hq := hq.trans (if_neg g_37_10)
  by_cases g_37_12 : ((o_ishr c_h 8) &&& 15) = 12
  · have hq := hq.trans (if_pos g_37_12)
    refine tc_tabIn (k := 12) (off := 317) (tgt := 354) hx hb d_ThumbCoreModel_kinds_37 g_37_12 (by decide) (by decide) (by decide +kernel) (by decide) ?_
    refine lv_aload_n hx hb d_ThumbCoreModel_kinds_354 rfl (lv_at hl 3 rfl) ?_
    refine tc_mv (wo := fun u => (wd_ThumbCoreModel cI cB cZ h h_memory h_reg h_kept h_pending h_active h_priorities q_size u.1 u.2.1 u.2.2.1 u.2.2.2.1 c_keptFlags u.2.2.2.2.1 c_h u.2.2.2.2.2.1 c_entered c_mask c_asleep c_lockup c_counts c_counter c_reload u.2.2.2.2.2.2.1 c_memory u.2.2.2.2.2.2.2.1 c_kept c_pending u.2.2.2.2.2.2.2.2 c_priorities)) (va_runV (As := []) (rest := []) ⟨hx, hb, hml, hown, hts⟩ (c_ThumbCoreModel_pop l D cI cB cZ h h_memory h_reg h_kept h_pending h_active h_priorities H.size q_size c_n c_z c_c c_v c_keptFlags c_bad c_h c_after c_entered c_mask c_asleep c_lockup c_counts c_counter c_reload c_current c_memory c_reg c_kept c_pending c_active c_priorities hm hi_c_current) (cwV 0 hts (tc_gV wl_ThumbCoreModel_160 wm_ThumbCoreModel_pop ws_ThumbCoreModel_pop wi_ThumbCoreModel wc_ThumbCoreModel_pop) rfl rfl rfl (by decide +kernel) ⟨Nat.le_of_ble_eq_true rfl, Nat.le_of_ble_eq_true rfl⟩) (tc_preV hK hN hP hD [0, 1, 2, 3, 4, 5, 6] rfl (by decide) (q0 := 0) rfl rfl) rfl rfl hl.1 rfl (lv_room (Nat.le_of_ble_eq_true rfl)) d_ThumbCoreModel_kinds_355 (by decide)) hP hD hS hA [0, 1, 2, 3, 4, 5, 6] [] [0, 1, 2, 3, 4, 5, 6] rfl rfl (by decide) (by decide) (by decide) (fun _ => rfl) (fun u H locs hu hP hD hS => ?_)
    obtain ⟨s11, s12, s13, s14, s15, s16, s17, s18, s19⟩ := u
    have hq := hq.trans (un9_eq hu _)
    have e_s11 := hu
    have hP : va_P D tcl (wd_ThumbCoreModel cI cB cZ h h_memory h_reg h_kept h_pending h_active h_priorities q_size s11 s12 s13 s14 c_keptFlags s15 c_h s16 c_entered c_mask c_asleep c_lockup c_counts c_counter c_reload s17 c_memory s18 c_kept c_pending s19 c_priorities) H := hP
    have hD : va_D A (wd_ThumbCoreModel cI cB cZ h h_memory h_reg h_kept h_pending h_active h_priorities q_size s11 s12 s13 s14 c_keptFlags s15 c_h s16 c_entered c_mask c_asleep c_lockup c_counts c_counter c_reload s17 c_memory s18 c_kept c_pending s19 c_priorities) := hD
    refine lv_goto (tgt := 415) hx hb d_ThumbCoreModel_kinds_358 (by decide) ?_
    exact J_415 H locs ls s11 s12 s13 s14 s15 s16 c_mask c_asleep s17 c_memory s18 s19 v1 v3 v4 hP hD hS (lv_sub hl [3, 2, 1, 0] rfl) hq (tc_enF e_v1)
  have hq := hq.trans (if_neg g_37_12)
  by_cases g_37_13 : ((o_ishr c_h 8) &&& 15) = 13
  · have hq := hq.trans (if_pos g_37_13)
    refine tc_tabIn (k := 13) (off := 317) (tgt := 354) hx hb d_ThumbCoreModel_kinds_37 g_37_13 (by decide) (by decide) (by decide +kernel) (by decide) ?_
    refine lv_aload_n hx hb d_ThumbCoreModel_kinds_354 rfl (lv_at hl 3 rfl) ?_
    refine tc_mv (wo := fun u => (wd_ThumbCoreModel cI cB cZ h h_memory h_reg h_kept h_pending h_active h_priorities q_size u.1 u.2.1 u.2.2.1 u.2.2.2.1 c_keptFlags u.2.2.2.2.1 c_h u.2.2.2.2.2.1 c_entered c_mask c_asleep c_lockup c_counts c_counter c_reload u.2.2.2.2.2.2.1 c_memory u.2.2.2.2.2.2.2.1 c_kept c_pending u.2.2.2.2.2.2.2.2 c_priorities)) (va_runV (As := []) (rest := []) ⟨hx, hb, hml, hown, hts⟩ (c_ThumbCoreModel_pop l D cI cB cZ h h_memory h_reg h_kept h_pending h_active h_priorities H.size q_size c_n c_z c_c c_v c_keptFlags c_bad c_h c_after c_entered c_mask c_asleep c_lockup c_counts c_counter c_reload c_current c_memory c_reg c_kept c_pending c_active c_priorities hm hi_c_current) (cwV 0 hts (tc_gV wl_ThumbCoreModel_160 wm_ThumbCoreModel_pop ws_ThumbCoreModel_pop wi_ThumbCoreModel wc_ThumbCoreModel_pop) rfl rfl rfl (by decide +kernel) ⟨Nat.le_of_ble_eq_true rfl, Nat.le_of_ble_eq_true rfl⟩) (tc_preV hK hN hP hD [0, 1, 2, 3, 4, 5, 6] rfl (by decide) (q0 := 0) rfl rfl) rfl rfl hl.1 rfl (lv_room (Nat.le_of_ble_eq_true rfl)) d_ThumbCoreModel_kinds_355 (by decide)) hP hD hS hA [0, 1, 2, 3, 4, 5, 6] [] [0, 1, 2, 3, 4, 5, 6] rfl rfl (by decide) (by decide) (by decide) (fun _ => rfl) (fun u H locs hu hP hD hS => ?_)
    obtain ⟨s20, s21, s22, s23, s24, s25, s26, s27, s28⟩ := u
    have hq := hq.trans (un9_eq hu _)
    have e_s20 := hu
    have hP : va_P D tcl (wd_ThumbCoreModel cI cB cZ h h_memory h_reg h_kept h_pending h_active h_priorities q_size s20 s21 s22 s23 c_keptFlags s24 c_h s25 c_entered c_mask c_asleep c_lockup c_counts c_counter c_reload s26 c_memory s27 c_kept c_pending s28 c_priorities) H := hP
    have hD : va_D A (wd_ThumbCoreModel cI cB cZ h h_memory h_reg h_kept h_pending h_active h_priorities q_size s20 s21 s22 s23 c_keptFlags s24 c_h s25 c_entered c_mask c_asleep c_lockup c_counts c_counter c_reload s26 c_memory s27 c_kept c_pending s28 c_priorities) := hD
    refine lv_goto (tgt := 415) hx hb d_ThumbCoreModel_kinds_358 (by decide) ?_
    exact J_415 H locs ls s20 s21 s22 s23 s24 s25 c_mask c_asleep s26 c_memory s27 s28 v1 v3 v4 hP hD hS (lv_sub hl [3, 2, 1, 0] rfl) hq (tc_enF e_v1)
  have hq := hq.trans (if_neg g_37_13)
  by_cases g_37_15 : ((o_ishr c_h 8) &&& 15) = 15
  · have hq := hq.trans (if_pos g_37_15)
    refine tc_tabIn (k := 15) (off := 324) (tgt := 361) hx hb d_ThumbCoreModel_kinds_37 g_37_15 (by decide) (by decide) (by decide +kernel) (by decide) ?_
    refine lv_aload_n hx hb d_ThumbCoreModel_kinds_361 rfl (lv_at hl 3 rfl) ?_
    refine lv_aload_n hx hb d_ThumbCoreModel_kinds_362 rfl (lv_at hl 3 rfl) ?_
    refine va_get (D := D) (ci := 5) (v := .int c_h) (C := R_ThumbCoreModel) (T := F_ThumbCoreModel) (N := 23) hx hb hts u_ThumbCoreModel hown hK hP 0 rfl rfl 10 (by decide) (hts _ wf_ThumbCoreModel_125) (fun _ h9 => h9) rfl d_ThumbCoreModel_kinds_363 ?_
    refine lv_ldc (v := 48944) hx hb hown (hts _ wk_ThumbCoreModel_163) d_ThumbCoreModel_kinds_366 ?_
    refine lv_icmp_eq (tgt := 385) hx hb d_ThumbCoreModel_kinds_368 (by decide) (fun g_368 => ?_) (fun g_368 => ?_)
    · have hq := hq.trans (if_pos g_368)
      exact J_385 H locs ls c_n c_z c_c c_v c_bad c_after c_mask c_asleep c_current c_memory c_reg c_active v1 v3 v4 hP hD hS (lv_sub hl [3, 2, 1, 0] rfl) hq (tc_enF e_v1)
    · have hq := hq.trans (if_neg g_368)
      refine lv_aload_n hx hb d_ThumbCoreModel_kinds_371 rfl (lv_at hl 3 rfl) ?_
      refine va_get (D := D) (ci := 5) (v := .int c_h) (C := R_ThumbCoreModel) (T := F_ThumbCoreModel) (N := 23) hx hb hts u_ThumbCoreModel hown hK hP 0 rfl rfl 10 (by decide) (hts _ wf_ThumbCoreModel_125) (fun _ h9 => h9) rfl d_ThumbCoreModel_kinds_372 ?_
      refine lv_bipush (v := 16) hx hb d_ThumbCoreModel_kinds_375 (by decide) ?_
      refine lv_irem hx hb d_ThumbCoreModel_kinds_377 (by decide) ?_
      refine lv_if_eq (tgt := 385) hx hb d_ThumbCoreModel_kinds_378 (by decide) (fun g_378 => ?_) (fun g_378 => ?_)
      · have hq := hq.trans (if_pos g_378)
        exact J_385 H locs ls c_n c_z c_c c_v c_bad c_after c_mask c_asleep c_current c_memory c_reg c_active v1 v3 v4 hP hD hS (lv_sub hl [3, 2, 1, 0] rfl) hq (tc_enF e_v1)
      · have hq := hq.trans (if_neg g_378)
        refine lv_iconst (v := 1) hx hb d_ThumbCoreModel_kinds_381 (by decide) ?_
        refine lv_goto (tgt := 386) hx hb d_ThumbCoreModel_kinds_382 (by decide) ?_
        exact J_386 H locs ls c_n c_z c_c c_v c_bad c_after c_mask c_asleep c_current c_memory c_reg c_active v1 v3 v4 true hP hD hS (lv_sub hl [3, 2, 1, 0] rfl) hq (tc_enF e_v1)
  have hq := hq.trans (if_neg g_37_15)
  have DF : W p l e rm_ThumbCoreModel_kinds s m ([.ref h] : List Value).toArray below meth c H locs 0 0 Q (F0 m 410 ls []) := by
    refine lv_aload_n hx hb d_ThumbCoreModel_kinds_410 rfl (lv_at hl 3 rfl) ?_
    refine lv_iconst (v := 1) hx hb d_ThumbCoreModel_kinds_411 (by decide) ?_
    refine va_put (D := D) (ci := 5) (v := .int (bI true)) (ty := .boolean) (C := R_ThumbCoreModel) (T := F_ThumbCoreModel) (N := 23) hx hb hts u_ThumbCoreModel t_ThumbCoreModel t_ThumbCoreModel_ok n_ThumbCoreModel hown hK hP hD hS 0 rfl rfl 9 (by decide) (hts _ wf_ThumbCoreModel_41) (fun _ h9 => h9) rfl (by decide +kernel) (tc_nb true) (tc_fb true) (Nat.le_of_ble_eq_true rfl) d_ThumbCoreModel_kinds_412 (fun H locs hP hD hS => ?_)
    have hP : va_P D tcl (wd_ThumbCoreModel cI cB cZ h h_memory h_reg h_kept h_pending h_active h_priorities q_size c_n c_z c_c c_v c_keptFlags true c_h c_after c_entered c_mask c_asleep c_lockup c_counts c_counter c_reload c_current c_memory c_reg c_kept c_pending c_active c_priorities) H := hP
    have hD : va_D A (wd_ThumbCoreModel cI cB cZ h h_memory h_reg h_kept h_pending h_active h_priorities q_size c_n c_z c_c c_v c_keptFlags true c_h c_after c_entered c_mask c_asleep c_lockup c_counts c_counter c_reload c_current c_memory c_reg c_kept c_pending c_active c_priorities) := hD
    exact J_415 H locs ls c_n c_z c_c c_v true c_after c_mask c_asleep c_current c_memory c_reg c_active v1 v3 v4 hP hD hS (lv_sub hl [3, 2, 1, 0] rfl) hq (tc_enF e_v1)
  by_cases g_37_1 : ((o_ishr c_h 8) &&& 15) = 1
  · exact tc_tabIn (k := 1) (off := 373) (tgt := 410) hx hb d_ThumbCoreModel_kinds_37 g_37_1 (by decide) (by decide) (by decide +kernel) (by decide) DF
  by_cases g_37_3 : ((o_ishr c_h 8) &&& 15) = 3
  · exact tc_tabIn (k := 3) (off := 373) (tgt := 410) hx hb d_ThumbCoreModel_kinds_37 g_37_3 (by decide) (by decide) (by decide +kernel) (by decide) DF
  by_cases g_37_7 : ((o_ishr c_h 8) &&& 15) = 7
  · exact tc_tabIn (k := 7) (off := 373) (tgt := 410) hx hb d_ThumbCoreModel_kinds_37 g_37_7 (by decide) (by decide) (by decide +kernel) (by decide) DF
  by_cases g_37_8 : ((o_ishr c_h 8) &&& 15) = 8
  · exact tc_tabIn (k := 8) (off := 373) (tgt := 410) hx hb d_ThumbCoreModel_kinds_37 g_37_8 (by decide) (by decide) (by decide +kernel) (by decide) DF
  by_cases g_37_9 : ((o_ishr c_h 8) &&& 15) = 9
  · exact tc_tabIn (k := 9) (off := 373) (tgt := 410) hx hb d_ThumbCoreModel_kinds_37 g_37_9 (by decide) (by decide) (by decide +kernel) (by decide) DF
  by_cases g_37_11 : ((o_ishr c_h 8) &&& 15) = 11
  · exact tc_tabIn (k := 11) (off := 373) (tgt := 410) hx hb d_ThumbCoreModel_kinds_37 g_37_11 (by decide) (by decide) (by decide +kernel) (by decide) DF
  by_cases g_37_14 : ((o_ishr c_h 8) &&& 15) = 14
  · exact tc_tabIn (k := 14) (off := 373) (tgt := 410) hx hb d_ThumbCoreModel_kinds_37 g_37_14 (by decide) (by decide) (by decide +kernel) (by decide) DF
  exact lv_tableOut (x := ((o_ishr c_h 8) &&& 15)) hx hb d_ThumbCoreModel_kinds_37 (by have n0 := tc_ne (j := 0) g_37_0 (by decide); have n1 := tc_ne (j := 1) g_37_1 (by decide); have n2 := tc_ne (j := 2) g_37_2 (by decide); have n3 := tc_ne (j := 3) g_37_3 (by decide); have n4 := tc_ne (j := 4) g_37_4 (by decide); have n5 := tc_ne (j := 5) g_37_5 (by decide); have n6 := tc_ne (j := 6) g_37_6 (by decide); have n7 := tc_ne (j := 7) g_37_7 (by decide); have n8 := tc_ne (j := 8) g_37_8 (by decide); have n9 := tc_ne (j := 9) g_37_9 (by decide); have n10 := tc_ne (j := 10) g_37_10 (by decide); have n11 := tc_ne (j := 11) g_37_11 (by decide); have n12 := tc_ne (j := 12) g_37_12 (by decide); have n13 := tc_ne (j := 13) g_37_13 (by decide); have n14 := tc_ne (j := 14) g_37_14 (by decide); have n15 := tc_ne (j := 15) g_37_15 (by decide); omega) (by decide) DF

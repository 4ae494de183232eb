abbrev rm_ThumbCoreModel_instruct : Room := { frames := 8, cells := 0, slots := 0, locals := 190 }
set_option maxHeartbeats 4000000 in
set_option maxRecDepth 100000 in
theorem c_ThumbCoreModel_instruct (l : Launch) (D : va_G) (cI cB cZ : ClassId) (h h_memory h_reg h_kept h_pending h_active h_priorities sz : Nat) (q_size : Int32) (c_n : Bool) (c_z : Bool) (c_c : Bool) (c_v : Bool) (c_keptFlags : Int32) (c_bad : Bool) (c_h : Int32) (c_after : Int32) (c_entered : Bool) (c_mask : Bool) (c_asleep : Bool) (c_lockup : Bool) (c_counts : Bool) (c_counter : Int32) (c_reload : Int32) (c_current : Int32) (c_memory : Nat → Int32) (c_reg : Nat → Int32) (c_kept : Nat → Int32) (c_pending : Nat → Bool) (c_active : Nat → Bool) (c_priorities : Nat → Int32) (hm : tc_memR q_size) (hi_c_current : vp_in c_current 16) : Met l y_ThumbCoreModel_instruct (.code y_ThumbCoreModel_instruct b_ThumbCoreModel_instruct 2 none :: tcb) rm_ThumbCoreModel_instruct (tc_Pw D tcl (tys cI cB cZ) (wd_ThumbCoreModel cI cB cZ h h_memory h_reg h_kept h_pending h_active h_priorities q_size c_n c_z c_c c_v c_keptFlags c_bad c_h c_after c_entered c_mask c_asleep c_lockup c_counts c_counter c_reload c_current c_memory c_reg c_kept c_pending c_active c_priorities) sz ([.ref h] : List Value) none) (tc_Qv D tcl (wd_ThumbCoreModel cI cB cZ h h_memory h_reg h_kept h_pending h_active h_priorities q_size c_n c_z c_c c_v c_keptFlags c_bad c_h c_after c_entered c_mask c_asleep c_lockup c_counts c_counter c_reload c_current c_memory c_reg c_kept c_pending c_active c_priorities) sz (fun u => (wd_ThumbCoreModel cI cB cZ h h_memory h_reg h_kept h_pending h_active h_priorities q_size u.1 u.2.1 u.2.2.1 u.2.2.2.1 u.2.2.2.2.1 u.2.2.2.2.2.1 u.2.2.2.2.2.2.1 u.2.2.2.2.2.2.2.1 u.2.2.2.2.2.2.2.2.1 u.2.2.2.2.2.2.2.2.2.1 u.2.2.2.2.2.2.2.2.2.2.1 u.2.2.2.2.2.2.2.2.2.2.2.1 c_counts c_counter c_reload u.2.2.2.2.2.2.2.2.2.2.2.2.1 u.2.2.2.2.2.2.2.2.2.2.2.2.2.1 u.2.2.2.2.2.2.2.2.2.2.2.2.2.2.1 u.2.2.2.2.2.2.2.2.2.2.2.2.2.2.2.1 u.2.2.2.2.2.2.2.2.2.2.2.2.2.2.2.2.1 u.2.2.2.2.2.2.2.2.2.2.2.2.2.2.2.2.2 c_priorities)) (f_ThumbCoreModel_instruct q_size c_priorities c_n c_z c_c c_v c_keptFlags c_bad c_h c_after c_entered c_mask c_asleep c_lockup c_current c_memory c_reg c_kept c_pending c_active)) 0 0 (va_A (wd_ThumbCoreModel cI cB cZ h h_memory h_reg h_kept h_pending h_active h_priorities q_size c_n c_z c_c c_v c_keptFlags c_bad c_h c_after c_entered c_mask c_asleep c_lockup c_counts c_counter c_reload c_current c_memory c_reg c_kept c_pending c_active c_priorities) sz) := by
  refine tc_mu_v (by decide) (Nat.le_of_ble_eq_true rfl) ?_
  intro p e s m below meth c A Q ls hx hb hml hts hown hK hN hP hD hA hZ hl RET
  have hS : va_S A s.heap s.heap [] := va_S.rf
  have hl : lv_has ls 2 [(0, .ref h)] := hl
  generalize hF : f_ThumbCoreModel_instruct q_size c_priorities c_n c_z c_c c_v c_keptFlags c_bad c_h c_after c_entered c_mask c_asleep c_lockup c_current c_memory c_reg c_kept c_pending c_active = FF at RET
  have J_93 : ∀ n : Nat, ∀ (H : Heap) (locs : List Loc) (ls : Array Slot) (c_n : Bool) (c_z : Bool) (c_c : Bool) (c_v : Bool) (c_keptFlags : Int32) (c_bad : Bool) (c_h : Int32) (c_after : Int32) (c_entered : Bool) (c_mask : Bool) (c_asleep : Bool) (c_lockup : Bool) (c_current : Int32) (c_memory : Nat → Int32) (c_reg : Nat → Int32) (c_kept : Nat → Int32) (c_pending : Nat → Bool) (c_active : Nat → Bool) (y1 : Int32), va_P D tcl (wd_ThumbCoreModel cI cB cZ h h_memory h_reg h_kept h_pending h_active h_priorities q_size c_n c_z c_c c_v c_keptFlags c_bad c_h c_after c_entered c_mask c_asleep c_lockup c_counts c_counter c_reload c_current c_memory c_reg c_kept c_pending c_active c_priorities) H → va_D A (wd_ThumbCoreModel cI cB cZ h h_memory h_reg h_kept h_pending h_active h_priorities q_size c_n c_z c_c c_v c_keptFlags c_bad c_h c_after c_entered c_mask c_asleep c_lockup c_counts c_counter c_reload c_current c_memory c_reg c_kept c_pending c_active c_priorities) → va_S A s.heap H locs → lv_has ls 2 [(0, .ref h), (1, .int y1)] → FF = k_ThumbCoreModel_instruct_93 q_size c_priorities n c_n c_z c_c c_v c_keptFlags c_bad c_h c_after c_entered c_mask c_asleep c_lockup c_current c_memory c_reg c_kept c_pending c_active y1 → (tc_lp y1 16 n) → W p l e rm_ThumbCoreModel_instruct s m ([.ref h] : List Value).toArray below meth c H locs 0 0 Q (F0 m 93 ls []) := by
    intro n
    induction n with
    | zero =>
      intro H locs ls c_n c_z c_c c_v c_keptFlags c_bad c_h c_after c_entered c_mask c_asleep c_lockup c_current c_memory c_reg c_kept c_pending c_active y1 hP hD hS hl hq hinv
      exact (tc_lp0 hinv).elim
    | succ n_93 IH_93 =>
      intro H locs ls c_n c_z c_c c_v c_keptFlags c_bad c_h c_after c_entered c_mask c_asleep c_lockup c_current c_memory c_reg c_kept c_pending c_active y1 hP hD hS hl hq hinv
      refine lv_iload_n hx hb d_ThumbCoreModel_instruct_93 rfl (lv_at hl 1 rfl) ?_
      refine lv_bipush (v := 16) hx hb d_ThumbCoreModel_instruct_94 (by decide) ?_
      refine lv_icmp_ge (tgt := 117) hx hb d_ThumbCoreModel_instruct_96 (by decide) (fun g_96 => ?_) (fun g_96 => ?_)
      · have hq := hq.trans (if_pos g_96)
        refine lv_aload_n hx hb d_ThumbCoreModel_instruct_117 rfl (lv_at hl 0 rfl) ?_
        refine lv_aload_n hx hb d_ThumbCoreModel_instruct_118 rfl (lv_at hl 0 rfl) ?_
        refine va_get (D := D) (ci := 5) (v := .int c_keptFlags) (C := R_ThumbCoreModel) (T := F_ThumbCoreModel) (N := 23) hx hb hts u_ThumbCoreModel hown hK hP 0 rfl rfl 8 (by decide) (hts _ wf_ThumbCoreModel_199) (fun _ h9 => h9) rfl d_ThumbCoreModel_instruct_119 ?_
        refine tc_mv (wo := fun u => (wd_ThumbCoreModel cI cB cZ h h_memory h_reg h_kept h_pending h_active h_priorities q_size u.1 u.2.1 u.2.2.1 u.2.2.2 c_keptFlags c_bad c_h c_after c_entered c_mask c_asleep c_lockup c_counts c_counter c_reload c_current c_memory c_reg c_kept c_pending c_active c_priorities)) (va_runV (As := [.int c_keptFlags]) (rest := []) ⟨hx, hb, hml, hown, hts⟩ (c_ThumbCoreModel_flags l D cI cB cZ h h_memory h_reg h_kept h_pending h_active h_priorities H.size q_size c_n c_z c_c c_v c_keptFlags c_bad c_h c_after c_entered c_mask c_asleep c_lockup c_counts c_counter c_reload c_current c_memory c_reg c_kept c_pending c_active c_priorities c_keptFlags) (cwV 1 hts (tc_gV wl_ThumbCoreModel_49 wm_ThumbCoreModel_flags ws_ThumbCoreModel_flags wi_ThumbCoreModel wc_ThumbCoreModel_flags) rfl rfl rfl (by decide +kernel) ⟨Nat.le_of_ble_eq_true rfl, Nat.le_of_ble_eq_true rfl⟩) (tc_preV hK hN hP hD [0, 1, 2, 3, 4, 5, 6] rfl (by decide) (q0 := 0) rfl rfl) rfl rfl hl.1 rfl (lv_room (Nat.le_of_ble_eq_true rfl)) d_ThumbCoreModel_instruct_122 (by decide)) hP hD hS hA [0, 1, 2, 3, 4, 5, 6] [] [0, 1, 2, 3, 4, 5, 6] rfl rfl (by decide) (by decide) (by decide) (fun _ => rfl) (fun u H locs hu hP hD hS => ?_)
        obtain ⟨s1, s2, s3, s4⟩ := u
        have hq := hq.trans (un4_eq hu _)
        have e_s1 := hu
        have hP : va_P D tcl (wd_ThumbCoreModel cI cB cZ h h_memory h_reg h_kept h_pending h_active h_priorities q_size s1 s2 s3 s4 c_keptFlags c_bad c_h c_after c_entered c_mask c_asleep c_lockup c_counts c_counter c_reload c_current c_memory c_reg c_kept c_pending c_active c_priorities) H := hP
        have hD : va_D A (wd_ThumbCoreModel cI cB cZ h h_memory h_reg h_kept h_pending h_active h_priorities q_size s1 s2 s3 s4 c_keptFlags c_bad c_h c_after c_entered c_mask c_asleep c_lockup c_counts c_counter c_reload c_current c_memory c_reg c_kept c_pending c_active c_priorities) := hD
        refine lv_aload_n hx hb d_ThumbCoreModel_instruct_125 rfl (lv_at hl 0 rfl) ?_
        refine tc_mv (wo := fun u => (wd_ThumbCoreModel cI cB cZ h h_memory h_reg h_kept h_pending h_active h_priorities q_size s1 s2 s3 s4 c_keptFlags u.1 c_h c_after c_entered c_mask c_asleep u.2.1 c_counts c_counter c_reload u.2.2.1 u.2.2.2.1 u.2.2.2.2.1 c_kept u.2.2.2.2.2.1 u.2.2.2.2.2.2 c_priorities)) (va_runV (As := []) (rest := []) ⟨hx, hb, hml, hown, hts⟩ (c_ThumbCoreModel_fault l D cI cB cZ h h_memory h_reg h_kept h_pending h_active h_priorities H.size q_size s1 s2 s3 s4 c_keptFlags c_bad c_h c_after c_entered c_mask c_asleep c_lockup c_counts c_counter c_reload c_current c_memory c_reg c_kept c_pending c_active c_priorities hm) (cwV 0 hts (tc_gV wl_ThumbCoreModel_205 wm_ThumbCoreModel_fault ws_ThumbCoreModel_fault wi_ThumbCoreModel wc_ThumbCoreModel_fault) rfl rfl rfl (by decide +kernel) ⟨Nat.le_of_ble_eq_true rfl, Nat.le_of_ble_eq_true rfl⟩) (tc_preV hK hN hP hD [0, 1, 2, 3, 4, 5, 6] rfl (by decide) (q0 := 0) rfl rfl) rfl rfl hl.1 rfl (lv_room (Nat.le_of_ble_eq_true rfl)) d_ThumbCoreModel_instruct_126 (by decide)) hP hD hS hA [0, 1, 2, 3, 4, 5, 6] [] [0, 1, 2, 3, 4, 5, 6] rfl rfl (by decide) (by decide) (by decide) (fun _ => rfl) (fun u H locs hu hP hD hS => ?_)
        obtain ⟨s5, s6, s7, s8, s9, s10, s11⟩ := u
        have hq := hq.trans (un7_eq hu _)
        have e_s5 := hu
        have hP : va_P D tcl (wd_ThumbCoreModel cI cB cZ h h_memory h_reg h_kept h_pending h_active h_priorities q_size s1 s2 s3 s4 c_keptFlags s5 c_h c_after c_entered c_mask c_asleep s6 c_counts c_counter c_reload s7 s8 s9 c_kept s10 s11 c_priorities) H := hP
        have hD : va_D A (wd_ThumbCoreModel cI cB cZ h h_memory h_reg h_kept h_pending h_active h_priorities q_size s1 s2 s3 s4 c_keptFlags s5 c_h c_after c_entered c_mask c_asleep s6 c_counts c_counter c_reload s7 s8 s9 c_kept s10 s11 c_priorities) := hD
        refine lv_goto (tgt := 150) hx hb d_ThumbCoreModel_instruct_129 (by decide) ?_
        exact RET H locs ls 150 (s1, s2, s3, s4, c_keptFlags, s5, c_h, c_after, c_entered, c_mask, c_asleep, s6, s7, s8, s9, c_kept, s10, s11) d_ThumbCoreModel_instruct_150 hP hD hS hq
      · have hq := hq.trans (if_neg g_96)
        have hgd : y1.toInt < ((16 : Nat) : Int) := tc_gge g_96 (by decide)
        refine lv_aload_n hx hb d_ThumbCoreModel_instruct_99 rfl (lv_at hl 0 rfl) ?_
        refine va_get (D := D) (ci := 5) (v := .ref h_reg) (C := R_ThumbCoreModel) (T := F_ThumbCoreModel) (N := 23) hx hb hts u_ThumbCoreModel hown hK hP 0 rfl rfl 2 (by decide) (hts _ wf_ThumbCoreModel_13) (fun _ h9 => h9) rfl d_ThumbCoreModel_instruct_100 ?_
        refine lv_iload_n hx hb d_ThumbCoreModel_instruct_103 rfl (lv_at hl 1 rfl) ?_
        refine lv_aload_n hx hb d_ThumbCoreModel_instruct_104 rfl (lv_at hl 0 rfl) ?_
        refine va_get (D := D) (ci := 5) (v := .ref h_kept) (C := R_ThumbCoreModel) (T := F_ThumbCoreModel) (N := 23) hx hb hts u_ThumbCoreModel hown hK hP 0 rfl rfl 7 (by decide) (hts _ wf_ThumbCoreModel_17) (fun _ h9 => h9) rfl d_ThumbCoreModel_instruct_105 ?_
        refine lv_iload_n hx hb d_ThumbCoreModel_instruct_108 rfl (lv_at hl 1 rfl) ?_
        refine va_iald hx hb hK hP 3 0 rfl rfl (tc_lpI hinv hgd (by decide)) d_ThumbCoreModel_instruct_109 ?_
        refine va_iast hx hb hK hP hD hS 2 0 rfl rfl (tc_lpI hinv hgd (by decide)) d_ThumbCoreModel_instruct_110 (fun H locs hP hD hS => ?_)
        have hP : va_P D tcl (wd_ThumbCoreModel cI cB cZ h h_memory h_reg h_kept h_pending h_active h_priorities q_size c_n c_z c_c c_v c_keptFlags c_bad c_h c_after c_entered c_mask c_asleep c_lockup c_counts c_counter c_reload c_current c_memory (upd c_reg y1.toNatClampNeg (c_kept y1.toNatClampNeg)) c_kept c_pending c_active c_priorities) H := hP
        have hD : va_D A (wd_ThumbCoreModel cI cB cZ h h_memory h_reg h_kept h_pending h_active h_priorities q_size c_n c_z c_c c_v c_keptFlags c_bad c_h c_after c_entered c_mask c_asleep c_lockup c_counts c_counter c_reload c_current c_memory (upd c_reg y1.toNatClampNeg (c_kept y1.toNatClampNeg)) c_kept c_pending c_active c_priorities) := hD
        refine lv_iinc (k := 1) (v := (y1 + 1)) (lv' := [(1, .int (y1 + 1)), (0, .ref h)]) hx hb d_ThumbCoreModel_instruct_111 hl rfl rfl (by decide) rfl (fun ls hl => ?_)
        refine lv_goto (tgt := 93) hx hb d_ThumbCoreModel_instruct_114 (by decide) ?_
        exact IH_93 H locs ls c_n c_z c_c c_v c_keptFlags c_bad c_h c_after c_entered c_mask c_asleep c_lockup c_current c_memory (upd c_reg y1.toNatClampNeg (c_kept y1.toNatClampNeg)) c_kept c_pending c_active (y1 + 1) hP hD hS (lv_sub hl [1, 0] rfl) hq (tc_lpS hinv hgd (by decide))
  have J_84 : ∀ (H : Heap) (locs : List Loc) (ls : Array Slot) (c_n : Bool) (c_z : Bool) (c_c : Bool) (c_v : Bool) (c_keptFlags : Int32) (c_bad : Bool) (c_h : Int32) (c_after : Int32) (c_entered : Bool) (c_mask : Bool) (c_asleep : Bool) (c_lockup : Bool) (c_current : Int32) (c_memory : Nat → Int32) (c_reg : Nat → Int32) (c_kept : Nat → Int32) (c_pending : Nat → Bool) (c_active : Nat → Bool), va_P D tcl (wd_ThumbCoreModel cI cB cZ h h_memory h_reg h_kept h_pending h_active h_priorities q_size c_n c_z c_c c_v c_keptFlags c_bad c_h c_after c_entered c_mask c_asleep c_lockup c_counts c_counter c_reload c_current c_memory c_reg c_kept c_pending c_active c_priorities) H → va_D A (wd_ThumbCoreModel cI cB cZ h h_memory h_reg h_kept h_pending h_active h_priorities q_size c_n c_z c_c c_v c_keptFlags c_bad c_h c_after c_entered c_mask c_asleep c_lockup c_counts c_counter c_reload c_current c_memory c_reg c_kept c_pending c_active c_priorities) → va_S A s.heap H locs → lv_has ls 2 [(0, .ref h)] → FF = k_ThumbCoreModel_instruct_84 q_size c_priorities c_n c_z c_c c_v c_keptFlags c_bad c_h c_after c_entered c_mask c_asleep c_lockup c_current c_memory c_reg c_kept c_pending c_active → W p l e rm_ThumbCoreModel_instruct s m ([.ref h] : List Value).toArray below meth c H locs 0 0 Q (F0 m 84 ls []) := by
    intro H locs ls c_n c_z c_c c_v c_keptFlags c_bad c_h c_after c_entered c_mask c_asleep c_lockup c_current c_memory c_reg c_kept c_pending c_active hP hD hS hl hq
    refine lv_aload_n hx hb d_ThumbCoreModel_instruct_84 rfl (lv_at hl 0 rfl) ?_
    refine va_get (D := D) (ci := 5) (v := .int (bI c_bad)) (C := R_ThumbCoreModel) (T := F_ThumbCoreModel) (N := 23) hx hb hts u_ThumbCoreModel hown hK hP 0 rfl rfl 9 (by decide) (hts _ wf_ThumbCoreModel_41) (fun _ h9 => h9) rfl d_ThumbCoreModel_instruct_85 ?_
    refine lv_if_eq (tgt := 132) hx hb d_ThumbCoreModel_instruct_88 (by decide) (fun g_88 => ?_) (fun g_88 => ?_)
    · have hq := hq.trans (if_pos g_88)
      refine lv_aload_n hx hb d_ThumbCoreModel_instruct_132 rfl (lv_at hl 0 rfl) ?_
      refine va_get (D := D) (ci := 5) (v := .int (bI c_entered)) (C := R_ThumbCoreModel) (T := F_ThumbCoreModel) (N := 23) hx hb hts u_ThumbCoreModel hown hK hP 0 rfl rfl 12 (by decide) (hts _ wf_ThumbCoreModel_167) (fun _ h9 => h9) rfl d_ThumbCoreModel_instruct_133 ?_
      refine lv_if_ne (tgt := 150) hx hb d_ThumbCoreModel_instruct_136 (by decide) (fun g_136 => ?_) (fun g_136 => ?_)
      · have hq := hq.trans (if_pos g_136)
        exact RET H locs ls 150 (c_n, c_z, c_c, c_v, c_keptFlags, c_bad, c_h, c_after, c_entered, c_mask, c_asleep, c_lockup, c_current, c_memory, c_reg, c_kept, c_pending, c_active) d_ThumbCoreModel_instruct_150 hP hD hS hq
      · have hq := hq.trans (if_neg (fun g => g g_136))
        refine lv_aload_n hx hb d_ThumbCoreModel_instruct_139 rfl (lv_at hl 0 rfl) ?_
        refine va_get (D := D) (ci := 5) (v := .ref h_reg) (C := R_ThumbCoreModel) (T := F_ThumbCoreModel) (N := 23) hx hb hts u_ThumbCoreModel hown hK hP 0 rfl rfl 2 (by decide) (hts _ wf_ThumbCoreModel_13) (fun _ h9 => h9) rfl d_ThumbCoreModel_instruct_140 ?_
        refine lv_bipush (v := 15) hx hb d_ThumbCoreModel_instruct_143 (by decide) ?_
        refine lv_aload_n hx hb d_ThumbCoreModel_instruct_145 rfl (lv_at hl 0 rfl) ?_
        refine va_get (D := D) (ci := 5) (v := .int c_after) (C := R_ThumbCoreModel) (T := F_ThumbCoreModel) (N := 23) hx hb hts u_ThumbCoreModel hown hK hP 0 rfl rfl 11 (by decide) (hts _ wf_ThumbCoreModel_115) (fun _ h9 => h9) rfl d_ThumbCoreModel_instruct_146 ?_
        refine va_iast hx hb hK hP hD hS 2 0 rfl rfl (by show ¬ (_ ∨ _); decide) d_ThumbCoreModel_instruct_149 (fun H locs hP hD hS => ?_)
        have hP : va_P D tcl (wd_ThumbCoreModel cI cB cZ h h_memory h_reg h_kept h_pending h_active h_priorities q_size c_n c_z c_c c_v c_keptFlags c_bad c_h c_after c_entered c_mask c_asleep c_lockup c_counts c_counter c_reload c_current c_memory (upd c_reg (15 : Int32).toNatClampNeg c_after) c_kept c_pending c_active c_priorities) H := hP
        have hD : va_D A (wd_ThumbCoreModel cI cB cZ h h_memory h_reg h_kept h_pending h_active h_priorities q_size c_n c_z c_c c_v c_keptFlags c_bad c_h c_after c_entered c_mask c_asleep c_lockup c_counts c_counter c_reload c_current c_memory (upd c_reg (15 : Int32).toNatClampNeg c_after) c_kept c_pending c_active c_priorities) := hD
        exact RET H locs ls 150 (c_n, c_z, c_c, c_v, c_keptFlags, c_bad, c_h, c_after, c_entered, c_mask, c_asleep, c_lockup, c_current, c_memory, (upd c_reg (15 : Int32).toNatClampNeg c_after), c_kept, c_pending, c_active) d_ThumbCoreModel_instruct_150 hP hD hS hq
    · have hq := hq.trans (if_neg g_88)
      refine lv_iconst (v := 0) hx hb d_ThumbCoreModel_instruct_91 (by decide) ?_
      refine lv_istore_n (lv' := [(1, .int 0), (0, .ref h)]) hx hb d_ThumbCoreModel_instruct_92 rfl hl (by decide) rfl (fun ls hl => ?_)
      exact J_93 (17) H locs ls c_n c_z c_c c_v c_keptFlags c_bad c_h c_after c_entered c_mask c_asleep c_lockup c_current c_memory c_reg c_kept c_pending c_active 0 hP hD hS (lv_sub hl [1, 0] rfl) hq (tc_lpE _)
  have J_2 : ∀ n : Nat, ∀ (H : Heap) (locs : List Loc) (ls : Array Slot) (c_n : Bool) (c_z : Bool) (c_c : Bool) (c_v : Bool) (c_keptFlags : Int32) (c_bad : Bool) (c_h : Int32) (c_after : Int32) (c_entered : Bool) (c_mask : Bool) (c_asleep : Bool) (c_lockup : Bool) (c_current : Int32) (c_memory : Nat → Int32) (c_reg : Nat → Int32) (c_kept : Nat → Int32) (c_pending : Nat → Bool) (c_active : Nat → Bool) (y1 : Int32), va_P D tcl (wd_ThumbCoreModel cI cB cZ h h_memory h_reg h_kept h_pending h_active h_priorities q_size c_n c_z c_c c_v c_keptFlags c_bad c_h c_after c_entered c_mask c_asleep c_lockup c_counts c_counter c_reload c_current c_memory c_reg c_kept c_pending c_active c_priorities) H → va_D A (wd_ThumbCoreModel cI cB cZ h h_memory h_reg h_kept h_pending h_active h_priorities q_size c_n c_z c_c c_v c_keptFlags c_bad c_h c_after c_entered c_mask c_asleep c_lockup c_counts c_counter c_reload c_current c_memory c_reg c_kept c_pending c_active c_priorities) → va_S A s.heap H locs → lv_has ls 2 [(0, .ref h), (1, .int y1)] → FF = k_ThumbCoreModel_instruct_2 q_size c_priorities n c_n c_z c_c c_v c_keptFlags c_bad c_h c_after c_entered c_mask c_asleep c_lockup c_current c_memory c_reg c_kept c_pending c_active y1 → (tc_lp y1 16 n) → (vp_in c_current 16) → W p l e rm_ThumbCoreModel_instruct s m ([.ref h] : List Value).toArray below meth c H locs 0 0 Q (F0 m 2 ls []) := by
    intro n
    induction n with
    | zero =>
      intro H locs ls c_n c_z c_c c_v c_keptFlags c_bad c_h c_after c_entered c_mask c_asleep c_lockup c_current c_memory c_reg c_kept c_pending c_active y1 hP hD hS hl hq hinv hi_c_current
      exact (tc_lp0 hinv).elim
    | succ n_2 IH_2 =>
      intro H locs ls c_n c_z c_c c_v c_keptFlags c_bad c_h c_after c_entered c_mask c_asleep c_lockup c_current c_memory c_reg c_kept c_pending c_active y1 hP hD hS hl hq hinv hi_c_current
      refine lv_iload_n hx hb d_ThumbCoreModel_instruct_2 rfl (lv_at hl 1 rfl) ?_
      refine lv_bipush (v := 16) hx hb d_ThumbCoreModel_instruct_3 (by decide) ?_
      refine lv_icmp_ge (tgt := 26) hx hb d_ThumbCoreModel_instruct_5 (by decide) (fun g_5 => ?_) (fun g_5 => ?_)
      · have hq := hq.trans (if_pos g_5)
        refine lv_aload_n hx hb d_ThumbCoreModel_instruct_26 rfl (lv_at hl 0 rfl) ?_
        refine lv_aload_n hx hb d_ThumbCoreModel_instruct_27 rfl (lv_at hl 0 rfl) ?_
        refine tc_rd (va_runV (As := []) (rest := [.ref h]) ⟨hx, hb, hml, hown, hts⟩ (c_ThumbCoreModel_bits l D cI cB cZ h h_memory h_reg h_kept h_pending h_active h_priorities H.size q_size c_n c_z c_c c_v c_keptFlags c_bad c_h c_after c_entered c_mask c_asleep c_lockup c_counts c_counter c_reload c_current c_memory c_reg c_kept c_pending c_active c_priorities) (cwV 0 hts (tc_gV wl_ThumbCoreModel_86 wm_ThumbCoreModel_bits ws_ThumbCoreModel_bits wi_ThumbCoreModel wc_ThumbCoreModel_bits) rfl rfl rfl (by decide +kernel) ⟨Nat.le_of_ble_eq_true rfl, Nat.le_of_ble_eq_true rfl⟩) (tc_preV hK hN hP hD [0, 1, 2, 3, 4, 5, 6] rfl (by decide) (q0 := 0) rfl rfl) rfl rfl hl.1 rfl (lv_room (Nat.le_of_ble_eq_true rfl)) d_ThumbCoreModel_instruct_28 (by decide)) ?_
        refine lv_topi (fun v1 e_v1 => ?_)
        have hq := tc_nm hq e_v1
        refine va_put (D := D) (ci := 5) (v := .int v1) (ty := .int) (C := R_ThumbCoreModel) (T := F_ThumbCoreModel) (N := 23) hx hb hts u_ThumbCoreModel t_ThumbCoreModel t_ThumbCoreModel_ok n_ThumbCoreModel hown hK hP hD hS 0 rfl rfl 8 (by decide) (hts _ wf_ThumbCoreModel_199) (fun _ h9 => h9) rfl (by decide +kernel) rfl rfl (Nat.le_of_ble_eq_true rfl) d_ThumbCoreModel_instruct_31 (fun H locs hP hD hS => ?_)
        have hP : va_P D tcl (wd_ThumbCoreModel cI cB cZ h h_memory h_reg h_kept h_pending h_active h_priorities q_size c_n c_z c_c c_v v1 c_bad c_h c_after c_entered c_mask c_asleep c_lockup c_counts c_counter c_reload c_current c_memory c_reg c_kept c_pending c_active c_priorities) H := hP
        have hD : va_D A (wd_ThumbCoreModel cI cB cZ h h_memory h_reg h_kept h_pending h_active h_priorities q_size c_n c_z c_c c_v v1 c_bad c_h c_after c_entered c_mask c_asleep c_lockup c_counts c_counter c_reload c_current c_memory c_reg c_kept c_pending c_active c_priorities) := hD
        refine lv_aload_n hx hb d_ThumbCoreModel_instruct_34 rfl (lv_at hl 0 rfl) ?_
        refine lv_iconst (v := 0) hx hb d_ThumbCoreModel_instruct_35 (by decide) ?_
        refine va_put (D := D) (ci := 5) (v := .int (bI false)) (ty := .boolean) (C := R_ThumbCoreModel) (T := F_ThumbCoreModel) (N := 23) hx hb hts u_ThumbCoreModel t_ThumbCoreModel t_ThumbCoreModel_ok n_ThumbCoreModel hown hK hP hD hS 0 rfl rfl 9 (by decide) (hts _ wf_ThumbCoreModel_41) (fun _ h9 => h9) rfl (by decide +kernel) (tc_nb false) (tc_fb false) (Nat.le_of_ble_eq_true rfl) d_ThumbCoreModel_instruct_36 (fun H locs hP hD hS => ?_)
        have hP : va_P D tcl (wd_ThumbCoreModel cI cB cZ h h_memory h_reg h_kept h_pending h_active h_priorities q_size c_n c_z c_c c_v v1 false c_h c_after c_entered c_mask c_asleep c_lockup c_counts c_counter c_reload c_current c_memory c_reg c_kept c_pending c_active c_priorities) H := hP
        have hD : va_D A (wd_ThumbCoreModel cI cB cZ h h_memory h_reg h_kept h_pending h_active h_priorities q_size c_n c_z c_c c_v v1 false c_h c_after c_entered c_mask c_asleep c_lockup c_counts c_counter c_reload c_current c_memory c_reg c_kept c_pending c_active c_priorities) := hD
        refine lv_aload_n hx hb d_ThumbCoreModel_instruct_39 rfl (lv_at hl 0 rfl) ?_
        refine lv_iconst (v := 0) hx hb d_ThumbCoreModel_instruct_40 (by decide) ?_
        refine va_put (D := D) (ci := 5) (v := .int (bI false)) (ty := .boolean) (C := R_ThumbCoreModel) (T := F_ThumbCoreModel) (N := 23) hx hb hts u_ThumbCoreModel t_ThumbCoreModel t_ThumbCoreModel_ok n_ThumbCoreModel hown hK hP hD hS 0 rfl rfl 12 (by decide) (hts _ wf_ThumbCoreModel_167) (fun _ h9 => h9) rfl (by decide +kernel) (tc_nb false) (tc_fb false) (Nat.le_of_ble_eq_true rfl) d_ThumbCoreModel_instruct_41 (fun H locs hP hD hS => ?_)
        have hP : va_P D tcl (wd_ThumbCoreModel cI cB cZ h h_memory h_reg h_kept h_pending h_active h_priorities q_size c_n c_z c_c c_v v1 false c_h c_after false c_mask c_asleep c_lockup c_counts c_counter c_reload c_current c_memory c_reg c_kept c_pending c_active c_priorities) H := hP
        have hD : va_D A (wd_ThumbCoreModel cI cB cZ h h_memory h_reg h_kept h_pending h_active h_priorities q_size c_n c_z c_c c_v v1 false c_h c_after false c_mask c_asleep c_lockup c_counts c_counter c_reload c_current c_memory c_reg c_kept c_pending c_active c_priorities) := hD
        refine lv_aload_n hx hb d_ThumbCoreModel_instruct_44 rfl (lv_at hl 0 rfl) ?_
        refine lv_aload_n hx hb d_ThumbCoreModel_instruct_45 rfl (lv_at hl 0 rfl) ?_
        refine lv_aload_n hx hb d_ThumbCoreModel_instruct_46 rfl (lv_at hl 0 rfl) ?_
        refine va_get (D := D) (ci := 5) (v := .ref h_reg) (C := R_ThumbCoreModel) (T := F_ThumbCoreModel) (N := 23) hx hb hts u_ThumbCoreModel hown hK hP 0 rfl rfl 2 (by decide) (hts _ wf_ThumbCoreModel_13) (fun _ h9 => h9) rfl d_ThumbCoreModel_instruct_47 ?_
        refine lv_bipush (v := 15) hx hb d_ThumbCoreModel_instruct_50 (by decide) ?_
        refine va_iald hx hb hK hP 2 0 rfl rfl (by show ¬ (_ ∨ _); decide) d_ThumbCoreModel_instruct_52 ?_
        refine lv_iconst (v := 2) hx hb d_ThumbCoreModel_instruct_53 (by decide) ?_
        refine tc_mi (wo := fun u => (wd_ThumbCoreModel cI cB cZ h h_memory h_reg h_kept h_pending h_active h_priorities q_size c_n c_z c_c c_v v1 u.2 c_h c_after false c_mask c_asleep c_lockup c_counts c_counter c_reload c_current c_memory c_reg c_kept c_pending c_active c_priorities)) (va_runV (As := [.int (c_reg (15 : Int32).toNatClampNeg), .int 2]) (rest := [.ref h]) ⟨hx, hb, hml, hown, hts⟩ (c_ThumbCoreModel_read l D cI cB cZ h h_memory h_reg h_kept h_pending h_active h_priorities H.size q_size c_n c_z c_c c_v v1 false c_h c_after false c_mask c_asleep c_lockup c_counts c_counter c_reload c_current c_memory c_reg c_kept c_pending c_active c_priorities (c_reg (15 : Int32).toNatClampNeg) 2 hm (by decide)) (cwV 2 hts (tc_gV wl_ThumbCoreModel_45 wm_ThumbCoreModel_read ws_ThumbCoreModel_read wi_ThumbCoreModel wc_ThumbCoreModel_read) rfl rfl rfl (by decide +kernel) ⟨Nat.le_of_ble_eq_true rfl, Nat.le_of_ble_eq_true rfl⟩) (tc_preV hK hN hP hD [0, 1, 2, 3, 4, 5, 6] rfl (by decide) (q0 := 0) rfl rfl) rfl rfl hl.1 rfl (lv_room (Nat.le_of_ble_eq_true rfl)) d_ThumbCoreModel_instruct_54 (by decide)) hP hD hS hA [0, 1, 2, 3, 4, 5, 6] [] [0, 1, 2, 3, 4, 5, 6] rfl rfl (by decide) (by decide) (by decide) (fun _ => rfl) (fun u H locs hu hP hD hS => ?_)
        obtain ⟨r2, s3⟩ := u
        have hq := hq.trans (un2_eq hu _)
        have e_r2 := hu
        have hP : va_P D tcl (wd_ThumbCoreModel cI cB cZ h h_memory h_reg h_kept h_pending h_active h_priorities q_size c_n c_z c_c c_v v1 s3 c_h c_after false c_mask c_asleep c_lockup c_counts c_counter c_reload c_current c_memory c_reg c_kept c_pending c_active c_priorities) H := hP
        have hD : va_D A (wd_ThumbCoreModel cI cB cZ h h_memory h_reg h_kept h_pending h_active h_priorities q_size c_n c_z c_c c_v v1 s3 c_h c_after false c_mask c_asleep c_lockup c_counts c_counter c_reload c_current c_memory c_reg c_kept c_pending c_active c_priorities) := hD
        refine W.eq (g2 := F0 m 57 ls [.int r2, .ref h]) rfl ?_
        refine va_put (D := D) (ci := 5) (v := .int r2) (ty := .int) (C := R_ThumbCoreModel) (T := F_ThumbCoreModel) (N := 23) hx hb hts u_ThumbCoreModel t_ThumbCoreModel t_ThumbCoreModel_ok n_ThumbCoreModel hown hK hP hD hS 0 rfl rfl 10 (by decide) (hts _ wf_ThumbCoreModel_125) (fun _ h9 => h9) rfl (by decide +kernel) rfl rfl (Nat.le_of_ble_eq_true rfl) d_ThumbCoreModel_instruct_57 (fun H locs hP hD hS => ?_)
        have hP : va_P D tcl (wd_ThumbCoreModel cI cB cZ h h_memory h_reg h_kept h_pending h_active h_priorities q_size c_n c_z c_c c_v v1 s3 r2 c_after false c_mask c_asleep c_lockup c_counts c_counter c_reload c_current c_memory c_reg c_kept c_pending c_active c_priorities) H := hP
        have hD : va_D A (wd_ThumbCoreModel cI cB cZ h h_memory h_reg h_kept h_pending h_active h_priorities q_size c_n c_z c_c c_v v1 s3 r2 c_after false c_mask c_asleep c_lockup c_counts c_counter c_reload c_current c_memory c_reg c_kept c_pending c_active c_priorities) := hD
        refine lv_aload_n hx hb d_ThumbCoreModel_instruct_60 rfl (lv_at hl 0 rfl) ?_
        refine lv_aload_n hx hb d_ThumbCoreModel_instruct_61 rfl (lv_at hl 0 rfl) ?_
        refine va_get (D := D) (ci := 5) (v := .ref h_reg) (C := R_ThumbCoreModel) (T := F_ThumbCoreModel) (N := 23) hx hb hts u_ThumbCoreModel hown hK hP 0 rfl rfl 2 (by decide) (hts _ wf_ThumbCoreModel_13) (fun _ h9 => h9) rfl d_ThumbCoreModel_instruct_62 ?_
        refine lv_bipush (v := 15) hx hb d_ThumbCoreModel_instruct_65 (by decide) ?_
        refine va_iald hx hb hK hP 2 0 rfl rfl (by show ¬ (_ ∨ _); decide) d_ThumbCoreModel_instruct_67 ?_
        refine lv_iconst (v := 2) hx hb d_ThumbCoreModel_instruct_68 (by decide) ?_
        refine lv_iadd hx hb d_ThumbCoreModel_instruct_69 ?_
        refine lv_topi (fun v4 e_v4 => ?_)
        have hq := tc_nm hq e_v4
        refine va_put (D := D) (ci := 5) (v := .int v4) (ty := .int) (C := R_ThumbCoreModel) (T := F_ThumbCoreModel) (N := 23) hx hb hts u_ThumbCoreModel t_ThumbCoreModel t_ThumbCoreModel_ok n_ThumbCoreModel hown hK hP hD hS 0 rfl rfl 11 (by decide) (hts _ wf_ThumbCoreModel_115) (fun _ h9 => h9) rfl (by decide +kernel) rfl rfl (Nat.le_of_ble_eq_true rfl) d_ThumbCoreModel_instruct_70 (fun H locs hP hD hS => ?_)
        have hP : va_P D tcl (wd_ThumbCoreModel cI cB cZ h h_memory h_reg h_kept h_pending h_active h_priorities q_size c_n c_z c_c c_v v1 s3 r2 v4 false c_mask c_asleep c_lockup c_counts c_counter c_reload c_current c_memory c_reg c_kept c_pending c_active c_priorities) H := hP
        have hD : va_D A (wd_ThumbCoreModel cI cB cZ h h_memory h_reg h_kept h_pending h_active h_priorities q_size c_n c_z c_c c_v v1 s3 r2 v4 false c_mask c_asleep c_lockup c_counts c_counter c_reload c_current c_memory c_reg c_kept c_pending c_active c_priorities) := hD
        refine lv_aload_n hx hb d_ThumbCoreModel_instruct_73 rfl (lv_at hl 0 rfl) ?_
        refine va_get (D := D) (ci := 5) (v := .int (bI s3)) (C := R_ThumbCoreModel) (T := F_ThumbCoreModel) (N := 23) hx hb hts u_ThumbCoreModel hown hK hP 0 rfl rfl 9 (by decide) (hts _ wf_ThumbCoreModel_41) (fun _ h9 => h9) rfl d_ThumbCoreModel_instruct_74 ?_
        refine lv_if_ne (tgt := 84) hx hb d_ThumbCoreModel_instruct_77 (by decide) (fun g_77 => ?_) (fun g_77 => ?_)
        · have hq := hq.trans (if_pos g_77)
          exact J_84 H locs ls c_n c_z c_c c_v v1 s3 r2 v4 false c_mask c_asleep c_lockup c_current c_memory c_reg c_kept c_pending c_active hP hD hS (lv_sub hl [0] rfl) hq
        · have hq := hq.trans (if_neg (fun g => g g_77))
          refine lv_aload_n hx hb d_ThumbCoreModel_instruct_80 rfl (lv_at hl 0 rfl) ?_
          refine tc_mv (wo := fun u => (wd_ThumbCoreModel cI cB cZ h h_memory h_reg h_kept h_pending h_active h_priorities q_size u.1 u.2.1 u.2.2.1 u.2.2.2.1 v1 u.2.2.2.2.1 r2 u.2.2.2.2.2.1 u.2.2.2.2.2.2.1 u.2.2.2.2.2.2.2.1 u.2.2.2.2.2.2.2.2.1 u.2.2.2.2.2.2.2.2.2.1 c_counts c_counter c_reload u.2.2.2.2.2.2.2.2.2.2.1 u.2.2.2.2.2.2.2.2.2.2.2.1 u.2.2.2.2.2.2.2.2.2.2.2.2.1 c_kept u.2.2.2.2.2.2.2.2.2.2.2.2.2.1 u.2.2.2.2.2.2.2.2.2.2.2.2.2.2 c_priorities)) (va_runV (As := []) (rest := []) ⟨hx, hb, hml, hown, hts⟩ (c_ThumbCoreModel_perform l D cI cB cZ h h_memory h_reg h_kept h_pending h_active h_priorities H.size q_size c_n c_z c_c c_v v1 s3 r2 v4 false c_mask c_asleep c_lockup c_counts c_counter c_reload c_current c_memory c_reg c_kept c_pending c_active c_priorities hm hi_c_current) (cwV 0 hts (tc_gV wl_ThumbCoreModel_202 wm_ThumbCoreModel_perform ws_ThumbCoreModel_perform wi_ThumbCoreModel wc_ThumbCoreModel_perform) rfl rfl rfl (by decide +kernel) ⟨Nat.le_of_ble_eq_true rfl, Nat.le_of_ble_eq_true rfl⟩) (tc_preV hK hN hP hD [0, 1, 2, 3, 4, 5, 6] rfl (by decide) (q0 := 0) rfl rfl) rfl rfl hl.1 rfl (lv_room (Nat.le_of_ble_eq_true rfl)) d_ThumbCoreModel_instruct_81 (by decide)) hP hD hS hA [0, 1, 2, 3, 4, 5, 6] [] [0, 1, 2, 3, 4, 5, 6] rfl rfl (by decide) (by decide) (by decide) (fun _ => rfl) (fun u H locs hu hP hD hS => ?_)
          obtain ⟨s5, s6, s7, s8, s9, s10, s11, s12, s13, s14, s15, s16, s17, s18, s19⟩ := u
          have hq := hq.trans (un15_eq hu _)
          have e_s5 := hu
          have hP : va_P D tcl (wd_ThumbCoreModel cI cB cZ h h_memory h_reg h_kept h_pending h_active h_priorities q_size s5 s6 s7 s8 v1 s9 r2 s10 s11 s12 s13 s14 c_counts c_counter c_reload s15 s16 s17 c_kept s18 s19 c_priorities) H := hP
          have hD : va_D A (wd_ThumbCoreModel cI cB cZ h h_memory h_reg h_kept h_pending h_active h_priorities q_size s5 s6 s7 s8 v1 s9 r2 s10 s11 s12 s13 s14 c_counts c_counter c_reload s15 s16 s17 c_kept s18 s19 c_priorities) := hD
          exact J_84 H locs ls s5 s6 s7 s8 v1 s9 r2 s10 s11 s12 s13 s14 s15 s16 s17 c_kept s18 s19 hP hD hS (lv_sub hl [0] rfl) hq
      · have hq := hq.trans (if_neg g_5)
        have hgd : y1.toInt < ((16 : Nat) : Int) := tc_gge g_5 (by decide)
        refine lv_aload_n hx hb d_ThumbCoreModel_instruct_8 rfl (lv_at hl 0 rfl) ?_
        refine va_get (D := D) (ci := 5) (v := .ref h_kept) (C := R_ThumbCoreModel) (T := F_ThumbCoreModel) (N := 23) hx hb hts u_ThumbCoreModel hown hK hP 0 rfl rfl 7 (by decide) (hts _ wf_ThumbCoreModel_17) (fun _ h9 => h9) rfl d_ThumbCoreModel_instruct_9 ?_
        refine lv_iload_n hx hb d_ThumbCoreModel_instruct_12 rfl (lv_at hl 1 rfl) ?_
        refine lv_aload_n hx hb d_ThumbCoreModel_instruct_13 rfl (lv_at hl 0 rfl) ?_
        refine va_get (D := D) (ci := 5) (v := .ref h_reg) (C := R_ThumbCoreModel) (T := F_ThumbCoreModel) (N := 23) hx hb hts u_ThumbCoreModel hown hK hP 0 rfl rfl 2 (by decide) (hts _ wf_ThumbCoreModel_13) (fun _ h9 => h9) rfl d_ThumbCoreModel_instruct_14 ?_
        refine lv_iload_n hx hb d_ThumbCoreModel_instruct_17 rfl (lv_at hl 1 rfl) ?_
        refine va_iald hx hb hK hP 2 0 rfl rfl (tc_lpI hinv hgd (by decide)) d_ThumbCoreModel_instruct_18 ?_
        refine va_iast hx hb hK hP hD hS 3 0 rfl rfl (tc_lpI hinv hgd (by decide)) d_ThumbCoreModel_instruct_19 (fun H locs hP hD hS => ?_)
        have hP : va_P D tcl (wd_ThumbCoreModel cI cB cZ h h_memory h_reg h_kept h_pending h_active h_priorities q_size c_n c_z c_c c_v c_keptFlags c_bad c_h c_after c_entered c_mask c_asleep c_lockup c_counts c_counter c_reload c_current c_memory c_reg (upd c_kept y1.toNatClampNeg (c_reg y1.toNatClampNeg)) c_pending c_active c_priorities) H := hP
        have hD : va_D A (wd_ThumbCoreModel cI cB cZ h h_memory h_reg h_kept h_pending h_active h_priorities q_size c_n c_z c_c c_v c_keptFlags c_bad c_h c_after c_entered c_mask c_asleep c_lockup c_counts c_counter c_reload c_current c_memory c_reg (upd c_kept y1.toNatClampNeg (c_reg y1.toNatClampNeg)) c_pending c_active c_priorities) := hD
        refine lv_iinc (k := 1) (v := (y1 + 1)) (lv' := [(1, .int (y1 + 1)), (0, .ref h)]) hx hb d_ThumbCoreModel_instruct_20 hl rfl rfl (by decide) rfl (fun ls hl => ?_)
        refine lv_goto (tgt := 2) hx hb d_ThumbCoreModel_instruct_23 (by decide) ?_
        exact IH_2 H locs ls c_n c_z c_c c_v c_keptFlags c_bad c_h c_after c_entered c_mask c_asleep c_lockup c_current c_memory c_reg (upd c_kept y1.toNatClampNeg (c_reg y1.toNatClampNeg)) c_pending c_active (y1 + 1) hP hD hS (lv_sub hl [1, 0] rfl) hq (tc_lpS hinv hgd (by decide)) hi_c_current
  have hq : FF = f_ThumbCoreModel_instruct q_size c_priorities c_n c_z c_c c_v c_keptFlags c_bad c_h c_after c_entered c_mask c_asleep c_lockup c_current c_memory c_reg c_kept c_pending c_active := hF.symm
  revert hP hD hS
  suffices G : ∀ (H : Heap) (locs : List Loc), va_P D tcl (wd_ThumbCoreModel cI cB cZ h h_memory h_reg h_kept h_pending h_active h_priorities q_size c_n c_z c_c c_v c_keptFlags c_bad c_h c_after c_entered c_mask c_asleep c_lockup c_counts c_counter c_reload c_current c_memory c_reg c_kept c_pending c_active c_priorities) H → va_D A (wd_ThumbCoreModel cI cB cZ h h_memory h_reg h_kept h_pending h_active h_priorities q_size c_n c_z c_c c_v c_keptFlags c_bad c_h c_after c_entered c_mask c_asleep c_lockup c_counts c_counter c_reload c_current c_memory c_reg c_kept c_pending c_active c_priorities) → va_S A s.heap H locs → W p l e rm_ThumbCoreModel_instruct s m ([.ref h] : List Value).toArray below meth c H locs 0 0 Q (F0 m 0 ls []) from fun hP hD hS => G _ _ hP hD hS
  intro H locs hP hD hS
  refine lv_iconst (v := 0) hx hb d_ThumbCoreModel_instruct_0 (by decide) ?_
  refine lv_istore_n (lv' := [(1, .int 0), (0, .ref h)]) hx hb d_ThumbCoreModel_instruct_1 rfl hl (by decide) rfl (fun ls hl => ?_)
  exact J_2 (17) H locs ls c_n c_z c_c c_v c_keptFlags c_bad c_h c_after c_entered c_mask c_asleep c_lockup c_current c_memory c_reg c_kept c_pending c_active 0 hP hD hS (lv_sub hl [1, 0] rfl) hq (tc_lpE _) hi_c_current
abbrev rm_ThumbCoreModel_tickOnce : Room := { frames := 1, cells := 0, slots := 0, locals := 24 }
set_option maxHeartbeats 4000000 in
set_option maxRecDepth 100000 in
theorem c_ThumbCoreModel_tickOnce (l : Launch) (D : va_G) (cI cB cZ : ClassId) (h h_memory h_reg h_kept h_pending h_active h_priorities sz : Nat) (q_size : Int32) (c_n : Bool) (c_z : Bool) (c_c : Bool) (c_v : Bool) (c_keptFlags : Int32) (c_bad : Bool) (c_h : Int32) (c_after : Int32) (c_entered : Bool) (c_mask : Bool) (c_asleep : Bool) (c_lockup : Bool) (c_counts : Bool) (c_counter : Int32) (c_reload : Int32) (c_current : Int32) (c_memory : Nat → Int32) (c_reg : Nat → Int32) (c_kept : Nat → Int32) (c_pending : Nat → Bool) (c_active : Nat → Bool) (c_priorities : Nat → Int32) : Met l y_ThumbCoreModel_tickOnce (.code y_ThumbCoreModel_tickOnce b_ThumbCoreModel_tickOnce 2 none :: tcb) rm_ThumbCoreModel_tickOnce (tc_Pw D tcl (tys cI cB cZ) (wd_ThumbCoreModel cI cB cZ h h_memory h_reg h_kept h_pending h_active h_priorities q_size c_n c_z c_c c_v c_keptFlags c_bad c_h c_after c_entered c_mask c_asleep c_lockup c_counts c_counter c_reload c_current c_memory c_reg c_kept c_pending c_active c_priorities) sz ([.ref h] : List Value) none) (tc_Qv D tcl (wd_ThumbCoreModel cI cB cZ h h_memory h_reg h_kept h_pending h_active h_priorities q_size c_n c_z c_c c_v c_keptFlags c_bad c_h c_after c_entered c_mask c_asleep c_lockup c_counts c_counter c_reload c_current c_memory c_reg c_kept c_pending c_active c_priorities) sz (fun u => (wd_ThumbCoreModel cI cB cZ h h_memory h_reg h_kept h_pending h_active h_priorities q_size c_n c_z c_c c_v c_keptFlags c_bad c_h c_after c_entered c_mask c_asleep c_lockup c_counts u.1 c_reload c_current c_memory c_reg c_kept u.2 c_active c_priorities)) (f_ThumbCoreModel_tickOnce c_counts c_reload c_counter c_pending)) 0 0 (va_A (wd_ThumbCoreModel cI cB cZ h h_memory h_reg h_kept h_pending h_active h_priorities q_size c_n c_z c_c c_v c_keptFlags c_bad c_h c_after c_entered c_mask c_asleep c_lockup c_counts c_counter c_reload c_current c_memory c_reg c_kept c_pending c_active c_priorities) sz) := by
  refine tc_mu_v (by decide) (Nat.le_of_ble_eq_true rfl) ?_
  intro p e s m below meth c A Q ls hx hb hml hts hown hK hN hP hD hA hZ hl RET
  have hS : va_S A s.heap s.heap [] := va_S.rf
  have hl : lv_has ls 2 [(0, .ref h)] := hl
  generalize hF : f_ThumbCoreModel_tickOnce c_counts c_reload c_counter c_pending = FF at RET
  have J_74 : ∀ (H : Heap) (locs : List Loc) (ls : Array Slot) (c_counter : Int32) (c_pending : Nat → Bool) (z2 : Bool), va_P D tcl (wd_ThumbCoreModel cI cB cZ h h_memory h_reg h_kept h_pending h_active h_priorities q_size c_n c_z c_c c_v c_keptFlags c_bad c_h c_after c_entered c_mask c_asleep c_lockup c_counts c_counter c_reload c_current c_memory c_reg c_kept c_pending c_active c_priorities) H → va_D A (wd_ThumbCoreModel cI cB cZ h h_memory h_reg h_kept h_pending h_active h_priorities q_size c_n c_z c_c c_v c_keptFlags c_bad c_h c_after c_entered c_mask c_asleep c_lockup c_counts c_counter c_reload c_current c_memory c_reg c_kept c_pending c_active c_priorities) → va_S A s.heap H locs → lv_has ls 2 [] → FF = k_ThumbCoreModel_tickOnce_74 c_counts c_reload c_counter c_pending z2 → W p l e rm_ThumbCoreModel_tickOnce s m ([.ref h] : List Value).toArray below meth c H locs 0 0 Q (F0 m 74 ls [.int (bI z2), .int 15, .ref h_pending]) := by
    intro H locs ls c_counter c_pending z2 hP hD hS hl hq
    refine va_zast (x := bI z2) hx hb hK hP hD hS 4 2 rfl rfl (by show ¬ (_ ∨ _); decide) d_ThumbCoreModel_tickOnce_74 (fun H locs hP hD hS => ?_)
    rw [tc_upz] at hP hD
    have hP : va_P D tcl (wd_ThumbCoreModel cI cB cZ h h_memory h_reg h_kept h_pending h_active h_priorities q_size c_n c_z c_c c_v c_keptFlags c_bad c_h c_after c_entered c_mask c_asleep c_lockup c_counts c_counter c_reload c_current c_memory c_reg c_kept (va_up c_pending (15 : Int32).toNatClampNeg z2) c_active c_priorities) H := hP
    have hD : va_D A (wd_ThumbCoreModel cI cB cZ h h_memory h_reg h_kept h_pending h_active h_priorities q_size c_n c_z c_c c_v c_keptFlags c_bad c_h c_after c_entered c_mask c_asleep c_lockup c_counts c_counter c_reload c_current c_memory c_reg c_kept (va_up c_pending (15 : Int32).toNatClampNeg z2) c_active c_priorities) := hD
    exact RET H locs ls 75 (c_counter, (va_up c_pending (15 : Int32).toNatClampNeg z2)) d_ThumbCoreModel_tickOnce_75 hP hD hS hq
  have J_69 : ∀ (H : Heap) (locs : List Loc) (ls : Array Slot) (c_counter : Int32) (c_pending : Nat → Bool), va_P D tcl (wd_ThumbCoreModel cI cB cZ h h_memory h_reg h_kept h_pending h_active h_priorities q_size c_n c_z c_c c_v c_keptFlags c_bad c_h c_after c_entered c_mask c_asleep c_lockup c_counts c_counter c_reload c_current c_memory c_reg c_kept c_pending c_active c_priorities) H → va_D A (wd_ThumbCoreModel cI cB cZ h h_memory h_reg h_kept h_pending h_active h_priorities q_size c_n c_z c_c c_v c_keptFlags c_bad c_h c_after c_entered c_mask c_asleep c_lockup c_counts c_counter c_reload c_current c_memory c_reg c_kept c_pending c_active c_priorities) → va_S A s.heap H locs → lv_has ls 2 [] → FF = k_ThumbCoreModel_tickOnce_69 c_counts c_reload c_counter c_pending → W p l e rm_ThumbCoreModel_tickOnce s m ([.ref h] : List Value).toArray below meth c H locs 0 0 Q (F0 m 69 ls [.int 15, .ref h_pending]) := by
    intro H locs ls c_counter c_pending hP hD hS hl hq
    refine lv_iconst (v := 1) hx hb d_ThumbCoreModel_tickOnce_69 (by decide) ?_
    refine lv_goto (tgt := 74) hx hb d_ThumbCoreModel_tickOnce_70 (by decide) ?_
    exact J_74 H locs ls c_counter c_pending true hP hD hS (lv_sub hl [] rfl) hq
  have J_73 : ∀ (H : Heap) (locs : List Loc) (ls : Array Slot) (c_counter : Int32) (c_pending : Nat → Bool), va_P D tcl (wd_ThumbCoreModel cI cB cZ h h_memory h_reg h_kept h_pending h_active h_priorities q_size c_n c_z c_c c_v c_keptFlags c_bad c_h c_after c_entered c_mask c_asleep c_lockup c_counts c_counter c_reload c_current c_memory c_reg c_kept c_pending c_active c_priorities) H → va_D A (wd_ThumbCoreModel cI cB cZ h h_memory h_reg h_kept h_pending h_active h_priorities q_size c_n c_z c_c c_v c_keptFlags c_bad c_h c_after c_entered c_mask c_asleep c_lockup c_counts c_counter c_reload c_current c_memory c_reg c_kept c_pending c_active c_priorities) → va_S A s.heap H locs → lv_has ls 2 [] → FF = k_ThumbCoreModel_tickOnce_73 c_counts c_reload c_counter c_pending → W p l e rm_ThumbCoreModel_tickOnce s m ([.ref h] : List Value).toArray below meth c H locs 0 0 Q (F0 m 73 ls [.int 15, .ref h_pending]) := by
    intro H locs ls c_counter c_pending hP hD hS hl hq
    refine lv_iconst (v := 0) hx hb d_ThumbCoreModel_tickOnce_73 (by decide) ?_
    exact J_74 H locs ls c_counter c_pending false hP hD hS (lv_sub hl [] rfl) hq
  have J_39 : ∀ (H : Heap) (locs : List Loc) (ls : Array Slot) (c_counter : Int32) (c_pending : Nat → Bool) (y1 : Bool) (z1 : Int32), va_P D tcl (wd_ThumbCoreModel cI cB cZ h h_memory h_reg h_kept h_pending h_active h_priorities q_size c_n c_z c_c c_v c_keptFlags c_bad c_h c_after c_entered c_mask c_asleep c_lockup c_counts c_counter c_reload c_current c_memory c_reg c_kept c_pending c_active c_priorities) H → va_D A (wd_ThumbCoreModel cI cB cZ h h_memory h_reg h_kept h_pending h_active h_priorities q_size c_n c_z c_c c_v c_keptFlags c_bad c_h c_after c_entered c_mask c_asleep c_lockup c_counts c_counter c_reload c_current c_memory c_reg c_kept c_pending c_active c_priorities) → va_S A s.heap H locs → lv_has ls 2 [(0, .ref h), (1, .int (bI y1))] → FF = k_ThumbCoreModel_tickOnce_39 c_counts c_reload c_counter c_pending y1 z1 → W p l e rm_ThumbCoreModel_tickOnce s m ([.ref h] : List Value).toArray below meth c H locs 0 0 Q (F0 m 39 ls [.int z1, .ref h]) := by
    intro H locs ls c_counter c_pending y1 z1 hP hD hS hl hq
    refine va_put (D := D) (ci := 5) (v := .int z1) (ty := .int) (C := R_ThumbCoreModel) (T := F_ThumbCoreModel) (N := 23) hx hb hts u_ThumbCoreModel t_ThumbCoreModel t_ThumbCoreModel_ok n_ThumbCoreModel hown hK hP hD hS 0 rfl rfl 17 (by decide) (hts _ wf_ThumbCoreModel_65) (fun _ h9 => h9) rfl (by decide +kernel) rfl rfl (Nat.le_of_ble_eq_true rfl) d_ThumbCoreModel_tickOnce_39 (fun H locs hP hD hS => ?_)
    have hP : va_P D tcl (wd_ThumbCoreModel cI cB cZ h h_memory h_reg h_kept h_pending h_active h_priorities q_size c_n c_z c_c c_v c_keptFlags c_bad c_h c_after c_entered c_mask c_asleep c_lockup c_counts z1 c_reload c_current c_memory c_reg c_kept c_pending c_active c_priorities) H := hP
    have hD : va_D A (wd_ThumbCoreModel cI cB cZ h h_memory h_reg h_kept h_pending h_active h_priorities q_size c_n c_z c_c c_v c_keptFlags c_bad c_h c_after c_entered c_mask c_asleep c_lockup c_counts z1 c_reload c_current c_memory c_reg c_kept c_pending c_active c_priorities) := hD
    refine lv_aload_n hx hb d_ThumbCoreModel_tickOnce_42 rfl (lv_at hl 0 rfl) ?_
    refine va_get (D := D) (ci := 5) (v := .ref h_pending) (C := R_ThumbCoreModel) (T := F_ThumbCoreModel) (N := 23) hx hb hts u_ThumbCoreModel hown hK hP 0 rfl rfl 20 (by decide) (hts _ wf_ThumbCoreModel_20) (fun _ h9 => h9) rfl d_ThumbCoreModel_tickOnce_43 ?_
    refine lv_bipush (v := 15) hx hb d_ThumbCoreModel_tickOnce_46 (by decide) ?_
    refine lv_aload_n hx hb d_ThumbCoreModel_tickOnce_48 rfl (lv_at hl 0 rfl) ?_
    refine va_get (D := D) (ci := 5) (v := .ref h_pending) (C := R_ThumbCoreModel) (T := F_ThumbCoreModel) (N := 23) hx hb hts u_ThumbCoreModel hown hK hP 0 rfl rfl 20 (by decide) (hts _ wf_ThumbCoreModel_20) (fun _ h9 => h9) rfl d_ThumbCoreModel_tickOnce_49 ?_
    refine lv_bipush (v := 15) hx hb d_ThumbCoreModel_tickOnce_52 (by decide) ?_
    refine va_zald hx hb hK hP 4 2 rfl rfl (by show ¬ (_ ∨ _); decide) d_ThumbCoreModel_tickOnce_54 ?_
    refine lv_if_ne (tgt := 69) hx hb d_ThumbCoreModel_tickOnce_55 (by decide) (fun g_55 => ?_) (fun g_55 => ?_)
    · have hq := hq.trans (if_pos g_55)
      exact J_69 H locs ls z1 c_pending hP hD hS (lv_sub hl [] rfl) hq
    · have hq := hq.trans (if_neg (fun g => g g_55))
      refine lv_iload_n hx hb d_ThumbCoreModel_tickOnce_58 rfl (lv_at hl 1 rfl) ?_
      refine lv_if_ne (tgt := 73) hx hb d_ThumbCoreModel_tickOnce_59 (by decide) (fun g_59 => ?_) (fun g_59 => ?_)
      · have hq := hq.trans (if_pos g_59)
        exact J_73 H locs ls z1 c_pending hP hD hS (lv_sub hl [] rfl) hq
      · have hq := hq.trans (if_neg (fun g => g g_59))
        refine lv_aload_n hx hb d_ThumbCoreModel_tickOnce_62 rfl (lv_at hl 0 rfl) ?_
        refine va_get (D := D) (ci := 5) (v := .int z1) (C := R_ThumbCoreModel) (T := F_ThumbCoreModel) (N := 23) hx hb hts u_ThumbCoreModel hown hK hP 0 rfl rfl 17 (by decide) (hts _ wf_ThumbCoreModel_65) (fun _ h9 => h9) rfl d_ThumbCoreModel_tickOnce_63 ?_
        refine lv_if_ne (tgt := 73) hx hb d_ThumbCoreModel_tickOnce_66 (by decide) (fun g_66 => ?_) (fun g_66 => ?_)
        · have hq := hq.trans (if_pos g_66)
          exact J_73 H locs ls z1 c_pending hP hD hS (lv_sub hl [] rfl) hq
        · have hq := hq.trans (if_neg (fun g => g g_66))
          exact J_69 H locs ls z1 c_pending hP hD hS (lv_sub hl [] rfl) hq
  have J_20 : ∀ (H : Heap) (locs : List Loc) (ls : Array Slot) (c_counter : Int32) (c_pending : Nat → Bool) (z0 : Bool), va_P D tcl (wd_ThumbCoreModel cI cB cZ h h_memory h_reg h_kept h_pending h_active h_priorities q_size c_n c_z c_c c_v c_keptFlags c_bad c_h c_after c_entered c_mask c_asleep c_lockup c_counts c_counter c_reload c_current c_memory c_reg c_kept c_pending c_active c_priorities) H → va_D A (wd_ThumbCoreModel cI cB cZ h h_memory h_reg h_kept h_pending h_active h_priorities q_size c_n c_z c_c c_v c_keptFlags c_bad c_h c_after c_entered c_mask c_asleep c_lockup c_counts c_counter c_reload c_current c_memory c_reg c_kept c_pending c_active c_priorities) → va_S A s.heap H locs → lv_has ls 2 [(0, .ref h)] → FF = k_ThumbCoreModel_tickOnce_20 c_counts c_reload c_counter c_pending z0 → W p l e rm_ThumbCoreModel_tickOnce s m ([.ref h] : List Value).toArray below meth c H locs 0 0 Q (F0 m 20 ls [.int (bI z0)]) := by
    intro H locs ls c_counter c_pending z0 hP hD hS hl hq
    refine lv_istore_n (lv' := [(1, .int (bI z0)), (0, .ref h)]) hx hb d_ThumbCoreModel_tickOnce_20 rfl hl (by decide) rfl (fun ls hl => ?_)
    refine lv_aload_n hx hb d_ThumbCoreModel_tickOnce_21 rfl (lv_at hl 1 rfl) ?_
    refine lv_iload_n hx hb d_ThumbCoreModel_tickOnce_22 rfl (lv_at hl 0 rfl) ?_
    refine lv_if_eq (tgt := 33) hx hb d_ThumbCoreModel_tickOnce_23 (by decide) (fun g_23 => ?_) (fun g_23 => ?_)
    · have hq := hq.trans (if_pos g_23)
      refine lv_aload_n hx hb d_ThumbCoreModel_tickOnce_33 rfl (lv_at hl 1 rfl) ?_
      refine va_get (D := D) (ci := 5) (v := .int c_counter) (C := R_ThumbCoreModel) (T := F_ThumbCoreModel) (N := 23) hx hb hts u_ThumbCoreModel hown hK hP 0 rfl rfl 17 (by decide) (hts _ wf_ThumbCoreModel_65) (fun _ h9 => h9) rfl d_ThumbCoreModel_tickOnce_34 ?_
      refine lv_iconst (v := 1) hx hb d_ThumbCoreModel_tickOnce_37 (by decide) ?_
      refine lv_isub hx hb d_ThumbCoreModel_tickOnce_38 ?_
      exact J_39 H locs ls c_counter c_pending z0 (c_counter - 1) hP hD hS (lv_sub hl [1, 0] rfl) hq
    · have hq := hq.trans (if_neg g_23)
      refine lv_aload_n hx hb d_ThumbCoreModel_tickOnce_26 rfl (lv_at hl 1 rfl) ?_
      refine va_get (D := D) (ci := 5) (v := .int c_reload) (C := R_ThumbCoreModel) (T := F_ThumbCoreModel) (N := 23) hx hb hts u_ThumbCoreModel hown hK hP 0 rfl rfl 18 (by decide) (hts _ wf_ThumbCoreModel_68) (fun _ h9 => h9) rfl d_ThumbCoreModel_tickOnce_27 ?_
      refine lv_goto (tgt := 39) hx hb d_ThumbCoreModel_tickOnce_30 (by decide) ?_
      exact J_39 H locs ls c_counter c_pending z0 c_reload hP hD hS (lv_sub hl [1, 0] rfl) hq
  have hq : FF = f_ThumbCoreModel_tickOnce c_counts c_reload c_counter c_pending := hF.symm
  revert hP hD hS
  suffices G : ∀ (H : Heap) (locs : List Loc), va_P D tcl (wd_ThumbCoreModel cI cB cZ h h_memory h_reg h_kept h_pending h_active h_priorities q_size c_n c_z c_c c_v c_keptFlags c_bad c_h c_after c_entered c_mask c_asleep c_lockup c_counts c_counter c_reload c_current c_memory c_reg c_kept c_pending c_active c_priorities) H → va_D A (wd_ThumbCoreModel cI cB cZ h h_memory h_reg h_kept h_pending h_active h_priorities q_size c_n c_z c_c c_v c_keptFlags c_bad c_h c_after c_entered c_mask c_asleep c_lockup c_counts c_counter c_reload c_current c_memory c_reg c_kept c_pending c_active c_priorities) → va_S A s.heap H locs → W p l e rm_ThumbCoreModel_tickOnce s m ([.ref h] : List Value).toArray below meth c H locs 0 0 Q (F0 m 0 ls []) from fun hP hD hS => G _ _ hP hD hS
  intro H locs hP hD hS
  refine lv_aload_n hx hb d_ThumbCoreModel_tickOnce_0 rfl (lv_at hl 0 rfl) ?_
  refine va_get (D := D) (ci := 5) (v := .int (bI c_counts)) (C := R_ThumbCoreModel) (T := F_ThumbCoreModel) (N := 23) hx hb hts u_ThumbCoreModel hown hK hP 0 rfl rfl 16 (by decide) (hts _ wf_ThumbCoreModel_62) (fun _ h9 => h9) rfl d_ThumbCoreModel_tickOnce_1 ?_
  refine lv_if_ne (tgt := 8) hx hb d_ThumbCoreModel_tickOnce_4 (by decide) (fun g_4 => ?_) (fun g_4 => ?_)
  · have hq := hq.trans (if_pos g_4)
    refine lv_aload_n hx hb d_ThumbCoreModel_tickOnce_8 rfl (lv_at hl 0 rfl) ?_
    refine va_get (D := D) (ci := 5) (v := .int c_counter) (C := R_ThumbCoreModel) (T := F_ThumbCoreModel) (N := 23) hx hb hts u_ThumbCoreModel hown hK hP 0 rfl rfl 17 (by decide) (hts _ wf_ThumbCoreModel_65) (fun _ h9 => h9) rfl d_ThumbCoreModel_tickOnce_9 ?_
    refine lv_if_ne (tgt := 19) hx hb d_ThumbCoreModel_tickOnce_12 (by decide) (fun g_12 => ?_) (fun g_12 => ?_)
    · have hq := hq.trans (if_pos g_12)
      refine lv_iconst (v := 0) hx hb d_ThumbCoreModel_tickOnce_19 (by decide) ?_
      exact J_20 H locs ls c_counter c_pending false hP hD hS (lv_sub hl [0] rfl) hq
    · have hq := hq.trans (if_neg (fun g => g g_12))
      refine lv_iconst (v := 1) hx hb d_ThumbCoreModel_tickOnce_15 (by decide) ?_
      refine lv_goto (tgt := 20) hx hb d_ThumbCoreModel_tickOnce_16 (by decide) ?_
      exact J_20 H locs ls c_counter c_pending true hP hD hS (lv_sub hl [0] rfl) hq
  · have hq := hq.trans (if_neg (fun g => g g_4))
    exact RET H locs ls 7 (c_counter, c_pending) d_ThumbCoreModel_tickOnce_7 hP hD hS hq
abbrev rm_ThumbCoreModel_step : Room := { frames := 9, cells := 0, slots := 0, locals := 211 }
set_option maxHeartbeats 4000000 in
set_option maxRecDepth 100000 in
theorem c_ThumbCoreModel_step (l : Launch) (D : va_G) (cI cB cZ : ClassId) (h h_memory h_reg h_kept h_pending h_active h_priorities sz : Nat) (q_size : Int32) (c_n : Bool) (c_z : Bool) (c_c : Bool) (c_v : Bool) (c_keptFlags : Int32) (c_bad : Bool) (c_h : Int32) (c_after : Int32) (c_entered : Bool) (c_mask : Bool) (c_asleep : Bool) (c_lockup : Bool) (c_counts : Bool) (c_counter : Int32) (c_reload : Int32) (c_current : Int32) (c_memory : Nat → Int32) (c_reg : Nat → Int32) (c_kept : Nat → Int32) (c_pending : Nat → Bool) (c_active : Nat → Bool) (c_priorities : Nat → Int32) (hm : tc_memR q_size) (hi_c_current : vp_in c_current 16) : Met l y_ThumbCoreModel_step (.code y_ThumbCoreModel_step b_ThumbCoreModel_step 2 (some .int) :: tcb) rm_ThumbCoreModel_step (tc_Pw D tcl (tys cI cB cZ) (wd_ThumbCoreModel cI cB cZ h h_memory h_reg h_kept h_pending h_active h_priorities q_size c_n c_z c_c c_v c_keptFlags c_bad c_h c_after c_entered c_mask c_asleep c_lockup c_counts c_counter c_reload c_current c_memory c_reg c_kept c_pending c_active c_priorities) sz ([.ref h] : List Value) none) (tc_Qi D tcl (wd_ThumbCoreModel cI cB cZ h h_memory h_reg h_kept h_pending h_active h_priorities q_size c_n c_z c_c c_v c_keptFlags c_bad c_h c_after c_entered c_mask c_asleep c_lockup c_counts c_counter c_reload c_current c_memory c_reg c_kept c_pending c_active c_priorities) sz (fun u => (wd_ThumbCoreModel cI cB cZ h h_memory h_reg h_kept h_pending h_active h_priorities q_size u.2.1 u.2.2.1 u.2.2.2.1 u.2.2.2.2.1 u.2.2.2.2.2.1 u.2.2.2.2.2.2.1 u.2.2.2.2.2.2.2.1 u.2.2.2.2.2.2.2.2.1 u.2.2.2.2.2.2.2.2.2.1 u.2.2.2.2.2.2.2.2.2.2.1 u.2.2.2.2.2.2.2.2.2.2.2.1 u.2.2.2.2.2.2.2.2.2.2.2.2.1 c_counts u.2.2.2.2.2.2.2.2.2.2.2.2.2.1 c_reload u.2.2.2.2.2.2.2.2.2.2.2.2.2.2.1 u.2.2.2.2.2.2.2.2.2.2.2.2.2.2.2.1 u.2.2.2.2.2.2.2.2.2.2.2.2.2.2.2.2.1 u.2.2.2.2.2.2.2.2.2.2.2.2.2.2.2.2.2.1 u.2.2.2.2.2.2.2.2.2.2.2.2.2.2.2.2.2.2.1 u.2.2.2.2.2.2.2.2.2.2.2.2.2.2.2.2.2.2.2 c_priorities)) (f_ThumbCoreModel_step q_size c_counts c_reload c_priorities c_n c_z c_c c_v c_keptFlags c_bad c_h c_after c_entered c_mask c_asleep c_lockup c_counter c_current c_memory c_reg c_kept c_pending c_active)) 0 0 (va_A (wd_ThumbCoreModel cI cB cZ h h_memory h_reg h_kept h_pending h_active h_priorities q_size c_n c_z c_c c_v c_keptFlags c_bad c_h c_after c_entered c_mask c_asleep c_lockup c_counts c_counter c_reload c_current c_memory c_reg c_kept c_pending c_active c_priorities) sz) := by
  refine tc_mu_i (by decide) (Nat.le_of_ble_eq_true rfl) ?_
  intro p e s m below meth c A Q ls hx hb hml hts hown hK hN hP hD hA hZ hl RET
  have hS : va_S A s.heap s.heap [] := va_S.rf
  have hl : lv_has ls 2 [(0, .ref h)] := hl
  generalize hF : f_ThumbCoreModel_step q_size c_counts c_reload c_priorities c_n c_z c_c c_v c_keptFlags c_bad c_h c_after c_entered c_mask c_asleep c_lockup c_counter c_current c_memory c_reg c_kept c_pending c_active = FF at RET
  have J_72 : ∀ (H : Heap) (locs : List Loc) (ls : Array Slot) (c_n : Bool) (c_z : Bool) (c_c : Bool) (c_v : Bool) (c_keptFlags : Int32) (c_bad : Bool) (c_h : Int32) (c_after : Int32) (c_entered : Bool) (c_mask : Bool) (c_asleep : Bool) (c_lockup : Bool) (c_counter : Int32) (c_current : Int32) (c_memory : Nat → Int32) (c_reg : Nat → Int32) (c_kept : Nat → Int32) (c_pending : Nat → Bool) (c_active : Nat → Bool) (y1 : Int32), va_P D tcl (wd_ThumbCoreModel cI cB cZ h h_memory h_reg h_kept h_pending h_active h_priorities q_size c_n c_z c_c c_v c_keptFlags c_bad c_h c_after c_entered c_mask c_asleep c_lockup c_counts c_counter c_reload c_current c_memory c_reg c_kept c_pending c_active c_priorities) H → va_D A (wd_ThumbCoreModel cI cB cZ h h_memory h_reg h_kept h_pending h_active h_priorities q_size c_n c_z c_c c_v c_keptFlags c_bad c_h c_after c_entered c_mask c_asleep c_lockup c_counts c_counter c_reload c_current c_memory c_reg c_kept c_pending c_active c_priorities) → va_S A s.heap H locs → lv_has ls 2 [(0, .ref h), (1, .int y1)] → FF = k_ThumbCoreModel_step_72 q_size c_counts c_reload c_priorities c_n c_z c_c c_v c_keptFlags c_bad c_h c_after c_entered c_mask c_asleep c_lockup c_counter c_current c_memory c_reg c_kept c_pending c_active y1 → W p l e rm_ThumbCoreModel_step s m ([.ref h] : List Value).toArray below meth c H locs 0 0 Q (F0 m 72 ls []) := by
    intro H locs ls c_n c_z c_c c_v c_keptFlags c_bad c_h c_after c_entered c_mask c_asleep c_lockup c_counter c_current c_memory c_reg c_kept c_pending c_active y1 hP hD hS hl hq
    refine lv_aload_n hx hb d_ThumbCoreModel_step_72 rfl (lv_at hl 0 rfl) ?_
    refine va_get (D := D) (ci := 5) (v := .int (bI c_lockup)) (C := R_ThumbCoreModel) (T := F_ThumbCoreModel) (N := 23) hx hb hts u_ThumbCoreModel hown hK hP 0 rfl rfl 15 (by decide) (hts _ wf_ThumbCoreModel_59) (fun _ h9 => h9) rfl d_ThumbCoreModel_step_73 ?_
    refine lv_if_eq (tgt := 83) hx hb d_ThumbCoreModel_step_76 (by decide) (fun g_76 => ?_) (fun g_76 => ?_)
    · have hq := hq.trans (if_pos g_76)
      refine lv_iload_n hx hb d_ThumbCoreModel_step_83 rfl (lv_at hl 1 rfl) ?_
      refine lv_if_le (tgt := 91) hx hb d_ThumbCoreModel_step_84 (by decide) (fun g_84 => ?_) (fun g_84 => ?_)
      · have hq := hq.trans (if_pos g_84)
        refine lv_iconst (v := 0) hx hb d_ThumbCoreModel_step_91 (by decide) ?_
        exact RET H locs ls 92 (0, c_n, c_z, c_c, c_v, c_keptFlags, c_bad, c_h, c_after, c_entered, c_mask, c_asleep, c_lockup, c_counter, c_current, c_memory, c_reg, c_kept, c_pending, c_active) d_ThumbCoreModel_step_92 hP hD hS hq
      · have hq := hq.trans (if_neg g_84)
        refine lv_iconst (v := 1) hx hb d_ThumbCoreModel_step_87 (by decide) ?_
        refine lv_goto (tgt := 92) hx hb d_ThumbCoreModel_step_88 (by decide) ?_
        exact RET H locs ls 92 (1, c_n, c_z, c_c, c_v, c_keptFlags, c_bad, c_h, c_after, c_entered, c_mask, c_asleep, c_lockup, c_counter, c_current, c_memory, c_reg, c_kept, c_pending, c_active) d_ThumbCoreModel_step_92 hP hD hS hq
    · have hq := hq.trans (if_neg g_76)
      refine lv_iconst (v := 3) hx hb d_ThumbCoreModel_step_79 (by decide) ?_
      refine lv_goto (tgt := 92) hx hb d_ThumbCoreModel_step_80 (by decide) ?_
      exact RET H locs ls 92 (3, c_n, c_z, c_c, c_v, c_keptFlags, c_bad, c_h, c_after, c_entered, c_mask, c_asleep, c_lockup, c_counter, c_current, c_memory, c_reg, c_kept, c_pending, c_active) d_ThumbCoreModel_step_92 hP hD hS hq
  have J_34 : ∀ (H : Heap) (locs : List Loc) (ls : Array Slot) (c_n : Bool) (c_z : Bool) (c_c : Bool) (c_v : Bool) (c_keptFlags : Int32) (c_bad : Bool) (c_h : Int32) (c_after : Int32) (c_entered : Bool) (c_mask : Bool) (c_asleep : Bool) (c_lockup : Bool) (c_counter : Int32) (c_current : Int32) (c_memory : Nat → Int32) (c_reg : Nat → Int32) (c_kept : Nat → Int32) (c_pending : Nat → Bool) (c_active : Nat → Bool), va_P D tcl (wd_ThumbCoreModel cI cB cZ h h_memory h_reg h_kept h_pending h_active h_priorities q_size c_n c_z c_c c_v c_keptFlags c_bad c_h c_after c_entered c_mask c_asleep c_lockup c_counts c_counter c_reload c_current c_memory c_reg c_kept c_pending c_active c_priorities) H → va_D A (wd_ThumbCoreModel cI cB cZ h h_memory h_reg h_kept h_pending h_active h_priorities q_size c_n c_z c_c c_v c_keptFlags c_bad c_h c_after c_entered c_mask c_asleep c_lockup c_counts c_counter c_reload c_current c_memory c_reg c_kept c_pending c_active c_priorities) → va_S A s.heap H locs → lv_has ls 2 [(0, .ref h)] → FF = k_ThumbCoreModel_step_34 q_size c_counts c_reload c_priorities c_n c_z c_c c_v c_keptFlags c_bad c_h c_after c_entered c_mask c_asleep c_lockup c_counter c_current c_memory c_reg c_kept c_pending c_active → (vp_in c_current 16) → W p l e rm_ThumbCoreModel_step s m ([.ref h] : List Value).toArray below meth c H locs 0 0 Q (F0 m 34 ls []) := by
    intro H locs ls c_n c_z c_c c_v c_keptFlags c_bad c_h c_after c_entered c_mask c_asleep c_lockup c_counter c_current c_memory c_reg c_kept c_pending c_active hP hD hS hl hq hi_c_current
    refine lv_aload_n hx hb d_ThumbCoreModel_step_34 rfl (lv_at hl 0 rfl) ?_
    refine lv_iconst (v := 0) hx hb d_ThumbCoreModel_step_35 (by decide) ?_
    refine va_put (D := D) (ci := 5) (v := .int (bI false)) (ty := .boolean) (C := R_ThumbCoreModel) (T := F_ThumbCoreModel) (N := 23) hx hb hts u_ThumbCoreModel t_ThumbCoreModel t_ThumbCoreModel_ok n_ThumbCoreModel hown hK hP hD hS 0 rfl rfl 14 (by decide) (hts _ wf_ThumbCoreModel_56) (fun _ h9 => h9) rfl (by decide +kernel) (tc_nb false) (tc_fb false) (Nat.le_of_ble_eq_true rfl) d_ThumbCoreModel_step_36 (fun H locs hP hD hS => ?_)
    have hP : va_P D tcl (wd_ThumbCoreModel cI cB cZ h h_memory h_reg h_kept h_pending h_active h_priorities q_size c_n c_z c_c c_v c_keptFlags c_bad c_h c_after c_entered c_mask false c_lockup c_counts c_counter c_reload c_current c_memory c_reg c_kept c_pending c_active c_priorities) H := hP
    have hD : va_D A (wd_ThumbCoreModel cI cB cZ h h_memory h_reg h_kept h_pending h_active h_priorities q_size c_n c_z c_c c_v c_keptFlags c_bad c_h c_after c_entered c_mask false c_lockup c_counts c_counter c_reload c_current c_memory c_reg c_kept c_pending c_active c_priorities) := hD
    refine lv_aload_n hx hb d_ThumbCoreModel_step_39 rfl (lv_at hl 0 rfl) ?_
    refine lv_aload_n hx hb d_ThumbCoreModel_step_40 rfl (lv_at hl 0 rfl) ?_
    refine lv_iconst (v := 1) hx hb d_ThumbCoreModel_step_41 (by decide) ?_
    refine tc_rd (va_runV (As := [.int (bI true)]) (rest := [.ref h]) ⟨hx, hb, hml, hown, hts⟩ (c_ThumbCoreModel_present l D cI cB cZ h h_memory h_reg h_kept h_pending h_active h_priorities H.size q_size c_n c_z c_c c_v c_keptFlags c_bad c_h c_after c_entered c_mask false c_lockup c_counts c_counter c_reload c_current c_memory c_reg c_kept c_pending c_active c_priorities true) (cwV 1 hts (tc_gV wl_ThumbCoreModel_107 wm_ThumbCoreModel_present ws_ThumbCoreModel_present wi_ThumbCoreModel wc_ThumbCoreModel_present) rfl rfl rfl (by decide +kernel) ⟨Nat.le_of_ble_eq_true rfl, Nat.le_of_ble_eq_true rfl⟩) (tc_preV hK hN hP hD [0, 1, 2, 3, 4, 5, 6] rfl (by decide) (q0 := 0) rfl rfl) rfl rfl hl.1 rfl (lv_room (Nat.le_of_ble_eq_true rfl)) d_ThumbCoreModel_step_42 (by decide)) ?_
    refine lv_topi (fun v1 e_v1 => ?_)
    have hq := tc_nm hq e_v1
    refine tc_rd (va_runV (As := [.int v1]) (rest := []) ⟨hx, hb, hml, hown, hts⟩ (c_ThumbCoreModel_waiting l D cI cB cZ h h_memory h_reg h_kept h_pending h_active h_priorities H.size q_size c_n c_z c_c c_v c_keptFlags c_bad c_h c_after c_entered c_mask false c_lockup c_counts c_counter c_reload c_current c_memory c_reg c_kept c_pending c_active c_priorities v1) (cwV 1 hts (tc_gV wl_ThumbCoreModel_211 wm_ThumbCoreModel_waiting ws_ThumbCoreModel_waiting wi_ThumbCoreModel wc_ThumbCoreModel_waiting) rfl rfl rfl (by decide +kernel) ⟨Nat.le_of_ble_eq_true rfl, Nat.le_of_ble_eq_true rfl⟩) (tc_preV hK hN hP hD [0, 1, 2, 3, 4, 5, 6] rfl (by decide) (q0 := 0) rfl rfl) rfl rfl hl.1 rfl (lv_room (Nat.le_of_ble_eq_true rfl)) d_ThumbCoreModel_step_45 (by decide)) ?_
    refine lv_topi (fun v2 e_v2 => ?_)
    have hq := tc_nm hq e_v2
    refine lv_istore_n (lv' := [(1, .int v2), (0, .ref h)]) hx hb d_ThumbCoreModel_step_48 rfl hl (by decide) rfl (fun ls hl => ?_)
    refine lv_iload_n hx hb d_ThumbCoreModel_step_49 rfl (lv_at hl 0 rfl) ?_
    refine lv_if_le (tgt := 68) hx hb d_ThumbCoreModel_step_50 (by decide) (fun g_50 => ?_) (fun g_50 => ?_)
    · have hq := hq.trans (if_pos g_50)
      refine lv_aload_n hx hb d_ThumbCoreModel_step_68 rfl (lv_at hl 1 rfl) ?_
      refine tc_mv (wo := fun u => (wd_ThumbCoreModel cI cB cZ h h_memory h_reg h_kept h_pending h_active h_priorities q_size u.1 u.2.1 u.2.2.1 u.2.2.2.1 u.2.2.2.2.1 u.2.2.2.2.2.1 u.2.2.2.2.2.2.1 u.2.2.2.2.2.2.2.1 u.2.2.2.2.2.2.2.2.1 u.2.2.2.2.2.2.2.2.2.1 u.2.2.2.2.2.2.2.2.2.2.1 u.2.2.2.2.2.2.2.2.2.2.2.1 c_counts c_counter c_reload u.2.2.2.2.2.2.2.2.2.2.2.2.1 u.2.2.2.2.2.2.2.2.2.2.2.2.2.1 u.2.2.2.2.2.2.2.2.2.2.2.2.2.2.1 u.2.2.2.2.2.2.2.2.2.2.2.2.2.2.2.1 u.2.2.2.2.2.2.2.2.2.2.2.2.2.2.2.2.1 u.2.2.2.2.2.2.2.2.2.2.2.2.2.2.2.2.2 c_priorities)) (va_runV (As := []) (rest := []) ⟨hx, hb, hml, hown, hts⟩ (c_ThumbCoreModel_instruct l D cI cB cZ h h_memory h_reg h_kept h_pending h_active h_priorities H.size q_size c_n c_z c_c c_v c_keptFlags c_bad c_h c_after c_entered c_mask false c_lockup c_counts c_counter c_reload c_current c_memory c_reg c_kept c_pending c_active c_priorities hm hi_c_current) (cwV 0 hts (tc_gV wl_ThumbCoreModel_214 wm_ThumbCoreModel_instruct ws_ThumbCoreModel_instruct wi_ThumbCoreModel wc_ThumbCoreModel_instruct) rfl rfl rfl (by decide +kernel) ⟨Nat.le_of_ble_eq_true rfl, Nat.le_of_ble_eq_true rfl⟩) (tc_preV hK hN hP hD [0, 1, 2, 3, 4, 5, 6] rfl (by decide) (q0 := 0) rfl rfl) rfl rfl hl.1 rfl (lv_room (Nat.le_of_ble_eq_true rfl)) d_ThumbCoreModel_step_69 (by decide)) hP hD hS hA [0, 1, 2, 3, 4, 5, 6] [] [0, 1, 2, 3, 4, 5, 6] rfl rfl (by decide) (by decide) (by decide) (fun _ => rfl) (fun u H locs hu hP hD hS => ?_)
      obtain ⟨s3, s4, s5, s6, s7, s8, s9, s10, s11, s12, s13, s14, s15, s16, s17, s18, s19, s20⟩ := u
      have hq := hq.trans (un18_eq hu _)
      have e_s3 := hu
      have hP : va_P D tcl (wd_ThumbCoreModel cI cB cZ h h_memory h_reg h_kept h_pending h_active h_priorities q_size s3 s4 s5 s6 s7 s8 s9 s10 s11 s12 s13 s14 c_counts c_counter c_reload s15 s16 s17 s18 s19 s20 c_priorities) H := hP
      have hD : va_D A (wd_ThumbCoreModel cI cB cZ h h_memory h_reg h_kept h_pending h_active h_priorities q_size s3 s4 s5 s6 s7 s8 s9 s10 s11 s12 s13 s14 c_counts c_counter c_reload s15 s16 s17 s18 s19 s20 c_priorities) := hD
      exact J_72 H locs ls s3 s4 s5 s6 s7 s8 s9 s10 s11 s12 s13 s14 c_counter s15 s16 s17 s18 s19 s20 v2 hP hD hS (lv_sub hl [1, 0] rfl) hq
    · have hq := hq.trans (if_neg g_50)
      refine lv_aload_n hx hb d_ThumbCoreModel_step_53 rfl (lv_at hl 1 rfl) ?_
      refine lv_iload_n hx hb d_ThumbCoreModel_step_54 rfl (lv_at hl 0 rfl) ?_
      refine lv_aload_n hx hb d_ThumbCoreModel_step_55 rfl (lv_at hl 1 rfl) ?_
      refine va_get (D := D) (ci := 5) (v := .ref h_reg) (C := R_ThumbCoreModel) (T := F_ThumbCoreModel) (N := 23) hx hb hts u_ThumbCoreModel hown hK hP 0 rfl rfl 2 (by decide) (hts _ wf_ThumbCoreModel_13) (fun _ h9 => h9) rfl d_ThumbCoreModel_step_56 ?_
      refine lv_bipush (v := 15) hx hb d_ThumbCoreModel_step_59 (by decide) ?_
      refine va_iald hx hb hK hP 2 0 rfl rfl (by show ¬ (_ ∨ _); decide) d_ThumbCoreModel_step_61 ?_
      refine tc_mv (wo := fun u => (wd_ThumbCoreModel cI cB cZ h h_memory h_reg h_kept h_pending h_active h_priorities q_size c_n c_z c_c c_v c_keptFlags u.1 c_h c_after c_entered c_mask false u.2.1 c_counts c_counter c_reload u.2.2.1 u.2.2.2.1 u.2.2.2.2.1 c_kept u.2.2.2.2.2.1 u.2.2.2.2.2.2 c_priorities)) (va_runV (As := [.int v2, .int (c_reg (15 : Int32).toNatClampNeg)]) (rest := []) ⟨hx, hb, hml, hown, hts⟩ (c_ThumbCoreModel_enter l D cI cB cZ h h_memory h_reg h_kept h_pending h_active h_priorities H.size q_size c_n c_z c_c c_v c_keptFlags c_bad c_h c_after c_entered c_mask false c_lockup c_counts c_counter c_reload c_current c_memory c_reg c_kept c_pending c_active c_priorities v2 (c_reg (15 : Int32).toNatClampNeg) hm (tc_wtIn e_v2)) (cwV 2 hts (tc_gV wl_ThumbCoreModel_111 wm_ThumbCoreModel_enter ws_ThumbCoreModel_enter wi_ThumbCoreModel wc_ThumbCoreModel_enter) rfl rfl rfl (by decide +kernel) ⟨Nat.le_of_ble_eq_true rfl, Nat.le_of_ble_eq_true rfl⟩) (tc_preV hK hN hP hD [0, 1, 2, 3, 4, 5, 6] rfl (by decide) (q0 := 0) rfl rfl) rfl rfl hl.1 rfl (lv_room (Nat.le_of_ble_eq_true rfl)) d_ThumbCoreModel_step_62 (by decide)) hP hD hS hA [0, 1, 2, 3, 4, 5, 6] [] [0, 1, 2, 3, 4, 5, 6] rfl rfl (by decide) (by decide) (by decide) (fun _ => rfl) (fun u H locs hu hP hD hS => ?_)
      obtain ⟨s21, s22, s23, s24, s25, s26, s27⟩ := u
      have hq := hq.trans (un7_eq hu _)
      have e_s21 := hu
      have hP : va_P D tcl (wd_ThumbCoreModel cI cB cZ h h_memory h_reg h_kept h_pending h_active h_priorities q_size c_n c_z c_c c_v c_keptFlags s21 c_h c_after c_entered c_mask false s22 c_counts c_counter c_reload s23 s24 s25 c_kept s26 s27 c_priorities) H := hP
      have hD : va_D A (wd_ThumbCoreModel cI cB cZ h h_memory h_reg h_kept h_pending h_active h_priorities q_size c_n c_z c_c c_v c_keptFlags s21 c_h c_after c_entered c_mask false s22 c_counts c_counter c_reload s23 s24 s25 c_kept s26 s27 c_priorities) := hD
      refine lv_goto (tgt := 72) hx hb d_ThumbCoreModel_step_65 (by decide) ?_
      exact J_72 H locs ls c_n c_z c_c c_v c_keptFlags s21 c_h c_after c_entered c_mask false s22 c_counter s23 s24 s25 c_kept s26 s27 v2 hP hD hS (lv_sub hl [1, 0] rfl) hq
  have hq : FF = f_ThumbCoreModel_step q_size c_counts c_reload c_priorities c_n c_z c_c c_v c_keptFlags c_bad c_h c_after c_entered c_mask c_asleep c_lockup c_counter c_current c_memory c_reg c_kept c_pending c_active := hF.symm
  revert hP hD hS
  suffices G : ∀ (H : Heap) (locs : List Loc), va_P D tcl (wd_ThumbCoreModel cI cB cZ h h_memory h_reg h_kept h_pending h_active h_priorities q_size c_n c_z c_c c_v c_keptFlags c_bad c_h c_after c_entered c_mask c_asleep c_lockup c_counts c_counter c_reload c_current c_memory c_reg c_kept c_pending c_active c_priorities) H → va_D A (wd_ThumbCoreModel cI cB cZ h h_memory h_reg h_kept h_pending h_active h_priorities q_size c_n c_z c_c c_v c_keptFlags c_bad c_h c_after c_entered c_mask c_asleep c_lockup c_counts c_counter c_reload c_current c_memory c_reg c_kept c_pending c_active c_priorities) → va_S A s.heap H locs → W p l e rm_ThumbCoreModel_step s m ([.ref h] : List Value).toArray below meth c H locs 0 0 Q (F0 m 0 ls []) from fun hP hD hS => G _ _ hP hD hS
  intro H locs hP hD hS
  refine lv_aload_n hx hb d_ThumbCoreModel_step_0 rfl (lv_at hl 0 rfl) ?_
  refine va_get (D := D) (ci := 5) (v := .int (bI c_lockup)) (C := R_ThumbCoreModel) (T := F_ThumbCoreModel) (N := 23) hx hb hts u_ThumbCoreModel hown hK hP 0 rfl rfl 15 (by decide) (hts _ wf_ThumbCoreModel_59) (fun _ h9 => h9) rfl d_ThumbCoreModel_step_1 ?_
  refine lv_if_eq (tgt := 9) hx hb d_ThumbCoreModel_step_4 (by decide) (fun g_4 => ?_) (fun g_4 => ?_)
  · have hq := hq.trans (if_pos g_4)
    refine lv_aload_n hx hb d_ThumbCoreModel_step_9 rfl (lv_at hl 0 rfl) ?_
    refine tc_mv (wo := fun u => (wd_ThumbCoreModel cI cB cZ h h_memory h_reg h_kept h_pending h_active h_priorities q_size c_n c_z c_c c_v c_keptFlags c_bad c_h c_after c_entered c_mask c_asleep c_lockup c_counts u.1 c_reload c_current c_memory c_reg c_kept u.2 c_active c_priorities)) (va_runV (As := []) (rest := []) ⟨hx, hb, hml, hown, hts⟩ (c_ThumbCoreModel_tickOnce l D cI cB cZ h h_memory h_reg h_kept h_pending h_active h_priorities H.size q_size c_n c_z c_c c_v c_keptFlags c_bad c_h c_after c_entered c_mask c_asleep c_lockup c_counts c_counter c_reload c_current c_memory c_reg c_kept c_pending c_active c_priorities) (cwV 0 hts (tc_gV wl_ThumbCoreModel_208 wm_ThumbCoreModel_tickOnce ws_ThumbCoreModel_tickOnce wi_ThumbCoreModel wc_ThumbCoreModel_tickOnce) rfl rfl rfl (by decide +kernel) ⟨Nat.le_of_ble_eq_true rfl, Nat.le_of_ble_eq_true rfl⟩) (tc_preV hK hN hP hD [0, 1, 2, 3, 4, 5, 6] rfl (by decide) (q0 := 0) rfl rfl) rfl rfl hl.1 rfl (lv_room (Nat.le_of_ble_eq_true rfl)) d_ThumbCoreModel_step_10 (by decide)) hP hD hS hA [0, 1, 2, 3, 4, 5, 6] [] [0, 1, 2, 3, 4, 5, 6] rfl rfl (by decide) (by decide) (by decide) (fun _ => rfl) (fun u H locs hu hP hD hS => ?_)
    obtain ⟨s1, s2⟩ := u
    have hq := hq.trans (un2_eq hu _)
    have e_s1 := hu
    have hP : va_P D tcl (wd_ThumbCoreModel cI cB cZ h h_memory h_reg h_kept h_pending h_active h_priorities q_size c_n c_z c_c c_v c_keptFlags c_bad c_h c_after c_entered c_mask c_asleep c_lockup c_counts s1 c_reload c_current c_memory c_reg c_kept s2 c_active c_priorities) H := hP
    have hD : va_D A (wd_ThumbCoreModel cI cB cZ h h_memory h_reg h_kept h_pending h_active h_priorities q_size c_n c_z c_c c_v c_keptFlags c_bad c_h c_after c_entered c_mask c_asleep c_lockup c_counts s1 c_reload c_current c_memory c_reg c_kept s2 c_active c_priorities) := hD
    refine lv_aload_n hx hb d_ThumbCoreModel_step_13 rfl (lv_at hl 0 rfl) ?_
    refine va_get (D := D) (ci := 5) (v := .int (bI c_asleep)) (C := R_ThumbCoreModel) (T := F_ThumbCoreModel) (N := 23) hx hb hts u_ThumbCoreModel hown hK hP 0 rfl rfl 14 (by decide) (hts _ wf_ThumbCoreModel_56) (fun _ h9 => h9) rfl d_ThumbCoreModel_step_14 ?_
    refine lv_if_eq (tgt := 34) hx hb d_ThumbCoreModel_step_17 (by decide) (fun g_17 => ?_) (fun g_17 => ?_)
    · have hq := hq.trans (if_pos g_17)
      exact J_34 H locs ls c_n c_z c_c c_v c_keptFlags c_bad c_h c_after c_entered c_mask c_asleep c_lockup s1 c_current c_memory c_reg c_kept s2 c_active hP hD hS (lv_sub hl [0] rfl) hq hi_c_current
    · have hq := hq.trans (if_neg g_17)
      refine lv_aload_n hx hb d_ThumbCoreModel_step_20 rfl (lv_at hl 0 rfl) ?_
      refine lv_aload_n hx hb d_ThumbCoreModel_step_21 rfl (lv_at hl 0 rfl) ?_
      refine lv_iconst (v := 0) hx hb d_ThumbCoreModel_step_22 (by decide) ?_
      refine tc_rd (va_runV (As := [.int (bI false)]) (rest := [.ref h]) ⟨hx, hb, hml, hown, hts⟩ (c_ThumbCoreModel_present l D cI cB cZ h h_memory h_reg h_kept h_pending h_active h_priorities H.size q_size c_n c_z c_c c_v c_keptFlags c_bad c_h c_after c_entered c_mask c_asleep c_lockup c_counts s1 c_reload c_current c_memory c_reg c_kept s2 c_active c_priorities false) (cwV 1 hts (tc_gV wl_ThumbCoreModel_107 wm_ThumbCoreModel_present ws_ThumbCoreModel_present wi_ThumbCoreModel wc_ThumbCoreModel_present) rfl rfl rfl (by decide +kernel) ⟨Nat.le_of_ble_eq_true rfl, Nat.le_of_ble_eq_true rfl⟩) (tc_preV hK hN hP hD [0, 1, 2, 3, 4, 5, 6] rfl (by decide) (q0 := 0) rfl rfl) rfl rfl hl.1 rfl (lv_room (Nat.le_of_ble_eq_true rfl)) d_ThumbCoreModel_step_23 (by decide)) ?_
      refine lv_topi (fun v3 e_v3 => ?_)
      have hq := tc_nm hq e_v3
      refine tc_rd (va_runV (As := [.int v3]) (rest := []) ⟨hx, hb, hml, hown, hts⟩ (c_ThumbCoreModel_waiting l D cI cB cZ h h_memory h_reg h_kept h_pending h_active h_priorities H.size q_size c_n c_z c_c c_v c_keptFlags c_bad c_h c_after c_entered c_mask c_asleep c_lockup c_counts s1 c_reload c_current c_memory c_reg c_kept s2 c_active c_priorities v3) (cwV 1 hts (tc_gV wl_ThumbCoreModel_211 wm_ThumbCoreModel_waiting ws_ThumbCoreModel_waiting wi_ThumbCoreModel wc_ThumbCoreModel_waiting) rfl rfl rfl (by decide +kernel) ⟨Nat.le_of_ble_eq_true rfl, Nat.le_of_ble_eq_true rfl⟩) (tc_preV hK hN hP hD [0, 1, 2, 3, 4, 5, 6] rfl (by decide) (q0 := 0) rfl rfl) rfl rfl hl.1 rfl (lv_room (Nat.le_of_ble_eq_true rfl)) d_ThumbCoreModel_step_26 (by decide)) ?_
      refine lv_topi (fun v4 e_v4 => ?_)
      have hq := tc_nm hq e_v4
      refine lv_if_ne (tgt := 34) hx hb d_ThumbCoreModel_step_29 (by decide) (fun g_29 => ?_) (fun g_29 => ?_)
      · have hq := hq.trans (if_pos g_29)
        exact J_34 H locs ls c_n c_z c_c c_v c_keptFlags c_bad c_h c_after c_entered c_mask c_asleep c_lockup s1 c_current c_memory c_reg c_kept s2 c_active hP hD hS (lv_sub hl [0] rfl) hq hi_c_current
      · have hq := hq.trans (if_neg (fun g => g g_29))
        refine lv_iconst (v := 2) hx hb d_ThumbCoreModel_step_32 (by decide) ?_
        exact RET H locs ls 33 (2, c_n, c_z, c_c, c_v, c_keptFlags, c_bad, c_h, c_after, c_entered, c_mask, c_asleep, c_lockup, s1, c_current, c_memory, c_reg, c_kept, s2, c_active) d_ThumbCoreModel_step_33 hP hD hS hq
  · have hq := hq.trans (if_neg g_4)
    refine lv_iconst (v := 3) hx hb d_ThumbCoreModel_step_7 (by decide) ?_
    exact RET H locs ls 8 (3, c_n, c_z, c_c, c_v, c_keptFlags, c_bad, c_h, c_after, c_entered, c_mask, c_asleep, c_lockup, c_counter, c_current, c_memory, c_reg, c_kept, c_pending, c_active) d_ThumbCoreModel_step_8 hP hD hS hq
abbrev rm_ThumbCoreModel_run : Room := { frames := 10, cells := 0, slots := 0, locals := 232 }
set_option maxHeartbeats 4000000 in
set_option maxRecDepth 100000 in
theorem c_ThumbCoreModel_run (l : Launch) (D : va_G) (cI cB cZ : ClassId) (h h_memory h_reg h_kept h_pending h_active h_priorities sz : Nat) (q_size : Int32) (c_n : Bool) (c_z : Bool) (c_c : Bool) (c_v : Bool) (c_keptFlags : Int32) (c_bad : Bool) (c_h : Int32) (c_after : Int32) (c_entered : Bool) (c_mask : Bool) (c_asleep : Bool) (c_lockup : Bool) (c_counts : Bool) (c_counter : Int32) (c_reload : Int32) (c_current : Int32) (c_memory : Nat → Int32) (c_reg : Nat → Int32) (c_kept : Nat → Int32) (c_pending : Nat → Bool) (c_active : Nat → Bool) (c_priorities : Nat → Int32) (x1 : Int32) (hm : tc_memR q_size) (hi_c_current : mdOK q_size c_current c_memory c_reg c_pending c_active) : Met l y_ThumbCoreModel_run (.code y_ThumbCoreModel_run b_ThumbCoreModel_run 5 (some .int) :: tcb) rm_ThumbCoreModel_run (tc_Pw D tcl (tys cI cB cZ) (wd_ThumbCoreModel cI cB cZ h h_memory h_reg h_kept h_pending h_active h_priorities q_size c_n c_z c_c c_v c_keptFlags c_bad c_h c_after c_entered c_mask c_asleep c_lockup c_counts c_counter c_reload c_current c_memory c_reg c_kept c_pending c_active c_priorities) sz ([.ref h, .int x1] : List Value) none) (tc_Qi D tcl (wd_ThumbCoreModel cI cB cZ h h_memory h_reg h_kept h_pending h_active h_priorities q_size c_n c_z c_c c_v c_keptFlags c_bad c_h c_after c_entered c_mask c_asleep c_lockup c_counts c_counter c_reload c_current c_memory c_reg c_kept c_pending c_active c_priorities) sz (fun u => (wd_ThumbCoreModel cI cB cZ h h_memory h_reg h_kept h_pending h_active h_priorities q_size u.2.1 u.2.2.1 u.2.2.2.1 u.2.2.2.2.1 u.2.2.2.2.2.1 u.2.2.2.2.2.2.1 u.2.2.2.2.2.2.2.1 u.2.2.2.2.2.2.2.2.1 u.2.2.2.2.2.2.2.2.2.1 u.2.2.2.2.2.2.2.2.2.2.1 u.2.2.2.2.2.2.2.2.2.2.2.1 u.2.2.2.2.2.2.2.2.2.2.2.2.1 c_counts u.2.2.2.2.2.2.2.2.2.2.2.2.2.1 c_reload u.2.2.2.2.2.2.2.2.2.2.2.2.2.2.1 u.2.2.2.2.2.2.2.2.2.2.2.2.2.2.2.1 u.2.2.2.2.2.2.2.2.2.2.2.2.2.2.2.2.1 u.2.2.2.2.2.2.2.2.2.2.2.2.2.2.2.2.2.1 u.2.2.2.2.2.2.2.2.2.2.2.2.2.2.2.2.2.2.1 u.2.2.2.2.2.2.2.2.2.2.2.2.2.2.2.2.2.2.2 c_priorities)) (f_ThumbCoreModel_run q_size c_counts c_reload c_priorities c_n c_z c_c c_v c_keptFlags c_bad c_h c_after c_entered c_mask c_asleep c_lockup c_counter c_current c_memory c_reg c_kept c_pending c_active x1)) 0 0 (va_A (wd_ThumbCoreModel cI cB cZ h h_memory h_reg h_kept h_pending h_active h_priorities q_size c_n c_z c_c c_v c_keptFlags c_bad c_h c_after c_entered c_mask c_asleep c_lockup c_counts c_counter c_reload c_current c_memory c_reg c_kept c_pending c_active c_priorities) sz) := by
  refine tc_mu_i (by decide) (Nat.le_of_ble_eq_true rfl) ?_
  intro p e s m below meth c A Q ls hx hb hml hts hown hK hN hP hD hA hZ hl RET
  have hS : va_S A s.heap s.heap [] := va_S.rf
  have hl : lv_has ls 5 [(0, .ref h), (1, .int x1)] := hl
  generalize hF : f_ThumbCoreModel_run q_size c_counts c_reload c_priorities c_n c_z c_c c_v c_keptFlags c_bad c_h c_after c_entered c_mask c_asleep c_lockup c_counter c_current c_memory c_reg c_kept c_pending c_active x1 = FF at RET
  have J_19 : ∀ n : Nat, ∀ (H : Heap) (locs : List Loc) (ls : Array Slot) (c_n : Bool) (c_z : Bool) (c_c : Bool) (c_v : Bool) (c_keptFlags : Int32) (c_bad : Bool) (c_h : Int32) (c_after : Int32) (c_entered : Bool) (c_mask : Bool) (c_asleep : Bool) (c_lockup : Bool) (c_counter : Int32) (c_current : Int32) (c_memory : Nat → Int32) (c_reg : Nat → Int32) (c_kept : Nat → Int32) (c_pending : Nat → Bool) (c_active : Nat → Bool) (y1 : Int32) (y2 : Int32) (y3 : Bool) (y4 : Int32), va_P D tcl (wd_ThumbCoreModel cI cB cZ h h_memory h_reg h_kept h_pending h_active h_priorities q_size c_n c_z c_c c_v c_keptFlags c_bad c_h c_after c_entered c_mask c_asleep c_lockup c_counts c_counter c_reload c_current c_memory c_reg c_kept c_pending c_active c_priorities) H → va_D A (wd_ThumbCoreModel cI cB cZ h h_memory h_reg h_kept h_pending h_active h_priorities q_size c_n c_z c_c c_v c_keptFlags c_bad c_h c_after c_entered c_mask c_asleep c_lockup c_counts c_counter c_reload c_current c_memory c_reg c_kept c_pending c_active c_priorities) → va_S A s.heap H locs → lv_has ls 5 [(0, .ref h), (1, .int y1), (2, .int y2), (3, .int (bI y3)), (4, .int y4)] → FF = k_ThumbCoreModel_run_19 q_size c_counts c_reload c_priorities n c_n c_z c_c c_v c_keptFlags c_bad c_h c_after c_entered c_mask c_asleep c_lockup c_counter c_current c_memory c_reg c_kept c_pending c_active y1 y2 y3 y4 → (tc_lp y4 (Int32.toInt y1).toNat n) → (mdOK q_size c_current c_memory c_reg c_pending c_active) → W p l e rm_ThumbCoreModel_run s m ([.ref h, .int x1] : List Value).toArray below meth c H locs 0 0 Q (F0 m 19 ls []) := by
    intro n
    induction n with
    | zero =>
      intro H locs ls c_n c_z c_c c_v c_keptFlags c_bad c_h c_after c_entered c_mask c_asleep c_lockup c_counter c_current c_memory c_reg c_kept c_pending c_active y1 y2 y3 y4 hP hD hS hl hq hinv hi_c_current
      exact (tc_lp0 hinv).elim
    | succ n_19 IH_19 =>
      have J_54 : ∀ (H : Heap) (locs : List Loc) (ls : Array Slot) (c_n : Bool) (c_z : Bool) (c_c : Bool) (c_v : Bool) (c_keptFlags : Int32) (c_bad : Bool) (c_h : Int32) (c_after : Int32) (c_entered : Bool) (c_mask : Bool) (c_asleep : Bool) (c_lockup : Bool) (c_counter : Int32) (c_current : Int32) (c_memory : Nat → Int32) (c_reg : Nat → Int32) (c_kept : Nat → Int32) (c_pending : Nat → Bool) (c_active : Nat → Bool) (y1 : Int32) (y3 : Bool) (y4 : Int32) (z0 : Int32), va_P D tcl (wd_ThumbCoreModel cI cB cZ h h_memory h_reg h_kept h_pending h_active h_priorities q_size c_n c_z c_c c_v c_keptFlags c_bad c_h c_after c_entered c_mask c_asleep c_lockup c_counts c_counter c_reload c_current c_memory c_reg c_kept c_pending c_active c_priorities) H → va_D A (wd_ThumbCoreModel cI cB cZ h h_memory h_reg h_kept h_pending h_active h_priorities q_size c_n c_z c_c c_v c_keptFlags c_bad c_h c_after c_entered c_mask c_asleep c_lockup c_counts c_counter c_reload c_current c_memory c_reg c_kept c_pending c_active c_priorities) → va_S A s.heap H locs → lv_has ls 5 [(0, .ref h), (1, .int y1), (3, .int (bI y3)), (4, .int y4)] → FF = k_ThumbCoreModel_run_54 q_size c_counts c_reload c_priorities (k_ThumbCoreModel_run_19 q_size c_counts c_reload c_priorities n_19) c_n c_z c_c c_v c_keptFlags c_bad c_h c_after c_entered c_mask c_asleep c_lockup c_counter c_current c_memory c_reg c_kept c_pending c_active y1 y3 y4 z0 → (tc_lp y4 (Int32.toInt y1).toNat (n_19 + 1)) → (y4.toInt < ((Int32.toInt y1).toNat : Nat)) → (mdOK q_size c_current c_memory c_reg c_pending c_active) → W p l e rm_ThumbCoreModel_run s m ([.ref h, .int x1] : List Value).toArray below meth c H locs 0 0 Q (F0 m 54 ls [.int z0]) := by
        intro H locs ls c_n c_z c_c c_v c_keptFlags c_bad c_h c_after c_entered c_mask c_asleep c_lockup c_counter c_current c_memory c_reg c_kept c_pending c_active y1 y3 y4 z0 hP hD hS hl hq hinv hgd hi_c_current
        refine lv_istore_n (lv' := [(2, .int z0), (0, .ref h), (1, .int y1), (3, .int (bI y3)), (4, .int y4)]) hx hb d_ThumbCoreModel_run_54 rfl hl (by decide) rfl (fun ls hl => ?_)
        refine lv_iinc (k := 4) (v := (y4 + 1)) (lv' := [(4, .int (y4 + 1)), (2, .int z0), (0, .ref h), (1, .int y1), (3, .int (bI y3))]) hx hb d_ThumbCoreModel_run_55 hl rfl rfl (by decide) rfl (fun ls hl => ?_)
        refine lv_goto (tgt := 19) hx hb d_ThumbCoreModel_run_58 (by decide) ?_
        exact IH_19 H locs ls c_n c_z c_c c_v c_keptFlags c_bad c_h c_after c_entered c_mask c_asleep c_lockup c_counter c_current c_memory c_reg c_kept c_pending c_active y1 z0 y3 (y4 + 1) hP hD hS (lv_sub hl [2, 3, 1, 4, 0] rfl) hq (tc_lpS hinv hgd (tc_tn _)) hi_c_current
      have J_42 : ∀ (H : Heap) (locs : List Loc) (ls : Array Slot) (c_n : Bool) (c_z : Bool) (c_c : Bool) (c_v : Bool) (c_keptFlags : Int32) (c_bad : Bool) (c_h : Int32) (c_after : Int32) (c_entered : Bool) (c_mask : Bool) (c_asleep : Bool) (c_lockup : Bool) (c_counter : Int32) (c_current : Int32) (c_memory : Nat → Int32) (c_reg : Nat → Int32) (c_kept : Nat → Int32) (c_pending : Nat → Bool) (c_active : Nat → Bool) (y1 : Int32) (y2 : Int32) (y4 : Int32) (z0 : Bool), va_P D tcl (wd_ThumbCoreModel cI cB cZ h h_memory h_reg h_kept h_pending h_active h_priorities q_size c_n c_z c_c c_v c_keptFlags c_bad c_h c_after c_entered c_mask c_asleep c_lockup c_counts c_counter c_reload c_current c_memory c_reg c_kept c_pending c_active c_priorities) H → va_D A (wd_ThumbCoreModel cI cB cZ h h_memory h_reg h_kept h_pending h_active h_priorities q_size c_n c_z c_c c_v c_keptFlags c_bad c_h c_after c_entered c_mask c_asleep c_lockup c_counts c_counter c_reload c_current c_memory c_reg c_kept c_pending c_active c_priorities) → va_S A s.heap H locs → lv_has ls 5 [(0, .ref h), (1, .int y1), (2, .int y2), (4, .int y4)] → FF = k_ThumbCoreModel_run_42 q_size c_counts c_reload c_priorities (k_ThumbCoreModel_run_19 q_size c_counts c_reload c_priorities n_19) c_n c_z c_c c_v c_keptFlags c_bad c_h c_after c_entered c_mask c_asleep c_lockup c_counter c_current c_memory c_reg c_kept c_pending c_active y1 y2 y4 z0 → (tc_lp y4 (Int32.toInt y1).toNat (n_19 + 1)) → (y4.toInt < ((Int32.toInt y1).toNat : Nat)) → (mdOK q_size c_current c_memory c_reg c_pending c_active) → W p l e rm_ThumbCoreModel_run s m ([.ref h, .int x1] : List Value).toArray below meth c H locs 0 0 Q (F0 m 42 ls [.int (bI z0)]) := by
        intro H locs ls c_n c_z c_c c_v c_keptFlags c_bad c_h c_after c_entered c_mask c_asleep c_lockup c_counter c_current c_memory c_reg c_kept c_pending c_active y1 y2 y4 z0 hP hD hS hl hq hinv hgd hi_c_current
        refine lv_istore_n (lv' := [(3, .int (bI z0)), (0, .ref h), (1, .int y1), (2, .int y2), (4, .int y4)]) hx hb d_ThumbCoreModel_run_42 rfl hl (by decide) rfl (fun ls hl => ?_)
        refine lv_iload_n hx hb d_ThumbCoreModel_run_43 rfl (lv_at hl 0 rfl) ?_
        refine lv_if_eq (tgt := 53) hx hb d_ThumbCoreModel_run_44 (by decide) (fun g_44 => ?_) (fun g_44 => ?_)
        · have hq := hq.trans (if_pos g_44)
          refine lv_iload_n hx hb d_ThumbCoreModel_run_53 rfl (lv_at hl 3 rfl) ?_
          exact J_54 H locs ls c_n c_z c_c c_v c_keptFlags c_bad c_h c_after c_entered c_mask c_asleep c_lockup c_counter c_current c_memory c_reg c_kept c_pending c_active y1 z0 y4 y2 hP hD hS (lv_sub hl [1, 2, 0, 4] rfl) hq (by assumption) (by assumption) hi_c_current
        · have hq := hq.trans (if_neg g_44)
          refine lv_iload_n hx hb d_ThumbCoreModel_run_47 rfl (lv_at hl 3 rfl) ?_
          refine lv_iconst (v := 1) hx hb d_ThumbCoreModel_run_48 (by decide) ?_
          refine lv_iadd hx hb d_ThumbCoreModel_run_49 ?_
          refine lv_goto (tgt := 54) hx hb d_ThumbCoreModel_run_50 (by decide) ?_
          exact J_54 H locs ls c_n c_z c_c c_v c_keptFlags c_bad c_h c_after c_entered c_mask c_asleep c_lockup c_counter c_current c_memory c_reg c_kept c_pending c_active y1 z0 y4 (y2 + 1) hP hD hS (lv_sub hl [1, 2, 0, 4] rfl) hq (by assumption) (by assumption) hi_c_current
      intro H locs ls c_n c_z c_c c_v c_keptFlags c_bad c_h c_after c_entered c_mask c_asleep c_lockup c_counter c_current c_memory c_reg c_kept c_pending c_active y1 y2 y3 y4 hP hD hS hl hq hinv hi_c_current
      refine lv_iload hx hb d_ThumbCoreModel_run_19 (lv_at hl 4 rfl) ?_
      refine lv_iload_n hx hb d_ThumbCoreModel_run_21 rfl (lv_at hl 1 rfl) ?_
      refine lv_icmp_ge (tgt := 61) hx hb d_ThumbCoreModel_run_22 (by decide) (fun g_22 => ?_) (fun g_22 => ?_)
      · have hq := hq.trans (if_pos g_22)
        refine lv_iload_n hx hb d_ThumbCoreModel_run_61 rfl (lv_at hl 2 rfl) ?_
        exact RET H locs ls 62 (y2, c_n, c_z, c_c, c_v, c_keptFlags, c_bad, c_h, c_after, c_entered, c_mask, c_asleep, c_lockup, c_counter, c_current, c_memory, c_reg, c_kept, c_pending, c_active) d_ThumbCoreModel_run_62 hP hD hS hq
      · have hq := hq.trans (if_neg g_22)
        have hgd := tc_ggl hinv g_22
        refine lv_iload_n hx hb d_ThumbCoreModel_run_25 rfl (lv_at hl 3 rfl) ?_
        refine lv_if_eq (tgt := 61) hx hb d_ThumbCoreModel_run_26 (by decide) (fun g_26 => ?_) (fun g_26 => ?_)
        · have hq := hq.trans (if_pos g_26)
          refine lv_iload_n hx hb d_ThumbCoreModel_run_61 rfl (lv_at hl 2 rfl) ?_
          exact RET H locs ls 62 (y2, c_n, c_z, c_c, c_v, c_keptFlags, c_bad, c_h, c_after, c_entered, c_mask, c_asleep, c_lockup, c_counter, c_current, c_memory, c_reg, c_kept, c_pending, c_active) d_ThumbCoreModel_run_62 hP hD hS hq
        · have hq := hq.trans (if_neg g_26)
          refine lv_aload_n hx hb d_ThumbCoreModel_run_29 rfl (lv_at hl 0 rfl) ?_
          refine tc_mi (wo := fun u => (wd_ThumbCoreModel cI cB cZ h h_memory h_reg h_kept h_pending h_active h_priorities q_size u.2.1 u.2.2.1 u.2.2.2.1 u.2.2.2.2.1 u.2.2.2.2.2.1 u.2.2.2.2.2.2.1 u.2.2.2.2.2.2.2.1 u.2.2.2.2.2.2.2.2.1 u.2.2.2.2.2.2.2.2.2.1 u.2.2.2.2.2.2.2.2.2.2.1 u.2.2.2.2.2.2.2.2.2.2.2.1 u.2.2.2.2.2.2.2.2.2.2.2.2.1 c_counts u.2.2.2.2.2.2.2.2.2.2.2.2.2.1 c_reload u.2.2.2.2.2.2.2.2.2.2.2.2.2.2.1 u.2.2.2.2.2.2.2.2.2.2.2.2.2.2.2.1 u.2.2.2.2.2.2.2.2.2.2.2.2.2.2.2.2.1 u.2.2.2.2.2.2.2.2.2.2.2.2.2.2.2.2.2.1 u.2.2.2.2.2.2.2.2.2.2.2.2.2.2.2.2.2.2.1 u.2.2.2.2.2.2.2.2.2.2.2.2.2.2.2.2.2.2.2 c_priorities)) (va_runV (As := []) (rest := []) ⟨hx, hb, hml, hown, hts⟩ (c_ThumbCoreModel_step l D cI cB cZ h h_memory h_reg h_kept h_pending h_active h_priorities H.size q_size c_n c_z c_c c_v c_keptFlags c_bad c_h c_after c_entered c_mask c_asleep c_lockup c_counts c_counter c_reload c_current c_memory c_reg c_kept c_pending c_active c_priorities hm (md_in hi_c_current)) (cwV 0 hts (tc_gV wl_ThumbCoreModel_217 wm_ThumbCoreModel_step ws_ThumbCoreModel_step wi_ThumbCoreModel wc_ThumbCoreModel_step) rfl rfl rfl (by decide +kernel) ⟨Nat.le_of_ble_eq_true rfl, Nat.le_of_ble_eq_true rfl⟩) (tc_preV hK hN hP hD [0, 1, 2, 3, 4, 5, 6] rfl (by decide) (q0 := 0) rfl rfl) rfl rfl hl.1 rfl (lv_room (Nat.le_of_ble_eq_true rfl)) d_ThumbCoreModel_run_30 (by decide)) hP hD hS hA [0, 1, 2, 3, 4, 5, 6] [] [0, 1, 2, 3, 4, 5, 6] rfl rfl (by decide) (by decide) (by decide) (fun _ => rfl) (fun u H locs hu hP hD hS => ?_)
          obtain ⟨r1, s2, s3, s4, s5, s6, s7, s8, s9, s10, s11, s12, s13, s14, s15, s16, s17, s18, s19, s20⟩ := u
          have hq := hq.trans (un20_eq hu _)
          have e_r1 := hu
          have hP : va_P D tcl (wd_ThumbCoreModel cI cB cZ h h_memory h_reg h_kept h_pending h_active h_priorities q_size s2 s3 s4 s5 s6 s7 s8 s9 s10 s11 s12 s13 c_counts s14 c_reload s15 s16 s17 s18 s19 s20 c_priorities) H := hP
          have hD : va_D A (wd_ThumbCoreModel cI cB cZ h h_memory h_reg h_kept h_pending h_active h_priorities q_size s2 s3 s4 s5 s6 s7 s8 s9 s10 s11 s12 s13 c_counts s14 c_reload s15 s16 s17 s18 s19 s20 c_priorities) := hD
          refine W.eq (g2 := F0 m 33 ls [.int r1]) rfl ?_
          refine lv_iconst (v := 2) hx hb d_ThumbCoreModel_run_33 (by decide) ?_
          refine lv_icmp_ge (tgt := 41) hx hb d_ThumbCoreModel_run_34 (by decide) (fun g_34 => ?_) (fun g_34 => ?_)
          · have hq := hq.trans (if_pos g_34)
            refine lv_iconst (v := 0) hx hb d_ThumbCoreModel_run_41 (by decide) ?_
            exact J_42 H locs ls s2 s3 s4 s5 s6 s7 s8 s9 s10 s11 s12 s13 s14 s15 s16 s17 s18 s19 s20 y1 y2 y4 false hP hD hS (lv_sub hl [0, 1, 2, 4] rfl) hq (by assumption) (by assumption) (md_stepE e_r1 hi_c_current)
          · have hq := hq.trans (if_neg g_34)
            refine lv_iconst (v := 1) hx hb d_ThumbCoreModel_run_37 (by decide) ?_
            refine lv_goto (tgt := 42) hx hb d_ThumbCoreModel_run_38 (by decide) ?_
            exact J_42 H locs ls s2 s3 s4 s5 s6 s7 s8 s9 s10 s11 s12 s13 s14 s15 s16 s17 s18 s19 s20 y1 y2 y4 true hP hD hS (lv_sub hl [0, 1, 2, 4] rfl) hq (by assumption) (by assumption) (md_stepE e_r1 hi_c_current)
  have hq : FF = f_ThumbCoreModel_run q_size c_counts c_reload c_priorities c_n c_z c_c c_v c_keptFlags c_bad c_h c_after c_entered c_mask c_asleep c_lockup c_counter c_current c_memory c_reg c_kept c_pending c_active x1 := hF.symm
  revert hP hD hS
  suffices G : ∀ (H : Heap) (locs : List Loc), va_P D tcl (wd_ThumbCoreModel cI cB cZ h h_memory h_reg h_kept h_pending h_active h_priorities q_size c_n c_z c_c c_v c_keptFlags c_bad c_h c_after c_entered c_mask c_asleep c_lockup c_counts c_counter c_reload c_current c_memory c_reg c_kept c_pending c_active c_priorities) H → va_D A (wd_ThumbCoreModel cI cB cZ h h_memory h_reg h_kept h_pending h_active h_priorities q_size c_n c_z c_c c_v c_keptFlags c_bad c_h c_after c_entered c_mask c_asleep c_lockup c_counts c_counter c_reload c_current c_memory c_reg c_kept c_pending c_active c_priorities) → va_S A s.heap H locs → W p l e rm_ThumbCoreModel_run s m ([.ref h, .int x1] : List Value).toArray below meth c H locs 0 0 Q (F0 m 0 ls []) from fun hP hD hS => G _ _ hP hD hS
  intro H locs hP hD hS
  refine lv_iload_n hx hb d_ThumbCoreModel_run_0 rfl (lv_at hl 1 rfl) ?_
  refine lv_if_lt (tgt := 10) hx hb d_ThumbCoreModel_run_1 (by decide) (fun g_1 => ?_) (fun g_1 => ?_)
  · have hq := hq.trans (if_pos g_1)
    refine lv_iconst (v := (-1)) hx hb d_ThumbCoreModel_run_10 (by decide) ?_
    exact RET H locs ls 11 ((-1), c_n, c_z, c_c, c_v, c_keptFlags, c_bad, c_h, c_after, c_entered, c_mask, c_asleep, c_lockup, c_counter, c_current, c_memory, c_reg, c_kept, c_pending, c_active) d_ThumbCoreModel_run_11 hP hD hS hq
  · have hq := hq.trans (if_neg g_1)
    refine lv_iload_n hx hb d_ThumbCoreModel_run_4 rfl (lv_at hl 1 rfl) ?_
    refine lv_bipush (v := 100) hx hb d_ThumbCoreModel_run_5 (by decide) ?_
    refine lv_icmp_le (tgt := 12) hx hb d_ThumbCoreModel_run_7 (by decide) (fun g_7 => ?_) (fun g_7 => ?_)
    · have hq := hq.trans (if_pos g_7)
      refine lv_iconst (v := 0) hx hb d_ThumbCoreModel_run_12 (by decide) ?_
      refine lv_istore_n (lv' := [(2, .int 0), (0, .ref h), (1, .int x1)]) hx hb d_ThumbCoreModel_run_13 rfl hl (by decide) rfl (fun ls hl => ?_)
      refine lv_iconst (v := 1) hx hb d_ThumbCoreModel_run_14 (by decide) ?_
      refine lv_istore_n (lv' := [(3, .int 1), (2, .int 0), (0, .ref h), (1, .int x1)]) hx hb d_ThumbCoreModel_run_15 rfl hl (by decide) rfl (fun ls hl => ?_)
      refine lv_iconst (v := 0) hx hb d_ThumbCoreModel_run_16 (by decide) ?_
      refine lv_istore (lv' := [(4, .int 0), (3, .int 1), (2, .int 0), (0, .ref h), (1, .int x1)]) hx hb d_ThumbCoreModel_run_17 hl (by decide) rfl (fun ls hl => ?_)
      exact J_19 ((Int32.toInt x1).toNat.succ) H locs ls c_n c_z c_c c_v c_keptFlags c_bad c_h c_after c_entered c_mask c_asleep c_lockup c_counter c_current c_memory c_reg c_kept c_pending c_active x1 0 true 0 hP hD hS (lv_sub hl [3, 4, 2, 1, 0] rfl) hq (tc_lpE _) hi_c_current
    · have hq := hq.trans (if_neg g_7)
      refine lv_iconst (v := (-1)) hx hb d_ThumbCoreModel_run_10 (by decide) ?_
      exact RET H locs ls 11 ((-1), c_n, c_z, c_c, c_v, c_keptFlags, c_bad, c_h, c_after, c_entered, c_mask, c_asleep, c_lockup, c_counter, c_current, c_memory, c_reg, c_kept, c_pending, c_active) d_ThumbCoreModel_run_11 hP hD hS hq
abbrev rm_ThumbCoreModel_register : Room := { frames := 1, cells := 0, slots := 0, locals := 24 }
set_option maxHeartbeats 4000000 in
set_option maxRecDepth 100000 in
theorem c_ThumbCoreModel_register (l : Launch) (D : va_G) (cI cB cZ : ClassId) (h h_memory h_reg h_kept h_pending h_active h_priorities sz : Nat) (q_size : Int32) (c_n : Bool) (c_z : Bool) (c_c : Bool) (c_v : Bool) (c_keptFlags : Int32) (c_bad : Bool) (c_h : Int32) (c_after : Int32) (c_entered : Bool) (c_mask : Bool) (c_asleep : Bool) (c_lockup : Bool) (c_counts : Bool) (c_counter : Int32) (c_reload : Int32) (c_current : Int32) (c_memory : Nat → Int32) (c_reg : Nat → Int32) (c_kept : Nat → Int32) (c_pending : Nat → Bool) (c_active : Nat → Bool) (c_priorities : Nat → Int32) (x1 : Int32) : Met l y_ThumbCoreModel_register (.code y_ThumbCoreModel_register b_ThumbCoreModel_register 2 (some .int) :: tcb) rm_ThumbCoreModel_register (tc_Pw D tcl (tys cI cB cZ) (wd_ThumbCoreModel cI cB cZ h h_memory h_reg h_kept h_pending h_active h_priorities q_size c_n c_z c_c c_v c_keptFlags c_bad c_h c_after c_entered c_mask c_asleep c_lockup c_counts c_counter c_reload c_current c_memory c_reg c_kept c_pending c_active c_priorities) sz ([.ref h, .int x1] : List Value) none) (QcRead (f_ThumbCoreModel_register c_reg x1)) 0 0 (fun _ => False) := by
  refine tc_rd_i (by decide) (Nat.le_of_ble_eq_true rfl) ?_
  intro p e s m below meth c Q ls hx hb hml hts hown hK hN hP hD hl RET
  have hl : lv_has ls 2 [(0, .ref h), (1, .int x1)] := hl
  generalize hF : f_ThumbCoreModel_register c_reg x1 = FF at RET
  have hq : FF = f_ThumbCoreModel_register c_reg x1 := hF.symm
  refine lv_iload_n hx hb d_ThumbCoreModel_register_0 rfl (lv_at hl 1 rfl) ?_
  refine lv_if_lt (tgt := 19) hx hb d_ThumbCoreModel_register_1 (by decide) (fun g_1 => ?_) (fun g_1 => ?_)
  · have hq := hq.trans (if_pos g_1)
    refine lv_iconst (v := 0) hx hb d_ThumbCoreModel_register_19 (by decide) ?_
    exact RET ls 20 d_ThumbCoreModel_register_20 hq
  · have hq := hq.trans (if_neg g_1)
    refine lv_iload_n hx hb d_ThumbCoreModel_register_4 rfl (lv_at hl 1 rfl) ?_
    refine lv_bipush (v := 16) hx hb d_ThumbCoreModel_register_5 (by decide) ?_
    refine lv_icmp_ge (tgt := 19) hx hb d_ThumbCoreModel_register_7 (by decide) (fun g_7 => ?_) (fun g_7 => ?_)
    · have hq := hq.trans (if_pos g_7)
      refine lv_iconst (v := 0) hx hb d_ThumbCoreModel_register_19 (by decide) ?_
      exact RET ls 20 d_ThumbCoreModel_register_20 hq
    · have hq := hq.trans (if_neg g_7)
      refine lv_aload_n hx hb d_ThumbCoreModel_register_10 rfl (lv_at hl 0 rfl) ?_
      refine va_get (D := D) (ci := 5) (v := .ref h_reg) (C := R_ThumbCoreModel) (T := F_ThumbCoreModel) (N := 23) hx hb hts u_ThumbCoreModel hown hK hP 0 rfl rfl 2 (by decide) (hts _ wf_ThumbCoreModel_13) (fun _ h9 => h9) rfl d_ThumbCoreModel_register_11 ?_
      refine lv_iload_n hx hb d_ThumbCoreModel_register_14 rfl (lv_at hl 1 rfl) ?_
      refine va_iald hx hb hK hP 2 0 rfl rfl (tc_gin3 g_1 g_7) d_ThumbCoreModel_register_15 ?_
      refine lv_goto (tgt := 20) hx hb d_ThumbCoreModel_register_16 (by decide) ?_
      exact RET ls 20 d_ThumbCoreModel_register_20 hq
abbrev rm_ThumbCoreModel_set : Room := { frames := 1, cells := 0, slots := 0, locals := 24 }
set_option maxHeartbeats 4000000 in
set_option maxRecDepth 100000 in
theorem c_ThumbCoreModel_set (l : Launch) (D : va_G) (cI cB cZ : ClassId) (h h_memory h_reg h_kept h_pending h_active h_priorities sz : Nat) (q_size : Int32) (c_n : Bool) (c_z : Bool) (c_c : Bool) (c_v : Bool) (c_keptFlags : Int32) (c_bad : Bool) (c_h : Int32) (c_after : Int32) (c_entered : Bool) (c_mask : Bool) (c_asleep : Bool) (c_lockup : Bool) (c_counts : Bool) (c_counter : Int32) (c_reload : Int32) (c_current : Int32) (c_memory : Nat → Int32) (c_reg : Nat → Int32) (c_kept : Nat → Int32) (c_pending : Nat → Bool) (c_active : Nat → Bool) (c_priorities : Nat → Int32) (x1 : Int32) (x2 : Int32) : Met l y_ThumbCoreModel_set (.code y_ThumbCoreModel_set b_ThumbCoreModel_set 3 (some .boolean) :: tcb) rm_ThumbCoreModel_set (tc_Pw D tcl (tys cI cB cZ) (wd_ThumbCoreModel cI cB cZ h h_memory h_reg h_kept h_pending h_active h_priorities q_size c_n c_z c_c c_v c_keptFlags c_bad c_h c_after c_entered c_mask c_asleep c_lockup c_counts c_counter c_reload c_current c_memory c_reg c_kept c_pending c_active c_priorities) sz ([.ref h, .int x1, .int x2] : List Value) none) (tc_Qz D tcl (wd_ThumbCoreModel cI cB cZ h h_memory h_reg h_kept h_pending h_active h_priorities q_size c_n c_z c_c c_v c_keptFlags c_bad c_h c_after c_entered c_mask c_asleep c_lockup c_counts c_counter c_reload c_current c_memory c_reg c_kept c_pending c_active c_priorities) sz (fun u => (wd_ThumbCoreModel cI cB cZ h h_memory h_reg h_kept h_pending h_active h_priorities q_size c_n c_z c_c c_v c_keptFlags c_bad c_h c_after c_entered c_mask c_asleep c_lockup c_counts c_counter c_reload c_current c_memory u.2 c_kept c_pending c_active c_priorities)) (f_ThumbCoreModel_set c_reg x1 x2)) 0 0 (va_A (wd_ThumbCoreModel cI cB cZ h h_memory h_reg h_kept h_pending h_active h_priorities q_size c_n c_z c_c c_v c_keptFlags c_bad c_h c_after c_entered c_mask c_asleep c_lockup c_counts c_counter c_reload c_current c_memory c_reg c_kept c_pending c_active c_priorities) sz) := by
  refine tc_mu_z (by decide) (Nat.le_of_ble_eq_true rfl) ?_
  intro p e s m below meth c A Q ls hx hb hml hts hown hK hN hP hD hA hZ hl RET
  have hS : va_S A s.heap s.heap [] := va_S.rf
  have hl : lv_has ls 3 [(0, .ref h), (1, .int x1), (2, .int x2)] := hl
  generalize hF : f_ThumbCoreModel_set c_reg x1 x2 = FF at RET
  have J_44 : ∀ (H : Heap) (locs : List Loc) (ls : Array Slot) (c_reg : Nat → Int32) (z1 : Int32) (z2 : Int32), va_P D tcl (wd_ThumbCoreModel cI cB cZ h h_memory h_reg h_kept h_pending h_active h_priorities q_size c_n c_z c_c c_v c_keptFlags c_bad c_h c_after c_entered c_mask c_asleep c_lockup c_counts c_counter c_reload c_current c_memory c_reg c_kept c_pending c_active c_priorities) H → va_D A (wd_ThumbCoreModel cI cB cZ h h_memory h_reg h_kept h_pending h_active h_priorities q_size c_n c_z c_c c_v c_keptFlags c_bad c_h c_after c_entered c_mask c_asleep c_lockup c_counts c_counter c_reload c_current c_memory c_reg c_kept c_pending c_active c_priorities) → va_S A s.heap H locs → lv_has ls 3 [] → FF = k_ThumbCoreModel_set_44 c_reg z1 z2 → (vp_in z1 16) → W p l e rm_ThumbCoreModel_set s m ([.ref h, .int x1, .int x2] : List Value).toArray below meth c H locs 0 0 Q (F0 m 44 ls [.int z2, .int z1, .ref h_reg]) := by
    intro H locs ls c_reg z1 z2 hP hD hS hl hq hi_z1
    refine va_iast hx hb hK hP hD hS 2 0 rfl rfl hi_z1 d_ThumbCoreModel_set_44 (fun H locs hP hD hS => ?_)
    have hP : va_P D tcl (wd_ThumbCoreModel cI cB cZ h h_memory h_reg h_kept h_pending h_active h_priorities q_size c_n c_z c_c c_v c_keptFlags c_bad c_h c_after c_entered c_mask c_asleep c_lockup c_counts c_counter c_reload c_current c_memory (upd c_reg z1.toNatClampNeg z2) c_kept c_pending c_active c_priorities) H := hP
    have hD : va_D A (wd_ThumbCoreModel cI cB cZ h h_memory h_reg h_kept h_pending h_active h_priorities q_size c_n c_z c_c c_v c_keptFlags c_bad c_h c_after c_entered c_mask c_asleep c_lockup c_counts c_counter c_reload c_current c_memory (upd c_reg z1.toNatClampNeg z2) c_kept c_pending c_active c_priorities) := hD
    refine lv_iconst (v := 1) hx hb d_ThumbCoreModel_set_45 (by decide) ?_
    exact RET H locs ls 46 (true, (upd c_reg z1.toNatClampNeg z2)) d_ThumbCoreModel_set_46 hP hD hS hq
  have hq : FF = f_ThumbCoreModel_set c_reg x1 x2 := hF.symm
  revert hP hD hS
  suffices G : ∀ (H : Heap) (locs : List Loc), va_P D tcl (wd_ThumbCoreModel cI cB cZ h h_memory h_reg h_kept h_pending h_active h_priorities q_size c_n c_z c_c c_v c_keptFlags c_bad c_h c_after c_entered c_mask c_asleep c_lockup c_counts c_counter c_reload c_current c_memory c_reg c_kept c_pending c_active c_priorities) H → va_D A (wd_ThumbCoreModel cI cB cZ h h_memory h_reg h_kept h_pending h_active h_priorities q_size c_n c_z c_c c_v c_keptFlags c_bad c_h c_after c_entered c_mask c_asleep c_lockup c_counts c_counter c_reload c_current c_memory c_reg c_kept c_pending c_active c_priorities) → va_S A s.heap H locs → W p l e rm_ThumbCoreModel_set s m ([.ref h, .int x1, .int x2] : List Value).toArray below meth c H locs 0 0 Q (F0 m 0 ls []) from fun hP hD hS => G _ _ hP hD hS
  intro H locs hP hD hS
  refine lv_iload_n hx hb d_ThumbCoreModel_set_0 rfl (lv_at hl 1 rfl) ?_
  refine lv_if_lt (tgt := 10) hx hb d_ThumbCoreModel_set_1 (by decide) (fun g_1 => ?_) (fun g_1 => ?_)
  · have hq := hq.trans (if_pos g_1)
    refine lv_iconst (v := 0) hx hb d_ThumbCoreModel_set_10 (by decide) ?_
    exact RET H locs ls 11 (false, c_reg) d_ThumbCoreModel_set_11 hP hD hS hq
  · have hq := hq.trans (if_neg g_1)
    refine lv_iload_n hx hb d_ThumbCoreModel_set_4 rfl (lv_at hl 1 rfl) ?_
    refine lv_bipush (v := 15) hx hb d_ThumbCoreModel_set_5 (by decide) ?_
    refine lv_icmp_le (tgt := 12) hx hb d_ThumbCoreModel_set_7 (by decide) (fun g_7 => ?_) (fun g_7 => ?_)
    · have hq := hq.trans (if_pos g_7)
      refine lv_aload_n hx hb d_ThumbCoreModel_set_12 rfl (lv_at hl 0 rfl) ?_
      refine va_get (D := D) (ci := 5) (v := .ref h_reg) (C := R_ThumbCoreModel) (T := F_ThumbCoreModel) (N := 23) hx hb hts u_ThumbCoreModel hown hK hP 0 rfl rfl 2 (by decide) (hts _ wf_ThumbCoreModel_13) (fun _ h9 => h9) rfl d_ThumbCoreModel_set_13 ?_
      refine lv_iload_n hx hb d_ThumbCoreModel_set_16 rfl (lv_at hl 1 rfl) ?_
      refine lv_iload_n hx hb d_ThumbCoreModel_set_17 rfl (lv_at hl 1 rfl) ?_
      refine lv_bipush (v := 13) hx hb d_ThumbCoreModel_set_18 (by decide) ?_
      refine lv_icmp_ne (tgt := 30) hx hb d_ThumbCoreModel_set_20 (by decide) (fun g_20 => ?_) (fun g_20 => ?_)
      · have hq := hq.trans (if_pos g_20)
        refine lv_iload_n hx hb d_ThumbCoreModel_set_30 rfl (lv_at hl 1 rfl) ?_
        refine lv_bipush (v := 15) hx hb d_ThumbCoreModel_set_31 (by decide) ?_
        refine lv_icmp_ne (tgt := 43) hx hb d_ThumbCoreModel_set_33 (by decide) (fun g_33 => ?_) (fun g_33 => ?_)
        · have hq := hq.trans (if_pos g_33)
          refine lv_iload_n hx hb d_ThumbCoreModel_set_43 rfl (lv_at hl 2 rfl) ?_
          exact J_44 H locs ls c_reg x1 x2 hP hD hS (lv_sub hl [] rfl) hq (tc_gin2 g_1 g_7)
        · have hq := hq.trans (if_neg (fun g => g g_33))
          refine lv_iload_n hx hb d_ThumbCoreModel_set_36 rfl (lv_at hl 2 rfl) ?_
          refine lv_bipush (v := (-2)) hx hb d_ThumbCoreModel_set_37 (by decide) ?_
          refine lv_iand hx hb d_ThumbCoreModel_set_39 ?_
          refine lv_goto (tgt := 44) hx hb d_ThumbCoreModel_set_40 (by decide) ?_
          exact J_44 H locs ls c_reg x1 (x2 &&& (-2)) hP hD hS (lv_sub hl [] rfl) hq (tc_gin2 g_1 g_7)
      · have hq := hq.trans (if_neg (fun g => g g_20))
        refine lv_iload_n hx hb d_ThumbCoreModel_set_23 rfl (lv_at hl 2 rfl) ?_
        refine lv_bipush (v := (-4)) hx hb d_ThumbCoreModel_set_24 (by decide) ?_
        refine lv_iand hx hb d_ThumbCoreModel_set_26 ?_
        refine lv_goto (tgt := 44) hx hb d_ThumbCoreModel_set_27 (by decide) ?_
        exact J_44 H locs ls c_reg x1 (x2 &&& (-4)) hP hD hS (lv_sub hl [] rfl) hq (tc_gin2 g_1 g_7)
    · have hq := hq.trans (if_neg g_7)
      refine lv_iconst (v := 0) hx hb d_ThumbCoreModel_set_10 (by decide) ?_
      exact RET H locs ls 11 (false, c_reg) d_ThumbCoreModel_set_11 hP hD hS hq
abbrev rm_ThumbCoreModel_about : Room := { frames := 2, cells := 0, slots := 0, locals := 47 }
set_option maxHeartbeats 4000000 in
set_option maxRecDepth 100000 in
theorem c_ThumbCoreModel_about (l : Launch) (D : va_G) (cI cB cZ : ClassId) (h h_memory h_reg h_kept h_pending h_active h_priorities sz : Nat) (q_size : Int32) (c_n : Bool) (c_z : Bool) (c_c : Bool) (c_v : Bool) (c_keptFlags : Int32) (c_bad : Bool) (c_h : Int32) (c_after : Int32) (c_entered : Bool) (c_mask : Bool) (c_asleep : Bool) (c_lockup : Bool) (c_counts : Bool) (c_counter : Int32) (c_reload : Int32) (c_current : Int32) (c_memory : Nat → Int32) (c_reg : Nat → Int32) (c_kept : Nat → Int32) (c_pending : Nat → Bool) (c_active : Nat → Bool) (c_priorities : Nat → Int32) (x1 : Int32) : Met l y_ThumbCoreModel_about (.code y_ThumbCoreModel_about b_ThumbCoreModel_about 2 (some .int) :: tcb) rm_ThumbCoreModel_about (tc_Pw D tcl (tys cI cB cZ) (wd_ThumbCoreModel cI cB cZ h h_memory h_reg h_kept h_pending h_active h_priorities q_size c_n c_z c_c c_v c_keptFlags c_bad c_h c_after c_entered c_mask c_asleep c_lockup c_counts c_counter c_reload c_current c_memory c_reg c_kept c_pending c_active c_priorities) sz ([.ref h, .int x1] : List Value) none) (QcRead (f_ThumbCoreModel_about c_mask c_asleep c_lockup c_counter c_current c_active c_priorities x1)) 0 0 (fun _ => False) := by
  refine tc_rd_i (by decide) (Nat.le_of_ble_eq_true rfl) ?_
  intro p e s m below meth c Q ls hx hb hml hts hown hK hN hP hD hl RET
  have hl : lv_has ls 2 [(0, .ref h), (1, .int x1)] := hl
  generalize hF : f_ThumbCoreModel_about c_mask c_asleep c_lockup c_counter c_current c_active c_priorities x1 = FF at RET
  have hq : FF = f_ThumbCoreModel_about c_mask c_asleep c_lockup c_counter c_current c_active c_priorities x1 := hF.symm
  refine lv_iload_n hx hb d_ThumbCoreModel_about_0 rfl (lv_at hl 1 rfl) ?_
  by_cases g_1_0 : x1 = 0
  · have hq := hq.trans (if_pos g_1_0)
    refine tc_tabIn (k := 0) (off := 43) (tgt := 44) hx hb d_ThumbCoreModel_about_1 g_1_0 (by decide) (by decide) (by decide +kernel) (by decide) ?_
    refine lv_aload_n hx hb d_ThumbCoreModel_about_44 rfl (lv_at hl 0 rfl) ?_
    refine va_get (D := D) (ci := 5) (v := .int c_current) (C := R_ThumbCoreModel) (T := F_ThumbCoreModel) (N := 23) hx hb hts u_ThumbCoreModel hown hK hP 0 rfl rfl 19 (by decide) (hts _ wf_ThumbCoreModel_71) (fun _ h9 => h9) rfl d_ThumbCoreModel_about_45 ?_
    exact RET ls 48 d_ThumbCoreModel_about_48 hq
  have hq := hq.trans (if_neg g_1_0)
  by_cases g_1_1 : x1 = 1
  · have hq := hq.trans (if_pos g_1_1)
    refine tc_tabIn (k := 1) (off := 48) (tgt := 49) hx hb d_ThumbCoreModel_about_1 g_1_1 (by decide) (by decide) (by decide +kernel) (by decide) ?_
    refine lv_aload_n hx hb d_ThumbCoreModel_about_49 rfl (lv_at hl 0 rfl) ?_
    refine tc_rd (va_runV (As := []) (rest := []) ⟨hx, hb, hml, hown, hts⟩ (c_ThumbCoreModel_actives l D cI cB cZ h h_memory h_reg h_kept h_pending h_active h_priorities s.heap.size q_size c_n c_z c_c c_v c_keptFlags c_bad c_h c_after c_entered c_mask c_asleep c_lockup c_counts c_counter c_reload c_current c_memory c_reg c_kept c_pending c_active c_priorities) (cwV 0 hts (tc_gV wl_ThumbCoreModel_104 wm_ThumbCoreModel_actives ws_ThumbCoreModel_actives wi_ThumbCoreModel wc_ThumbCoreModel_actives) rfl rfl rfl (by decide +kernel) ⟨Nat.le_of_ble_eq_true rfl, Nat.le_of_ble_eq_true rfl⟩) (tc_preV hK hN hP hD [0, 1, 2, 3, 4, 5, 6] rfl (by decide) (q0 := 0) rfl rfl) rfl rfl hl.1 rfl (lv_room (Nat.le_of_ble_eq_true rfl)) d_ThumbCoreModel_about_50 (by decide)) ?_
    refine lv_topi (fun v1 e_v1 => ?_)
    have hq := tc_nm hq e_v1
    exact RET ls 53 d_ThumbCoreModel_about_53 hq
  have hq := hq.trans (if_neg g_1_1)
  by_cases g_1_2 : x1 = 2
  · have hq := hq.trans (if_pos g_1_2)
    refine tc_tabIn (k := 2) (off := 53) (tgt := 54) hx hb d_ThumbCoreModel_about_1 g_1_2 (by decide) (by decide) (by decide +kernel) (by decide) ?_
    refine lv_aload_n hx hb d_ThumbCoreModel_about_54 rfl (lv_at hl 0 rfl) ?_
    refine va_get (D := D) (ci := 5) (v := .int (bI c_mask)) (C := R_ThumbCoreModel) (T := F_ThumbCoreModel) (N := 23) hx hb hts u_ThumbCoreModel hown hK hP 0 rfl rfl 13 (by decide) (hts _ wf_ThumbCoreModel_53) (fun _ h9 => h9) rfl d_ThumbCoreModel_about_55 ?_
    refine lv_if_eq (tgt := 65) hx hb d_ThumbCoreModel_about_58 (by decide) (fun g_58 => ?_) (fun g_58 => ?_)
    · have hq := hq.trans (if_pos g_58)
      refine lv_iconst (v := 0) hx hb d_ThumbCoreModel_about_65 (by decide) ?_
      exact RET ls 66 d_ThumbCoreModel_about_66 hq
    · have hq := hq.trans (if_neg g_58)
      refine lv_iconst (v := 1) hx hb d_ThumbCoreModel_about_61 (by decide) ?_
      refine lv_goto (tgt := 66) hx hb d_ThumbCoreModel_about_62 (by decide) ?_
      exact RET ls 66 d_ThumbCoreModel_about_66 hq
  have hq := hq.trans (if_neg g_1_2)
  by_cases g_1_3 : x1 = 3
  · have hq := hq.trans (if_pos g_1_3)
    refine tc_tabIn (k := 3) (off := 66) (tgt := 67) hx hb d_ThumbCoreModel_about_1 g_1_3 (by decide) (by decide) (by decide +kernel) (by decide) ?_
    refine lv_aload_n hx hb d_ThumbCoreModel_about_67 rfl (lv_at hl 0 rfl) ?_
    refine va_get (D := D) (ci := 5) (v := .int (bI c_asleep)) (C := R_ThumbCoreModel) (T := F_ThumbCoreModel) (N := 23) hx hb hts u_ThumbCoreModel hown hK hP 0 rfl rfl 14 (by decide) (hts _ wf_ThumbCoreModel_56) (fun _ h9 => h9) rfl d_ThumbCoreModel_about_68 ?_
    refine lv_if_eq (tgt := 78) hx hb d_ThumbCoreModel_about_71 (by decide) (fun g_71 => ?_) (fun g_71 => ?_)
    · have hq := hq.trans (if_pos g_71)
      refine lv_iconst (v := 0) hx hb d_ThumbCoreModel_about_78 (by decide) ?_
      exact RET ls 79 d_ThumbCoreModel_about_79 hq
    · have hq := hq.trans (if_neg g_71)
      refine lv_iconst (v := 1) hx hb d_ThumbCoreModel_about_74 (by decide) ?_
      refine lv_goto (tgt := 79) hx hb d_ThumbCoreModel_about_75 (by decide) ?_
      exact RET ls 79 d_ThumbCoreModel_about_79 hq
  have hq := hq.trans (if_neg g_1_3)
  by_cases g_1_4 : x1 = 4
  · have hq := hq.trans (if_pos g_1_4)
    refine tc_tabIn (k := 4) (off := 79) (tgt := 80) hx hb d_ThumbCoreModel_about_1 g_1_4 (by decide) (by decide) (by decide +kernel) (by decide) ?_
    refine lv_aload_n hx hb d_ThumbCoreModel_about_80 rfl (lv_at hl 0 rfl) ?_
    refine va_get (D := D) (ci := 5) (v := .int (bI c_lockup)) (C := R_ThumbCoreModel) (T := F_ThumbCoreModel) (N := 23) hx hb hts u_ThumbCoreModel hown hK hP 0 rfl rfl 15 (by decide) (hts _ wf_ThumbCoreModel_59) (fun _ h9 => h9) rfl d_ThumbCoreModel_about_81 ?_
    refine lv_if_eq (tgt := 91) hx hb d_ThumbCoreModel_about_84 (by decide) (fun g_84 => ?_) (fun g_84 => ?_)
    · have hq := hq.trans (if_pos g_84)
      refine lv_iconst (v := 0) hx hb d_ThumbCoreModel_about_91 (by decide) ?_
      exact RET ls 92 d_ThumbCoreModel_about_92 hq
    · have hq := hq.trans (if_neg g_84)
      refine lv_iconst (v := 1) hx hb d_ThumbCoreModel_about_87 (by decide) ?_
      refine lv_goto (tgt := 92) hx hb d_ThumbCoreModel_about_88 (by decide) ?_
      exact RET ls 92 d_ThumbCoreModel_about_92 hq
  have hq := hq.trans (if_neg g_1_4)
  by_cases g_1_5 : x1 = 5
  · have hq := hq.trans (if_pos g_1_5)
    refine tc_tabIn (k := 5) (off := 92) (tgt := 93) hx hb d_ThumbCoreModel_about_1 g_1_5 (by decide) (by decide) (by decide +kernel) (by decide) ?_
    refine lv_aload_n hx hb d_ThumbCoreModel_about_93 rfl (lv_at hl 0 rfl) ?_
    refine va_get (D := D) (ci := 5) (v := .int c_counter) (C := R_ThumbCoreModel) (T := F_ThumbCoreModel) (N := 23) hx hb hts u_ThumbCoreModel hown hK hP 0 rfl rfl 17 (by decide) (hts _ wf_ThumbCoreModel_65) (fun _ h9 => h9) rfl d_ThumbCoreModel_about_94 ?_
    exact RET ls 97 d_ThumbCoreModel_about_97 hq
  have hq := hq.trans (if_neg g_1_5)
  by_cases g_1_6 : x1 = 6
  · have hq := hq.trans (if_pos g_1_6)
    refine tc_tabIn (k := 6) (off := 97) (tgt := 98) hx hb d_ThumbCoreModel_about_1 g_1_6 (by decide) (by decide) (by decide +kernel) (by decide) ?_
    refine lv_aload_n hx hb d_ThumbCoreModel_about_98 rfl (lv_at hl 0 rfl) ?_
    refine lv_iconst (v := 1) hx hb d_ThumbCoreModel_about_99 (by decide) ?_
    refine tc_rd (va_runV (As := [.int (bI true)]) (rest := []) ⟨hx, hb, hml, hown, hts⟩ (c_ThumbCoreModel_present l D cI cB cZ h h_memory h_reg h_kept h_pending h_active h_priorities s.heap.size q_size c_n c_z c_c c_v c_keptFlags c_bad c_h c_after c_entered c_mask c_asleep c_lockup c_counts c_counter c_reload c_current c_memory c_reg c_kept c_pending c_active c_priorities true) (cwV 1 hts (tc_gV wl_ThumbCoreModel_107 wm_ThumbCoreModel_present ws_ThumbCoreModel_present wi_ThumbCoreModel wc_ThumbCoreModel_present) rfl rfl rfl (by decide +kernel) ⟨Nat.le_of_ble_eq_true rfl, Nat.le_of_ble_eq_true rfl⟩) (tc_preV hK hN hP hD [0, 1, 2, 3, 4, 5, 6] rfl (by decide) (q0 := 0) rfl rfl) rfl rfl hl.1 rfl (lv_room (Nat.le_of_ble_eq_true rfl)) d_ThumbCoreModel_about_100 (by decide)) ?_
    refine lv_topi (fun v2 e_v2 => ?_)
    have hq := tc_nm hq e_v2
    exact RET ls 103 d_ThumbCoreModel_about_103 hq
  have hq := hq.trans (if_neg g_1_6)
  have DF : W p l e rm_ThumbCoreModel_about s m ([.ref h, .int x1] : List Value).toArray below meth c s.heap [] 0 0 Q (F0 m 104 ls []) := by
    refine lv_iconst (v := (-1)) hx hb d_ThumbCoreModel_about_104 (by decide) ?_
    exact RET ls 105 d_ThumbCoreModel_about_105 hq
  exact lv_tableOut (x := x1) hx hb d_ThumbCoreModel_about_1 (by have n0 := tc_ne (j := 0) g_1_0 (by decide); have n1 := tc_ne (j := 1) g_1_1 (by decide); have n2 := tc_ne (j := 2) g_1_2 (by decide); have n3 := tc_ne (j := 3) g_1_3 (by decide); have n4 := tc_ne (j := 4) g_1_4 (by decide); have n5 := tc_ne (j := 5) g_1_5 (by decide); have n6 := tc_ne (j := 6) g_1_6 (by decide); omega) (by decide) DF
abbrev rm_ThumbCoreModel_canWait : Room := { frames := 1, cells := 0, slots := 0, locals := 24 }
set_option maxHeartbeats 4000000 in
set_option maxRecDepth 100000 in
theorem c_ThumbCoreModel_canWait (l : Launch) (x1 : Int32) : Met l y_ThumbCoreModel_canWait (.code y_ThumbCoreModel_canWait b_ThumbCoreModel_canWait 1 (some .boolean) :: tcb) rm_ThumbCoreModel_canWait (va_Pc ([.int x1] : List Value) (fun _ => True)) (QcRead (bI (f_ThumbCoreModel_canWait x1))) 0 0 (fun _ => False) := by
  refine tc_st_z (by decide) (Nat.le_of_ble_eq_true rfl) ?_
  intro p e s m below meth c Q ls hx hb hml hts hown hl RET
  have hl : lv_has ls 1 [(0, .int x1)] := hl
  generalize hF : f_ThumbCoreModel_canWait x1 = FF at RET
  have hq : FF = f_ThumbCoreModel_canWait x1 := hF.symm
  refine lv_iload_n hx hb d_ThumbCoreModel_canWait_0 rfl (lv_at hl 0 rfl) ?_
  refine lv_iconst (v := 2) hx hb d_ThumbCoreModel_canWait_1 (by decide) ?_
  refine lv_icmp_eq (tgt := 17) hx hb d_ThumbCoreModel_canWait_2 (by decide) (fun g_2 => ?_) (fun g_2 => ?_)
  · have hq := hq.trans (if_pos g_2)
    refine lv_iconst (v := 1) hx hb d_ThumbCoreModel_canWait_17 (by decide) ?_
    refine lv_goto (tgt := 22) hx hb d_ThumbCoreModel_canWait_18 (by decide) ?_
    exact RET ls 22 d_ThumbCoreModel_canWait_22 hq
  · have hq := hq.trans (if_neg g_2)
    refine lv_iload_n hx hb d_ThumbCoreModel_canWait_5 rfl (lv_at hl 0 rfl) ?_
    refine lv_bipush (v := 14) hx hb d_ThumbCoreModel_canWait_6 (by decide) ?_
    refine lv_icmp_eq (tgt := 17) hx hb d_ThumbCoreModel_canWait_8 (by decide) (fun g_8 => ?_) (fun g_8 => ?_)
    · have hq := hq.trans (if_pos g_8)
      refine lv_iconst (v := 1) hx hb d_ThumbCoreModel_canWait_17 (by decide) ?_
      refine lv_goto (tgt := 22) hx hb d_ThumbCoreModel_canWait_18 (by decide) ?_
      exact RET ls 22 d_ThumbCoreModel_canWait_22 hq
    · have hq := hq.trans (if_neg g_8)
      refine lv_iload_n hx hb d_ThumbCoreModel_canWait_11 rfl (lv_at hl 0 rfl) ?_
      refine lv_bipush (v := 15) hx hb d_ThumbCoreModel_canWait_12 (by decide) ?_
      refine lv_icmp_ne (tgt := 21) hx hb d_ThumbCoreModel_canWait_14 (by decide) (fun g_14 => ?_) (fun g_14 => ?_)
      · have hq := hq.trans (if_pos g_14)
        refine lv_iconst (v := 0) hx hb d_ThumbCoreModel_canWait_21 (by decide) ?_
        exact RET ls 22 d_ThumbCoreModel_canWait_22 hq
      · have hq := hq.trans (if_neg (fun g => g g_14))
        refine lv_iconst (v := 1) hx hb d_ThumbCoreModel_canWait_17 (by decide) ?_
        refine lv_goto (tgt := 22) hx hb d_ThumbCoreModel_canWait_18 (by decide) ?_
        exact RET ls 22 d_ThumbCoreModel_canWait_22 hq
abbrev rm_ThumbCoreModel_pend : Room := { frames := 2, cells := 0, slots := 0, locals := 44 }
set_option maxHeartbeats 4000000 in
set_option maxRecDepth 100000 in
theorem c_ThumbCoreModel_pend (l : Launch) (D : va_G) (cI cB cZ : ClassId) (h h_memory h_reg h_kept h_pending h_active h_priorities sz : Nat) (q_size : Int32) (c_n : Bool) (c_z : Bool) (c_c : Bool) (c_v : Bool) (c_keptFlags : Int32) (c_bad : Bool) (c_h : Int32) (c_after : Int32) (c_entered : Bool) (c_mask : Bool) (c_asleep : Bool) (c_lockup : Bool) (c_counts : Bool) (c_counter : Int32) (c_reload : Int32) (c_current : Int32) (c_memory : Nat → Int32) (c_reg : Nat → Int32) (c_kept : Nat → Int32) (c_pending : Nat → Bool) (c_active : Nat → Bool) (c_priorities : Nat → Int32) (x1 : Int32) : Met l y_ThumbCoreModel_pend (.code y_ThumbCoreModel_pend b_ThumbCoreModel_pend 2 (some .boolean) :: tcb) rm_ThumbCoreModel_pend (tc_Pw D tcl (tys cI cB cZ) (wd_ThumbCoreModel cI cB cZ h h_memory h_reg h_kept h_pending h_active h_priorities q_size c_n c_z c_c c_v c_keptFlags c_bad c_h c_after c_entered c_mask c_asleep c_lockup c_counts c_counter c_reload c_current c_memory c_reg c_kept c_pending c_active c_priorities) sz ([.ref h, .int x1] : List Value) none) (tc_Qz D tcl (wd_ThumbCoreModel cI cB cZ h h_memory h_reg h_kept h_pending h_active h_priorities q_size c_n c_z c_c c_v c_keptFlags c_bad c_h c_after c_entered c_mask c_asleep c_lockup c_counts c_counter c_reload c_current c_memory c_reg c_kept c_pending c_active c_priorities) sz (fun u => (wd_ThumbCoreModel cI cB cZ h h_memory h_reg h_kept h_pending h_active h_priorities q_size c_n c_z c_c c_v c_keptFlags c_bad c_h c_after c_entered c_mask c_asleep c_lockup c_counts c_counter c_reload c_current c_memory c_reg c_kept u.2 c_active c_priorities)) (f_ThumbCoreModel_pend c_pending x1)) 0 0 (va_A (wd_ThumbCoreModel cI cB cZ h h_memory h_reg h_kept h_pending h_active h_priorities q_size c_n c_z c_c c_v c_keptFlags c_bad c_h c_after c_entered c_mask c_asleep c_lockup c_counts c_counter c_reload c_current c_memory c_reg c_kept c_pending c_active c_priorities) sz) := by
  refine tc_mu_z (by decide) (Nat.le_of_ble_eq_true rfl) ?_
  intro p e s m below meth c A Q ls hx hb hml hts hown hK hN hP hD hA hZ hl RET
  have hS : va_S A s.heap s.heap [] := va_S.rf
  have hl : lv_has ls 2 [(0, .ref h), (1, .int x1)] := hl
  generalize hF : f_ThumbCoreModel_pend c_pending x1 = FF at RET
  have hq : FF = f_ThumbCoreModel_pend c_pending x1 := hF.symm
  revert hP hD hS
  suffices G : ∀ (H : Heap) (locs : List Loc), va_P D tcl (wd_ThumbCoreModel cI cB cZ h h_memory h_reg h_kept h_pending h_active h_priorities q_size c_n c_z c_c c_v c_keptFlags c_bad c_h c_after c_entered c_mask c_asleep c_lockup c_counts c_counter c_reload c_current c_memory c_reg c_kept c_pending c_active c_priorities) H → va_D A (wd_ThumbCoreModel cI cB cZ h h_memory h_reg h_kept h_pending h_active h_priorities q_size c_n c_z c_c c_v c_keptFlags c_bad c_h c_after c_entered c_mask c_asleep c_lockup c_counts c_counter c_reload c_current c_memory c_reg c_kept c_pending c_active c_priorities) → va_S A s.heap H locs → W p l e rm_ThumbCoreModel_pend s m ([.ref h, .int x1] : List Value).toArray below meth c H locs 0 0 Q (F0 m 0 ls []) from fun hP hD hS => G _ _ hP hD hS
  intro H locs hP hD hS
  refine lv_iload_n hx hb d_ThumbCoreModel_pend_0 rfl (lv_at hl 1 rfl) ?_
  refine tc_rd (va_runS (As := [.int x1]) (rest := []) ⟨hx, hb, hml, hown, hts⟩ (c_ThumbCoreModel_canWait l x1) (va_cwS 1 hts (tc_gS wl_ThumbCoreModel_220 wt_ThumbCoreModel_canWait wi_ThumbCoreModel wc_ThumbCoreModel_canWait) rfl rfl rfl (by decide +kernel) ⟨Nat.le_of_ble_eq_true rfl, Nat.le_of_ble_eq_true rfl⟩) tc_preS rfl rfl hl.1 rfl (lv_room (Nat.le_of_ble_eq_true rfl)) d_ThumbCoreModel_pend_1 (by decide)) ?_
  refine tc_topb (fun v1 e_v1 => ?_)
  have hq := tc_nm hq e_v1
  refine lv_if_ne (tgt := 9) hx hb d_ThumbCoreModel_pend_4 (by decide) (fun g_4 => ?_) (fun g_4 => ?_)
  · have hq := hq.trans (if_pos g_4)
    refine lv_aload_n hx hb d_ThumbCoreModel_pend_9 rfl (lv_at hl 0 rfl) ?_
    refine va_get (D := D) (ci := 5) (v := .ref h_pending) (C := R_ThumbCoreModel) (T := F_ThumbCoreModel) (N := 23) hx hb hts u_ThumbCoreModel hown hK hP 0 rfl rfl 20 (by decide) (hts _ wf_ThumbCoreModel_20) (fun _ h9 => h9) rfl d_ThumbCoreModel_pend_10 ?_
    refine lv_iload_n hx hb d_ThumbCoreModel_pend_13 rfl (lv_at hl 1 rfl) ?_
    refine lv_iconst (v := 1) hx hb d_ThumbCoreModel_pend_14 (by decide) ?_
    refine va_zast (x := bI true) hx hb hK hP hD hS 4 2 rfl rfl (tc_cwIn (tc_bT e_v1 g_4)) d_ThumbCoreModel_pend_15 (fun H locs hP hD hS => ?_)
    rw [tc_upz] at hP hD
    have hP : va_P D tcl (wd_ThumbCoreModel cI cB cZ h h_memory h_reg h_kept h_pending h_active h_priorities q_size c_n c_z c_c c_v c_keptFlags c_bad c_h c_after c_entered c_mask c_asleep c_lockup c_counts c_counter c_reload c_current c_memory c_reg c_kept (va_up c_pending x1.toNatClampNeg true) c_active c_priorities) H := hP
    have hD : va_D A (wd_ThumbCoreModel cI cB cZ h h_memory h_reg h_kept h_pending h_active h_priorities q_size c_n c_z c_c c_v c_keptFlags c_bad c_h c_after c_entered c_mask c_asleep c_lockup c_counts c_counter c_reload c_current c_memory c_reg c_kept (va_up c_pending x1.toNatClampNeg true) c_active c_priorities) := hD
    refine lv_iconst (v := 1) hx hb d_ThumbCoreModel_pend_16 (by decide) ?_
    exact RET H locs ls 17 (true, (va_up c_pending x1.toNatClampNeg true)) d_ThumbCoreModel_pend_17 hP hD hS hq
  · have hq := hq.trans (if_neg (fun g => g g_4))
    refine lv_iconst (v := 0) hx hb d_ThumbCoreModel_pend_7 (by decide) ?_
    exact RET H locs ls 8 (false, c_pending) d_ThumbCoreModel_pend_8 hP hD hS hq

abbrev wd_ThumbCoreModel (cI cB cZ : ClassId) (h h_memory h_reg h_kept h_pending h_active h_priorities : Nat) (q_size : Int32) (c_n : Bool) (c_z : Bool) (c_c : Bool) (c_v : Bool) (c_keptFlags : Int32) (c_bad : Bool) (c_h : Int32) (c_after : Int32) (c_entered : Bool) (c_mask : Bool) (c_asleep : Bool) (c_lockup : Bool) (c_counts : Bool) (c_counter : Int32) (c_reload : Int32) (c_current : Int32) (c_memory : Nat → Int32) (c_reg : Nat → Int32) (c_kept : Nat → Int32) (c_pending : Nat → Bool) (c_active : Nat → Bool) (c_priorities : Nat → Int32) : va_W := [(h, .inr (5, [.int q_size, .ref h_memory, .ref h_reg, .int (bI c_n), .int (bI c_z), .int (bI c_c), .int (bI c_v), .ref h_kept, .int c_keptFlags, .int (bI c_bad), .int c_h, .int c_after, .int (bI c_entered), .int (bI c_mask), .int (bI c_asleep), .int (bI c_lockup), .int (bI c_counts), .int c_counter, .int c_reload, .int c_current, .ref h_pending, .ref h_active, .ref h_priorities])), (h_memory, .inl (cB, 2048, .inl c_memory)), (h_reg, .inl (cI, 16, .inl c_reg)), (h_kept, .inl (cI, 16, .inl c_kept)), (h_pending, .inl (cZ, 16, .inl (fun j => bI (c_pending j)))), (h_active, .inl (cZ, 16, .inl (fun j => bI (c_active j)))), (h_priorities, .inl (cI, 16, .inl c_priorities))]
abbrev rm_ThumbCoreModel_there : Room := { frames := 1, cells := 0, slots := 0, locals := 24 }
set_option maxHeartbeats 4000000 in
set_option maxRecDepth 100000 in
theorem c_ThumbCoreModel_there (l : Launch) (D : va_G) (cI cB cZ : ClassId) (h h_memory h_reg h_kept h_pending h_active h_priorities sz : Nat) (q_size : Int32) (c_n : Bool) (c_z : Bool) (c_c : Bool) (c_v : Bool) (c_keptFlags : Int32) (c_bad : Bool) (c_h : Int32) (c_after : Int32) (c_entered : Bool) (c_mask : Bool) (c_asleep : Bool) (c_lockup : Bool) (c_counts : Bool) (c_counter : Int32) (c_reload : Int32) (c_current : Int32) (c_memory : Nat → Int32) (c_reg : Nat → Int32) (c_kept : Nat → Int32) (c_pending : Nat → Bool) (c_active : Nat → Bool) (c_priorities : Nat → Int32) (x1 : Int32) (x2 : Int32) (hn0 : ¬ x2 = 0) : Met l y_ThumbCoreModel_there (.code y_ThumbCoreModel_there b_ThumbCoreModel_there 3 (some .boolean) :: tcb) rm_ThumbCoreModel_there (tc_Pw D tcl (tys cI cB cZ) (wd_ThumbCoreModel cI cB cZ h h_memory h_reg h_kept h_pending h_active h_priorities q_size c_n c_z c_c c_v c_keptFlags c_bad c_h c_after c_entered c_mask c_asleep c_lockup c_counts c_counter c_reload c_current c_memory c_reg c_kept c_pending c_active c_priorities) sz ([.ref h, .int x1, .int x2] : List Value) none) (QcRead (bI (f_ThumbCoreModel_there q_size x1 x2))) 0 0 (fun _ => False) := by
  refine tc_rd_z (by decide) (Nat.le_of_ble_eq_true rfl) ?_
  intro p e s m below meth c Q ls hx hb hml hts hown hK hN hP hD hl RET
  have hl : lv_has ls 3 [(0, .ref h), (1, .int x1), (2, .int x2)] := hl
  generalize hF : f_ThumbCoreModel_there q_size x1 x2 = FF at RET
  have hq : FF = f_ThumbCoreModel_there q_size x1 x2 := hF.symm
  refine lv_iload_n hx hb d_ThumbCoreModel_there_0 rfl (lv_at hl 1 rfl) ?_
  refine lv_if_lt (tgt := 24) hx hb d_ThumbCoreModel_there_1 (by decide) (fun g_1 => ?_) (fun g_1 => ?_)
  · have hq := hq.trans (if_pos g_1)
    refine lv_iconst (v := 0) hx hb d_ThumbCoreModel_there_24 (by decide) ?_
    exact RET ls 25 d_ThumbCoreModel_there_25 hq
  · have hq := hq.trans (if_neg g_1)
    refine lv_iload_n hx hb d_ThumbCoreModel_there_4 rfl (lv_at hl 1 rfl) ?_
    refine lv_iload_n hx hb d_ThumbCoreModel_there_5 rfl (lv_at hl 2 rfl) ?_
    refine lv_irem hx hb d_ThumbCoreModel_there_6 hn0 ?_
    refine lv_if_ne (tgt := 24) hx hb d_ThumbCoreModel_there_7 (by decide) (fun g_7 => ?_) (fun g_7 => ?_)
    · have hq := hq.trans (if_pos g_7)
      refine lv_iconst (v := 0) hx hb d_ThumbCoreModel_there_24 (by decide) ?_
      exact RET ls 25 d_ThumbCoreModel_there_25 hq
    · have hq := hq.trans (if_neg (fun g => g g_7))
      refine lv_iload_n hx hb d_ThumbCoreModel_there_10 rfl (lv_at hl 1 rfl) ?_
      refine lv_aload_n hx hb d_ThumbCoreModel_there_11 rfl (lv_at hl 0 rfl) ?_
      refine va_get (D := D) (ci := 5) (v := .int q_size) (C := R_ThumbCoreModel) (T := F_ThumbCoreModel) (N := 23) hx hb hts u_ThumbCoreModel hown hK hP 0 rfl rfl 0 (by decide) (hts _ wf_ThumbCoreModel_30) (fun _ h9 => h9) rfl d_ThumbCoreModel_there_12 ?_
      refine lv_iload_n hx hb d_ThumbCoreModel_there_15 rfl (lv_at hl 2 rfl) ?_
      refine lv_isub hx hb d_ThumbCoreModel_there_16 ?_
      refine lv_icmp_gt (tgt := 24) hx hb d_ThumbCoreModel_there_17 (by decide) (fun g_17 => ?_) (fun g_17 => ?_)
      · have hq := hq.trans (if_pos g_17)
        refine lv_iconst (v := 0) hx hb d_ThumbCoreModel_there_24 (by decide) ?_
        exact RET ls 25 d_ThumbCoreModel_there_25 hq
      · have hq := hq.trans (if_neg g_17)
        refine lv_iconst (v := 1) hx hb d_ThumbCoreModel_there_20 (by decide) ?_
        refine lv_goto (tgt := 25) hx hb d_ThumbCoreModel_there_21 (by decide) ?_
        exact RET ls 25 d_ThumbCoreModel_there_25 hq
abbrev rm_ThumbCoreModel_read : Room := { frames := 2, cells := 0, slots := 0, locals := 46 }
set_option maxHeartbeats 4000000 in
set_option maxRecDepth 100000 in
theorem c_ThumbCoreModel_read (l : Launch) (D : va_G) (cI cB cZ : ClassId) (h h_memory h_reg h_kept h_pending h_active h_priorities sz : Nat) (q_size : Int32) (c_n : Bool) (c_z : Bool) (c_c : Bool) (c_v : Bool) (c_keptFlags : Int32) (c_bad : Bool) (c_h : Int32) (c_after : Int32) (c_entered : Bool) (c_mask : Bool) (c_asleep : Bool) (c_lockup : Bool) (c_counts : Bool) (c_counter : Int32) (c_reload : Int32) (c_current : Int32) (c_memory : Nat → Int32) (c_reg : Nat → Int32) (c_kept : Nat → Int32) (c_pending : Nat → Bool) (c_active : Nat → Bool) (c_priorities : Nat → Int32) (x1 : Int32) (x2 : Int32) (hm : tc_memR q_size) (hn : x2 = 1 ∨ x2 = 2 ∨ x2 = 4) : Met l y_ThumbCoreModel_read (.code y_ThumbCoreModel_read b_ThumbCoreModel_read 5 (some .int) :: tcb) rm_ThumbCoreModel_read (tc_Pw D tcl (tys cI cB cZ) (wd_ThumbCoreModel cI cB cZ h h_memory h_reg h_kept h_pending h_active h_priorities q_size c_n c_z c_c c_v c_keptFlags c_bad c_h c_after c_entered c_mask c_asleep c_lockup c_counts c_counter c_reload c_current c_memory c_reg c_kept c_pending c_active c_priorities) sz ([.ref h, .int x1, .int x2] : List Value) none) (tc_Qi D tcl (wd_ThumbCoreModel cI cB cZ h h_memory h_reg h_kept h_pending h_active h_priorities q_size c_n c_z c_c c_v c_keptFlags c_bad c_h c_after c_entered c_mask c_asleep c_lockup c_counts c_counter c_reload c_current c_memory c_reg c_kept c_pending c_active c_priorities) sz (fun u => (wd_ThumbCoreModel cI cB cZ h h_memory h_reg h_kept h_pending h_active h_priorities q_size c_n c_z c_c c_v c_keptFlags u.2 c_h c_after c_entered c_mask c_asleep c_lockup c_counts c_counter c_reload c_current c_memory c_reg c_kept c_pending c_active c_priorities)) (f_ThumbCoreModel_read q_size c_memory c_bad x1 x2)) 0 0 (va_A (wd_ThumbCoreModel cI cB cZ h h_memory h_reg h_kept h_pending h_active h_priorities q_size c_n c_z c_c c_v c_keptFlags c_bad c_h c_after c_entered c_mask c_asleep c_lockup c_counts c_counter c_reload c_current c_memory c_reg c_kept c_pending c_active c_priorities) sz) := by
  refine tc_mu_i (by decide) (Nat.le_of_ble_eq_true rfl) ?_
  intro p e s m below meth c A Q ls hx hb hml hts hown hK hN hP hD hA hZ hl RET
  have hS : va_S A s.heap s.heap [] := va_S.rf
  have hl : lv_has ls 5 [(0, .ref h), (1, .int x1), (2, .int x2)] := hl
  generalize hF : f_ThumbCoreModel_read q_size c_memory c_bad x1 x2 = FF at RET
  have J_23 : ∀ n : Nat, ∀ (H : Heap) (locs : List Loc) (ls : Array Slot) (c_bad : Bool) (y1 : Int32) (y3 : Int32) (y4 : Int32), va_P D tcl (wd_ThumbCoreModel cI cB cZ h h_memory h_reg h_kept h_pending h_active h_priorities q_size c_n c_z c_c c_v c_keptFlags c_bad c_h c_after c_entered c_mask c_asleep c_lockup c_counts c_counter c_reload c_current c_memory c_reg c_kept c_pending c_active c_priorities) H → va_D A (wd_ThumbCoreModel cI cB cZ h h_memory h_reg h_kept h_pending h_active h_priorities q_size c_n c_z c_c c_v c_keptFlags c_bad c_h c_after c_entered c_mask c_asleep c_lockup c_counts c_counter c_reload c_current c_memory c_reg c_kept c_pending c_active c_priorities) → va_S A s.heap H locs → lv_has ls 5 [(0, .ref h), (1, .int y1), (3, .int y3), (4, .int y4)] → FF = k_ThumbCoreModel_read_23 q_size c_memory n c_bad y1 y3 y4 → (tc_ld y4 n) → (tc_top q_size y1 y4) → W p l e rm_ThumbCoreModel_read s m ([.ref h, .int x1, .int x2] : List Value).toArray below meth c H locs 0 0 Q (F0 m 23 ls []) := by
    intro n
    induction n with
    | zero =>
      intro H locs ls c_bad y1 y3 y4 hP hD hS hl hq hinv hr
      exact (tc_ld0 hinv).elim
    | succ n_23 IH_23 =>
      intro H locs ls c_bad y1 y3 y4 hP hD hS hl hq hinv hr
      refine lv_iload hx hb d_ThumbCoreModel_read_23 (lv_at hl 3 rfl) ?_
      refine lv_if_lt (tgt := 53) hx hb d_ThumbCoreModel_read_25 (by decide) (fun g_25 => ?_) (fun g_25 => ?_)
      · have hq := hq.trans (if_pos g_25)
        refine lv_iload_n hx hb d_ThumbCoreModel_read_53 rfl (lv_at hl 2 rfl) ?_
        exact RET H locs ls 54 (y3, c_bad) d_ThumbCoreModel_read_54 hP hD hS hq
      · have hq := hq.trans (if_neg g_25)
        have hgd := tc_glt g_25
        refine lv_iload_n hx hb d_ThumbCoreModel_read_28 rfl (lv_at hl 2 rfl) ?_
        refine lv_bipush (v := 8) hx hb d_ThumbCoreModel_read_29 (by decide) ?_
        refine lv_ishl hx hb d_ThumbCoreModel_read_31 ?_
        refine lv_aload_n hx hb d_ThumbCoreModel_read_32 rfl (lv_at hl 0 rfl) ?_
        refine va_get (D := D) (ci := 5) (v := .ref h_memory) (C := R_ThumbCoreModel) (T := F_ThumbCoreModel) (N := 23) hx hb hts u_ThumbCoreModel hown hK hP 0 rfl rfl 1 (by decide) (hts _ wf_ThumbCoreModel_7) (fun _ h9 => h9) rfl d_ThumbCoreModel_read_33 ?_
        refine lv_iload_n hx hb d_ThumbCoreModel_read_36 rfl (lv_at hl 1 rfl) ?_
        refine lv_iload hx hb d_ThumbCoreModel_read_37 (lv_at hl 3 rfl) ?_
        refine lv_iadd hx hb d_ThumbCoreModel_read_39 ?_
        refine va_bald hx hb hK hP 1 1 rfl rfl (tc_topI hm hr hgd) d_ThumbCoreModel_read_40 ?_
        refine lv_sipush (v := 255) hx hb d_ThumbCoreModel_read_41 (by decide) ?_
        refine lv_iand hx hb d_ThumbCoreModel_read_44 ?_
        refine lv_ior hx hb d_ThumbCoreModel_read_45 ?_
        refine lv_topi (fun v1 e_v1 => ?_)
        have hq := tc_nm hq e_v1
        refine lv_istore_n (lv' := [(3, .int v1), (0, .ref h), (1, .int y1), (4, .int y4)]) hx hb d_ThumbCoreModel_read_46 rfl hl (by decide) rfl (fun ls hl => ?_)
        refine lv_iinc (k := 3) (v := (y4 + (-1))) (lv' := [(4, .int (y4 + (-1))), (3, .int v1), (0, .ref h), (1, .int y1)]) hx hb d_ThumbCoreModel_read_47 hl rfl rfl (by decide) rfl (fun ls hl => ?_)
        refine lv_goto (tgt := 23) hx hb d_ThumbCoreModel_read_50 (by decide) ?_
        exact IH_23 H locs ls c_bad y1 v1 (y4 + (-1)) hP hD hS (lv_sub hl [2, 3, 1, 0] rfl) hq (tc_ldS hinv hgd) (tc_topS hr hgd)
  have hq : FF = f_ThumbCoreModel_read q_size c_memory c_bad x1 x2 := hF.symm
  revert hP hD hS
  suffices G : ∀ (H : Heap) (locs : List Loc), va_P D tcl (wd_ThumbCoreModel cI cB cZ h h_memory h_reg h_kept h_pending h_active h_priorities q_size c_n c_z c_c c_v c_keptFlags c_bad c_h c_after c_entered c_mask c_asleep c_lockup c_counts c_counter c_reload c_current c_memory c_reg c_kept c_pending c_active c_priorities) H → va_D A (wd_ThumbCoreModel cI cB cZ h h_memory h_reg h_kept h_pending h_active h_priorities q_size c_n c_z c_c c_v c_keptFlags c_bad c_h c_after c_entered c_mask c_asleep c_lockup c_counts c_counter c_reload c_current c_memory c_reg c_kept c_pending c_active c_priorities) → va_S A s.heap H locs → W p l e rm_ThumbCoreModel_read s m ([.ref h, .int x1, .int x2] : List Value).toArray below meth c H locs 0 0 Q (F0 m 0 ls []) from fun hP hD hS => G _ _ hP hD hS
  intro H locs hP hD hS
  refine lv_aload_n hx hb d_ThumbCoreModel_read_0 rfl (lv_at hl 0 rfl) ?_
  refine lv_iload_n hx hb d_ThumbCoreModel_read_1 rfl (lv_at hl 1 rfl) ?_
  refine lv_iload_n hx hb d_ThumbCoreModel_read_2 rfl (lv_at hl 2 rfl) ?_
  refine tc_rd (va_runV (As := [.int x1, .int x2]) (rest := []) ⟨hx, hb, hml, hown, hts⟩ (c_ThumbCoreModel_there l D cI cB cZ h h_memory h_reg h_kept h_pending h_active h_priorities H.size q_size c_n c_z c_c c_v c_keptFlags c_bad c_h c_after c_entered c_mask c_asleep c_lockup c_counts c_counter c_reload c_current c_memory c_reg c_kept c_pending c_active c_priorities x1 x2 (tc_n0 hn)) (cwV 2 hts (tc_gV wl_ThumbCoreModel_37 wm_ThumbCoreModel_there ws_ThumbCoreModel_there wi_ThumbCoreModel wc_ThumbCoreModel_there) rfl rfl rfl (by decide +kernel) ⟨Nat.le_of_ble_eq_true rfl, Nat.le_of_ble_eq_true rfl⟩) (tc_preV hK hN hP hD [0, 1, 2, 3, 4, 5, 6] rfl (by decide) (q0 := 0) rfl rfl) rfl rfl hl.1 rfl (lv_room (Nat.le_of_ble_eq_true rfl)) d_ThumbCoreModel_read_3 (by decide)) ?_
  refine tc_topb (fun v1 e_v1 => ?_)
  have hq := tc_nm hq e_v1
  refine lv_if_ne (tgt := 16) hx hb d_ThumbCoreModel_read_6 (by decide) (fun g_6 => ?_) (fun g_6 => ?_)
  · have hq := hq.trans (if_pos g_6)
    refine lv_iconst (v := 0) hx hb d_ThumbCoreModel_read_16 (by decide) ?_
    refine lv_istore_n (lv' := [(3, .int 0), (0, .ref h), (1, .int x1), (2, .int x2)]) hx hb d_ThumbCoreModel_read_17 rfl hl (by decide) rfl (fun ls hl => ?_)
    refine lv_iload_n hx hb d_ThumbCoreModel_read_18 rfl (lv_at hl 3 rfl) ?_
    refine lv_iconst (v := 1) hx hb d_ThumbCoreModel_read_19 (by decide) ?_
    refine lv_isub hx hb d_ThumbCoreModel_read_20 ?_
    refine lv_topi (fun v2 e_v2 => ?_)
    have hq := tc_nm hq e_v2
    refine lv_istore (lv' := [(4, .int v2), (3, .int 0), (0, .ref h), (1, .int x1), (2, .int x2)]) hx hb d_ThumbCoreModel_read_21 hl (by decide) rfl (fun ls hl => ?_)
    exact J_23 ((Int32.toInt v2 + 1).toNat.succ) H locs ls c_bad x1 0 v2 hP hD hS (lv_sub hl [2, 3, 1, 0] rfl) hq (tc_ldE _) (by rw [e_v2]; exact tc_topE hn (tc_thT hm hn (tc_bT e_v1 g_6)))
  · have hq := hq.trans (if_neg (fun g => g g_6))
    refine lv_aload_n hx hb d_ThumbCoreModel_read_9 rfl (lv_at hl 0 rfl) ?_
    refine lv_iconst (v := 1) hx hb d_ThumbCoreModel_read_10 (by decide) ?_
    refine va_put (D := D) (ci := 5) (v := .int (bI true)) (ty := .boolean) (C := R_ThumbCoreModel) (T := F_ThumbCoreModel) (N := 23) hx hb hts u_ThumbCoreModel t_ThumbCoreModel t_ThumbCoreModel_ok n_ThumbCoreModel hown hK hP hD hS 0 rfl rfl 9 (by decide) (hts _ wf_ThumbCoreModel_41) (fun _ h9 => h9) rfl (by decide +kernel) (tc_nb true) (tc_fb true) (Nat.le_of_ble_eq_true rfl) d_ThumbCoreModel_read_11 (fun H locs hP hD hS => ?_)
    have hP : va_P D tcl (wd_ThumbCoreModel cI cB cZ h h_memory h_reg h_kept h_pending h_active h_priorities q_size c_n c_z c_c c_v c_keptFlags true c_h c_after c_entered c_mask c_asleep c_lockup c_counts c_counter c_reload c_current c_memory c_reg c_kept c_pending c_active c_priorities) H := hP
    have hD : va_D A (wd_ThumbCoreModel cI cB cZ h h_memory h_reg h_kept h_pending h_active h_priorities q_size c_n c_z c_c c_v c_keptFlags true c_h c_after c_entered c_mask c_asleep c_lockup c_counts c_counter c_reload c_current c_memory c_reg c_kept c_pending c_active c_priorities) := hD
    refine lv_iconst (v := 0) hx hb d_ThumbCoreModel_read_14 (by decide) ?_
    exact RET H locs ls 15 (0, true) d_ThumbCoreModel_read_15 hP hD hS hq
abbrev rm_ThumbCoreModel_write : Room := { frames := 2, cells := 0, slots := 0, locals := 46 }
set_option maxHeartbeats 4000000 in
set_option maxRecDepth 100000 in
theorem c_ThumbCoreModel_write (l : Launch) (D : va_G) (cI cB cZ : ClassId) (h h_memory h_reg h_kept h_pending h_active h_priorities sz : Nat) (q_size : Int32) (c_n : Bool) (c_z : Bool) (c_c : Bool) (c_v : Bool) (c_keptFlags : Int32) (c_bad : Bool) (c_h : Int32) (c_after : Int32) (c_entered : Bool) (c_mask : Bool) (c_asleep : Bool) (c_lockup : Bool) (c_counts : Bool) (c_counter : Int32) (c_reload : Int32) (c_current : Int32) (c_memory : Nat → Int32) (c_reg : Nat → Int32) (c_kept : Nat → Int32) (c_pending : Nat → Bool) (c_active : Nat → Bool) (c_priorities : Nat → Int32) (x1 : Int32) (x2 : Int32) (x3 : Int32) (hm : tc_memR q_size) (hn : x3 = 1 ∨ x3 = 2 ∨ x3 = 4) : Met l y_ThumbCoreModel_write (.code y_ThumbCoreModel_write b_ThumbCoreModel_write 5 none :: tcb) rm_ThumbCoreModel_write (tc_Pw D tcl (tys cI cB cZ) (wd_ThumbCoreModel cI cB cZ h h_memory h_reg h_kept h_pending h_active h_priorities q_size c_n c_z c_c c_v c_keptFlags c_bad c_h c_after c_entered c_mask c_asleep c_lockup c_counts c_counter c_reload c_current c_memory c_reg c_kept c_pending c_active c_priorities) sz ([.ref h, .int x1, .int x2, .int x3] : List Value) none) (tc_Qv D tcl (wd_ThumbCoreModel cI cB cZ h h_memory h_reg h_kept h_pending h_active h_priorities q_size c_n c_z c_c c_v c_keptFlags c_bad c_h c_after c_entered c_mask c_asleep c_lockup c_counts c_counter c_reload c_current c_memory c_reg c_kept c_pending c_active c_priorities) sz (fun u => (wd_ThumbCoreModel cI cB cZ h h_memory h_reg h_kept h_pending h_active h_priorities q_size c_n c_z c_c c_v c_keptFlags u.1 c_h c_after c_entered c_mask c_asleep c_lockup c_counts c_counter c_reload c_current u.2 c_reg c_kept c_pending c_active c_priorities)) (f_ThumbCoreModel_write q_size c_bad c_memory x1 x2 x3)) 0 0 (va_A (wd_ThumbCoreModel cI cB cZ h h_memory h_reg h_kept h_pending h_active h_priorities q_size c_n c_z c_c c_v c_keptFlags c_bad c_h c_after c_entered c_mask c_asleep c_lockup c_counts c_counter c_reload c_current c_memory c_reg c_kept c_pending c_active c_priorities) sz) := by
  refine tc_mu_v (by decide) (Nat.le_of_ble_eq_true rfl) ?_
  intro p e s m below meth c A Q ls hx hb hml hts hown hK hN hP hD hA hZ hl RET
  have hS : va_S A s.heap s.heap [] := va_S.rf
  have hl : lv_has ls 5 [(0, .ref h), (1, .int x1), (2, .int x2), (3, .int x3)] := hl
  generalize hF : f_ThumbCoreModel_write q_size c_bad c_memory x1 x2 x3 = FF at RET
  have J_18 : ∀ n : Nat, ∀ (H : Heap) (locs : List Loc) (ls : Array Slot) (c_bad : Bool) (c_memory : Nat → Int32) (y1 : Int32) (y2 : Int32) (y3 : Int32) (y4 : Int32), va_P D tcl (wd_ThumbCoreModel cI cB cZ h h_memory h_reg h_kept h_pending h_active h_priorities q_size c_n c_z c_c c_v c_keptFlags c_bad c_h c_after c_entered c_mask c_asleep c_lockup c_counts c_counter c_reload c_current c_memory c_reg c_kept c_pending c_active c_priorities) H → va_D A (wd_ThumbCoreModel cI cB cZ h h_memory h_reg h_kept h_pending h_active h_priorities q_size c_n c_z c_c c_v c_keptFlags c_bad c_h c_after c_entered c_mask c_asleep c_lockup c_counts c_counter c_reload c_current c_memory c_reg c_kept c_pending c_active c_priorities) → va_S A s.heap H locs → lv_has ls 5 [(0, .ref h), (1, .int y1), (2, .int y2), (3, .int y3), (4, .int y4)] → FF = k_ThumbCoreModel_write_18 q_size n c_bad c_memory y1 y2 y3 y4 → (tc_lp y4 (Int32.toInt y3).toNat n) → (tc_fit q_size y1 (Int32.toInt y3).toNat) → W p l e rm_ThumbCoreModel_write s m ([.ref h, .int x1, .int x2, .int x3] : List Value).toArray below meth c H locs 0 0 Q (F0 m 18 ls []) := by
    intro n
    induction n with
    | zero =>
      intro H locs ls c_bad c_memory y1 y2 y3 y4 hP hD hS hl hq hinv hw
      exact (tc_lp0 hinv).elim
    | succ n_18 IH_18 =>
      intro H locs ls c_bad c_memory y1 y2 y3 y4 hP hD hS hl hq hinv hw
      refine lv_iload hx hb d_ThumbCoreModel_write_18 (lv_at hl 4 rfl) ?_
      refine lv_iload_n hx hb d_ThumbCoreModel_write_20 rfl (lv_at hl 3 rfl) ?_
      refine lv_icmp_ge (tgt := 47) hx hb d_ThumbCoreModel_write_21 (by decide) (fun g_21 => ?_) (fun g_21 => ?_)
      · have hq := hq.trans (if_pos g_21)
        exact RET H locs ls 47 (c_bad, c_memory) d_ThumbCoreModel_write_47 hP hD hS hq
      · have hq := hq.trans (if_neg g_21)
        have hgd := tc_ggl hinv g_21
        refine lv_aload_n hx hb d_ThumbCoreModel_write_24 rfl (lv_at hl 0 rfl) ?_
        refine va_get (D := D) (ci := 5) (v := .ref h_memory) (C := R_ThumbCoreModel) (T := F_ThumbCoreModel) (N := 23) hx hb hts u_ThumbCoreModel hown hK hP 0 rfl rfl 1 (by decide) (hts _ wf_ThumbCoreModel_7) (fun _ h9 => h9) rfl d_ThumbCoreModel_write_25 ?_
        refine lv_iload_n hx hb d_ThumbCoreModel_write_28 rfl (lv_at hl 1 rfl) ?_
        refine lv_iload hx hb d_ThumbCoreModel_write_29 (lv_at hl 4 rfl) ?_
        refine lv_iadd hx hb d_ThumbCoreModel_write_31 ?_
        refine lv_iload_n hx hb d_ThumbCoreModel_write_32 rfl (lv_at hl 2 rfl) ?_
        refine lv_bipush (v := 8) hx hb d_ThumbCoreModel_write_33 (by decide) ?_
        refine lv_iload hx hb d_ThumbCoreModel_write_35 (lv_at hl 4 rfl) ?_
        refine lv_imul hx hb d_ThumbCoreModel_write_37 ?_
        refine lv_ishr hx hb d_ThumbCoreModel_write_38 ?_
        refine lv_i2b (v := (o_ishr y2 (8 * y4)).toInt8.toInt32) hx hb d_ThumbCoreModel_write_39 rfl ?_
        refine va_bast hx hb hK hP hD hS 1 1 rfl rfl (tc_fitI hm hw hinv.1 hgd) d_ThumbCoreModel_write_40 (fun H locs hP hD hS => ?_)
        have hP : va_P D tcl (wd_ThumbCoreModel cI cB cZ h h_memory h_reg h_kept h_pending h_active h_priorities q_size c_n c_z c_c c_v c_keptFlags c_bad c_h c_after c_entered c_mask c_asleep c_lockup c_counts c_counter c_reload c_current (upd c_memory (y1 + y4).toNatClampNeg (((o_ishr y2 (8 * y4)).toInt8.toInt32).toInt8.toInt32)) c_reg c_kept c_pending c_active c_priorities) H := hP
        have hD : va_D A (wd_ThumbCoreModel cI cB cZ h h_memory h_reg h_kept h_pending h_active h_priorities q_size c_n c_z c_c c_v c_keptFlags c_bad c_h c_after c_entered c_mask c_asleep c_lockup c_counts c_counter c_reload c_current (upd c_memory (y1 + y4).toNatClampNeg (((o_ishr y2 (8 * y4)).toInt8.toInt32).toInt8.toInt32)) c_reg c_kept c_pending c_active c_priorities) := hD
        refine lv_iinc (k := 4) (v := (y4 + 1)) (lv' := [(4, .int (y4 + 1)), (0, .ref h), (1, .int y1), (2, .int y2), (3, .int y3)]) hx hb d_ThumbCoreModel_write_41 hl rfl rfl (by decide) rfl (fun ls hl => ?_)
        refine lv_goto (tgt := 18) hx hb d_ThumbCoreModel_write_44 (by decide) ?_
        exact IH_18 H locs ls c_bad (upd c_memory (y1 + y4).toNatClampNeg (((o_ishr y2 (8 * y4)).toInt8.toInt32).toInt8.toInt32)) y1 y2 y3 (y4 + 1) hP hD hS (lv_sub hl [1, 2, 3, 4, 0] rfl) hq (tc_lpS hinv hgd (tc_tn _)) (by assumption)
  have hq : FF = f_ThumbCoreModel_write q_size c_bad c_memory x1 x2 x3 := hF.symm
  revert hP hD hS
  suffices G : ∀ (H : Heap) (locs : List Loc), va_P D tcl (wd_ThumbCoreModel cI cB cZ h h_memory h_reg h_kept h_pending h_active h_priorities q_size c_n c_z c_c c_v c_keptFlags c_bad c_h c_after c_entered c_mask c_asleep c_lockup c_counts c_counter c_reload c_current c_memory c_reg c_kept c_pending c_active c_priorities) H → va_D A (wd_ThumbCoreModel cI cB cZ h h_memory h_reg h_kept h_pending h_active h_priorities q_size c_n c_z c_c c_v c_keptFlags c_bad c_h c_after c_entered c_mask c_asleep c_lockup c_counts c_counter c_reload c_current c_memory c_reg c_kept c_pending c_active c_priorities) → va_S A s.heap H locs → W p l e rm_ThumbCoreModel_write s m ([.ref h, .int x1, .int x2, .int x3] : List Value).toArray below meth c H locs 0 0 Q (F0 m 0 ls []) from fun hP hD hS => G _ _ hP hD hS
  intro H locs hP hD hS
  refine lv_aload_n hx hb d_ThumbCoreModel_write_0 rfl (lv_at hl 0 rfl) ?_
  refine lv_iload_n hx hb d_ThumbCoreModel_write_1 rfl (lv_at hl 1 rfl) ?_
  refine lv_iload_n hx hb d_ThumbCoreModel_write_2 rfl (lv_at hl 3 rfl) ?_
  refine tc_rd (va_runV (As := [.int x1, .int x3]) (rest := []) ⟨hx, hb, hml, hown, hts⟩ (c_ThumbCoreModel_there l D cI cB cZ h h_memory h_reg h_kept h_pending h_active h_priorities H.size q_size c_n c_z c_c c_v c_keptFlags c_bad c_h c_after c_entered c_mask c_asleep c_lockup c_counts c_counter c_reload c_current c_memory c_reg c_kept c_pending c_active c_priorities x1 x3 (tc_n0 hn)) (cwV 2 hts (tc_gV wl_ThumbCoreModel_37 wm_ThumbCoreModel_there ws_ThumbCoreModel_there wi_ThumbCoreModel wc_ThumbCoreModel_there) rfl rfl rfl (by decide +kernel) ⟨Nat.le_of_ble_eq_true rfl, Nat.le_of_ble_eq_true rfl⟩) (tc_preV hK hN hP hD [0, 1, 2, 3, 4, 5, 6] rfl (by decide) (q0 := 0) rfl rfl) rfl rfl hl.1 rfl (lv_room (Nat.le_of_ble_eq_true rfl)) d_ThumbCoreModel_write_3 (by decide)) ?_
  refine tc_topb (fun v1 e_v1 => ?_)
  have hq := tc_nm hq e_v1
  refine lv_if_ne (tgt := 15) hx hb d_ThumbCoreModel_write_6 (by decide) (fun g_6 => ?_) (fun g_6 => ?_)
  · have hq := hq.trans (if_pos g_6)
    refine lv_iconst (v := 0) hx hb d_ThumbCoreModel_write_15 (by decide) ?_
    refine lv_istore (lv' := [(4, .int 0), (0, .ref h), (1, .int x1), (2, .int x2), (3, .int x3)]) hx hb d_ThumbCoreModel_write_16 hl (by decide) rfl (fun ls hl => ?_)
    exact J_18 ((Int32.toInt x3).toNat.succ) H locs ls c_bad c_memory x1 x2 x3 0 hP hD hS (lv_sub hl [1, 2, 3, 4, 0] rfl) hq (tc_lpE _) (tc_thT hm hn (tc_bT e_v1 g_6))
  · have hq := hq.trans (if_neg (fun g => g g_6))
    refine lv_aload_n hx hb d_ThumbCoreModel_write_9 rfl (lv_at hl 0 rfl) ?_
    refine lv_iconst (v := 1) hx hb d_ThumbCoreModel_write_10 (by decide) ?_
    refine va_put (D := D) (ci := 5) (v := .int (bI true)) (ty := .boolean) (C := R_ThumbCoreModel) (T := F_ThumbCoreModel) (N := 23) hx hb hts u_ThumbCoreModel t_ThumbCoreModel t_ThumbCoreModel_ok n_ThumbCoreModel hown hK hP hD hS 0 rfl rfl 9 (by decide) (hts _ wf_ThumbCoreModel_41) (fun _ h9 => h9) rfl (by decide +kernel) (tc_nb true) (tc_fb true) (Nat.le_of_ble_eq_true rfl) d_ThumbCoreModel_write_11 (fun H locs hP hD hS => ?_)
    have hP : va_P D tcl (wd_ThumbCoreModel cI cB cZ h h_memory h_reg h_kept h_pending h_active h_priorities q_size c_n c_z c_c c_v c_keptFlags true c_h c_after c_entered c_mask c_asleep c_lockup c_counts c_counter c_reload c_current c_memory c_reg c_kept c_pending c_active c_priorities) H := hP
    have hD : va_D A (wd_ThumbCoreModel cI cB cZ h h_memory h_reg h_kept h_pending h_active h_priorities q_size c_n c_z c_c c_v c_keptFlags true c_h c_after c_entered c_mask c_asleep c_lockup c_counts c_counter c_reload c_current c_memory c_reg c_kept c_pending c_active c_priorities) := hD
    exact RET H locs ls 14 (true, c_memory) d_ThumbCoreModel_write_14 hP hD hS hq
abbrev rm_ThumbCoreModel_poke : Room := { frames := 1, cells := 0, slots := 0, locals := 24 }
set_option maxHeartbeats 4000000 in
set_option maxRecDepth 100000 in
theorem c_ThumbCoreModel_poke (l : Launch) (D : va_G) (cI cB cZ : ClassId) (h h_memory h_reg h_kept h_pending h_active h_priorities sz : Nat) (q_size : Int32) (c_n : Bool) (c_z : Bool) (c_c : Bool) (c_v : Bool) (c_keptFlags : Int32) (c_bad : Bool) (c_h : Int32) (c_after : Int32) (c_entered : Bool) (c_mask : Bool) (c_asleep : Bool) (c_lockup : Bool) (c_counts : Bool) (c_counter : Int32) (c_reload : Int32) (c_current : Int32) (c_memory : Nat → Int32) (c_reg : Nat → Int32) (c_kept : Nat → Int32) (c_pending : Nat → Bool) (c_active : Nat → Bool) (c_priorities : Nat → Int32) (x1 : Int32) (x2 : Int32) (x3 : Int32) (hm : tc_memR q_size) : Met l y_ThumbCoreModel_poke (.code y_ThumbCoreModel_poke b_ThumbCoreModel_poke 5 (some .boolean) :: tcb) rm_ThumbCoreModel_poke (tc_Pw D tcl (tys cI cB cZ) (wd_ThumbCoreModel cI cB cZ h h_memory h_reg h_kept h_pending h_active h_priorities q_size c_n c_z c_c c_v c_keptFlags c_bad c_h c_after c_entered c_mask c_asleep c_lockup c_counts c_counter c_reload c_current c_memory c_reg c_kept c_pending c_active c_priorities) sz ([.ref h, .int x1, .int x2, .int x3] : List Value) none) (tc_Qz D tcl (wd_ThumbCoreModel cI cB cZ h h_memory h_reg h_kept h_pending h_active h_priorities q_size c_n c_z c_c c_v c_keptFlags c_bad c_h c_after c_entered c_mask c_asleep c_lockup c_counts c_counter c_reload c_current c_memory c_reg c_kept c_pending c_active c_priorities) sz (fun u => (wd_ThumbCoreModel cI cB cZ h h_memory h_reg h_kept h_pending h_active h_priorities q_size c_n c_z c_c c_v c_keptFlags c_bad c_h c_after c_entered c_mask c_asleep c_lockup c_counts c_counter c_reload c_current u.2 c_reg c_kept c_pending c_active c_priorities)) (f_ThumbCoreModel_poke q_size c_memory x1 x2 x3)) 0 0 (va_A (wd_ThumbCoreModel cI cB cZ h h_memory h_reg h_kept h_pending h_active h_priorities q_size c_n c_z c_c c_v c_keptFlags c_bad c_h c_after c_entered c_mask c_asleep c_lockup c_counts c_counter c_reload c_current c_memory c_reg c_kept c_pending c_active c_priorities) sz) := by
  refine tc_mu_z (by decide) (Nat.le_of_ble_eq_true rfl) ?_
  intro p e s m below meth c A Q ls hx hb hml hts hown hK hN hP hD hA hZ hl RET
  have hS : va_S A s.heap s.heap [] := va_S.rf
  have hl : lv_has ls 5 [(0, .ref h), (1, .int x1), (2, .int x2), (3, .int x3)] := hl
  generalize hF : f_ThumbCoreModel_poke q_size c_memory x1 x2 x3 = FF at RET
  have J_34 : ∀ n : Nat, ∀ (H : Heap) (locs : List Loc) (ls : Array Slot) (c_memory : Nat → Int32) (y1 : Int32) (y2 : Int32) (y3 : Int32) (y4 : Int32), va_P D tcl (wd_ThumbCoreModel cI cB cZ h h_memory h_reg h_kept h_pending h_active h_priorities q_size c_n c_z c_c c_v c_keptFlags c_bad c_h c_after c_entered c_mask c_asleep c_lockup c_counts c_counter c_reload c_current c_memory c_reg c_kept c_pending c_active c_priorities) H → va_D A (wd_ThumbCoreModel cI cB cZ h h_memory h_reg h_kept h_pending h_active h_priorities q_size c_n c_z c_c c_v c_keptFlags c_bad c_h c_after c_entered c_mask c_asleep c_lockup c_counts c_counter c_reload c_current c_memory c_reg c_kept c_pending c_active c_priorities) → va_S A s.heap H locs → lv_has ls 5 [(0, .ref h), (1, .int y1), (2, .int y2), (3, .int y3), (4, .int y4)] → FF = k_ThumbCoreModel_poke_34 q_size n c_memory y1 y2 y3 y4 → (tc_lp y4 (Int32.toInt y3).toNat n) → (tc_fit q_size y1 (Int32.toInt y3).toNat) → W p l e rm_ThumbCoreModel_poke s m ([.ref h, .int x1, .int x2, .int x3] : List Value).toArray below meth c H locs 0 0 Q (F0 m 34 ls []) := by
    intro n
    induction n with
    | zero =>
      intro H locs ls c_memory y1 y2 y3 y4 hP hD hS hl hq hinv hw
      exact (tc_lp0 hinv).elim
    | succ n_34 IH_34 =>
      intro H locs ls c_memory y1 y2 y3 y4 hP hD hS hl hq hinv hw
      refine lv_iload hx hb d_ThumbCoreModel_poke_34 (lv_at hl 4 rfl) ?_
      refine lv_iload_n hx hb d_ThumbCoreModel_poke_36 rfl (lv_at hl 3 rfl) ?_
      refine lv_icmp_ge (tgt := 63) hx hb d_ThumbCoreModel_poke_37 (by decide) (fun g_37 => ?_) (fun g_37 => ?_)
      · have hq := hq.trans (if_pos g_37)
        refine lv_iconst (v := 1) hx hb d_ThumbCoreModel_poke_63 (by decide) ?_
        exact RET H locs ls 64 (true, c_memory) d_ThumbCoreModel_poke_64 hP hD hS hq
      · have hq := hq.trans (if_neg g_37)
        have hgd := tc_ggl hinv g_37
        refine lv_aload_n hx hb d_ThumbCoreModel_poke_40 rfl (lv_at hl 0 rfl) ?_
        refine va_get (D := D) (ci := 5) (v := .ref h_memory) (C := R_ThumbCoreModel) (T := F_ThumbCoreModel) (N := 23) hx hb hts u_ThumbCoreModel hown hK hP 0 rfl rfl 1 (by decide) (hts _ wf_ThumbCoreModel_7) (fun _ h9 => h9) rfl d_ThumbCoreModel_poke_41 ?_
        refine lv_iload_n hx hb d_ThumbCoreModel_poke_44 rfl (lv_at hl 1 rfl) ?_
        refine lv_iload hx hb d_ThumbCoreModel_poke_45 (lv_at hl 4 rfl) ?_
        refine lv_iadd hx hb d_ThumbCoreModel_poke_47 ?_
        refine lv_iload_n hx hb d_ThumbCoreModel_poke_48 rfl (lv_at hl 2 rfl) ?_
        refine lv_bipush (v := 8) hx hb d_ThumbCoreModel_poke_49 (by decide) ?_
        refine lv_iload hx hb d_ThumbCoreModel_poke_51 (lv_at hl 4 rfl) ?_
        refine lv_imul hx hb d_ThumbCoreModel_poke_53 ?_
        refine lv_ishr hx hb d_ThumbCoreModel_poke_54 ?_
        refine lv_i2b (v := (o_ishr y2 (8 * y4)).toInt8.toInt32) hx hb d_ThumbCoreModel_poke_55 rfl ?_
        refine va_bast hx hb hK hP hD hS 1 1 rfl rfl (tc_fitI hm hw hinv.1 hgd) d_ThumbCoreModel_poke_56 (fun H locs hP hD hS => ?_)
        have hP : va_P D tcl (wd_ThumbCoreModel cI cB cZ h h_memory h_reg h_kept h_pending h_active h_priorities q_size c_n c_z c_c c_v c_keptFlags c_bad c_h c_after c_entered c_mask c_asleep c_lockup c_counts c_counter c_reload c_current (upd c_memory (y1 + y4).toNatClampNeg (((o_ishr y2 (8 * y4)).toInt8.toInt32).toInt8.toInt32)) c_reg c_kept c_pending c_active c_priorities) H := hP
        have hD : va_D A (wd_ThumbCoreModel cI cB cZ h h_memory h_reg h_kept h_pending h_active h_priorities q_size c_n c_z c_c c_v c_keptFlags c_bad c_h c_after c_entered c_mask c_asleep c_lockup c_counts c_counter c_reload c_current (upd c_memory (y1 + y4).toNatClampNeg (((o_ishr y2 (8 * y4)).toInt8.toInt32).toInt8.toInt32)) c_reg c_kept c_pending c_active c_priorities) := hD
        refine lv_iinc (k := 4) (v := (y4 + 1)) (lv' := [(4, .int (y4 + 1)), (0, .ref h), (1, .int y1), (2, .int y2), (3, .int y3)]) hx hb d_ThumbCoreModel_poke_57 hl rfl rfl (by decide) rfl (fun ls hl => ?_)
        refine lv_goto (tgt := 34) hx hb d_ThumbCoreModel_poke_60 (by decide) ?_
        exact IH_34 H locs ls (upd c_memory (y1 + y4).toNatClampNeg (((o_ishr y2 (8 * y4)).toInt8.toInt32).toInt8.toInt32)) y1 y2 y3 (y4 + 1) hP hD hS (lv_sub hl [1, 2, 3, 4, 0] rfl) hq (tc_lpS hinv hgd (tc_tn _)) (by assumption)
  have J_15 : ∀ (H : Heap) (locs : List Loc) (ls : Array Slot) (c_memory : Nat → Int32) (y1 : Int32) (y2 : Int32) (y3 : Int32), va_P D tcl (wd_ThumbCoreModel cI cB cZ h h_memory h_reg h_kept h_pending h_active h_priorities q_size c_n c_z c_c c_v c_keptFlags c_bad c_h c_after c_entered c_mask c_asleep c_lockup c_counts c_counter c_reload c_current c_memory c_reg c_kept c_pending c_active c_priorities) H → va_D A (wd_ThumbCoreModel cI cB cZ h h_memory h_reg h_kept h_pending h_active h_priorities q_size c_n c_z c_c c_v c_keptFlags c_bad c_h c_after c_entered c_mask c_asleep c_lockup c_counts c_counter c_reload c_current c_memory c_reg c_kept c_pending c_active c_priorities) → va_S A s.heap H locs → lv_has ls 5 [(0, .ref h), (1, .int y1), (2, .int y2), (3, .int y3)] → FF = k_ThumbCoreModel_poke_15 q_size c_memory y1 y2 y3 → (y3 = 1 ∨ y3 = 2 ∨ y3 = 4) → W p l e rm_ThumbCoreModel_poke s m ([.ref h, .int x1, .int x2, .int x3] : List Value).toArray below meth c H locs 0 0 Q (F0 m 15 ls []) := by
    intro H locs ls c_memory y1 y2 y3 hP hD hS hl hq hn
    refine lv_iload_n hx hb d_ThumbCoreModel_poke_15 rfl (lv_at hl 1 rfl) ?_
    refine lv_if_lt (tgt := 29) hx hb d_ThumbCoreModel_poke_16 (by decide) (fun g_16 => ?_) (fun g_16 => ?_)
    · have hq := hq.trans (if_pos g_16)
      refine lv_iconst (v := 0) hx hb d_ThumbCoreModel_poke_29 (by decide) ?_
      exact RET H locs ls 30 (false, c_memory) d_ThumbCoreModel_poke_30 hP hD hS hq
    · have hq := hq.trans (if_neg g_16)
      refine lv_iload_n hx hb d_ThumbCoreModel_poke_19 rfl (lv_at hl 1 rfl) ?_
      refine lv_aload_n hx hb d_ThumbCoreModel_poke_20 rfl (lv_at hl 0 rfl) ?_
      refine va_get (D := D) (ci := 5) (v := .int q_size) (C := R_ThumbCoreModel) (T := F_ThumbCoreModel) (N := 23) hx hb hts u_ThumbCoreModel hown hK hP 0 rfl rfl 0 (by decide) (hts _ wf_ThumbCoreModel_30) (fun _ h9 => h9) rfl d_ThumbCoreModel_poke_21 ?_
      refine lv_iload_n hx hb d_ThumbCoreModel_poke_24 rfl (lv_at hl 3 rfl) ?_
      refine lv_isub hx hb d_ThumbCoreModel_poke_25 ?_
      refine lv_icmp_le (tgt := 31) hx hb d_ThumbCoreModel_poke_26 (by decide) (fun g_26 => ?_) (fun g_26 => ?_)
      · have hq := hq.trans (if_pos g_26)
        refine lv_iconst (v := 0) hx hb d_ThumbCoreModel_poke_31 (by decide) ?_
        refine lv_istore (lv' := [(4, .int 0), (0, .ref h), (1, .int y1), (2, .int y2), (3, .int y3)]) hx hb d_ThumbCoreModel_poke_32 hl (by decide) rfl (fun ls hl => ?_)
        exact J_34 ((Int32.toInt y3).toNat.succ) H locs ls c_memory y1 y2 y3 0 hP hD hS (lv_sub hl [1, 2, 3, 4, 0] rfl) hq (tc_lpE _) (tc_pkF hm hn g_16 g_26)
      · have hq := hq.trans (if_neg g_26)
        refine lv_iconst (v := 0) hx hb d_ThumbCoreModel_poke_29 (by decide) ?_
        exact RET H locs ls 30 (false, c_memory) d_ThumbCoreModel_poke_30 hP hD hS hq
  have hq : FF = f_ThumbCoreModel_poke q_size c_memory x1 x2 x3 := hF.symm
  revert hP hD hS
  suffices G : ∀ (H : Heap) (locs : List Loc), va_P D tcl (wd_ThumbCoreModel cI cB cZ h h_memory h_reg h_kept h_pending h_active h_priorities q_size c_n c_z c_c c_v c_keptFlags c_bad c_h c_after c_entered c_mask c_asleep c_lockup c_counts c_counter c_reload c_current c_memory c_reg c_kept c_pending c_active c_priorities) H → va_D A (wd_ThumbCoreModel cI cB cZ h h_memory h_reg h_kept h_pending h_active h_priorities q_size c_n c_z c_c c_v c_keptFlags c_bad c_h c_after c_entered c_mask c_asleep c_lockup c_counts c_counter c_reload c_current c_memory c_reg c_kept c_pending c_active c_priorities) → va_S A s.heap H locs → W p l e rm_ThumbCoreModel_poke s m ([.ref h, .int x1, .int x2, .int x3] : List Value).toArray below meth c H locs 0 0 Q (F0 m 0 ls []) from fun hP hD hS => G _ _ hP hD hS
  intro H locs hP hD hS
  refine lv_iload_n hx hb d_ThumbCoreModel_poke_0 rfl (lv_at hl 3 rfl) ?_
  refine lv_iconst (v := 1) hx hb d_ThumbCoreModel_poke_1 (by decide) ?_
  refine lv_icmp_eq (tgt := 15) hx hb d_ThumbCoreModel_poke_2 (by decide) (fun g_2 => ?_) (fun g_2 => ?_)
  · have hq := hq.trans (if_pos g_2)
    exact J_15 H locs ls c_memory x1 x2 x3 hP hD hS (lv_sub hl [0, 1, 2, 3] rfl) hq (Or.inl g_2)
  · have hq := hq.trans (if_neg g_2)
    refine lv_iload_n hx hb d_ThumbCoreModel_poke_5 rfl (lv_at hl 3 rfl) ?_
    refine lv_iconst (v := 2) hx hb d_ThumbCoreModel_poke_6 (by decide) ?_
    refine lv_icmp_eq (tgt := 15) hx hb d_ThumbCoreModel_poke_7 (by decide) (fun g_7 => ?_) (fun g_7 => ?_)
    · have hq := hq.trans (if_pos g_7)
      exact J_15 H locs ls c_memory x1 x2 x3 hP hD hS (lv_sub hl [0, 1, 2, 3] rfl) hq (Or.inr (Or.inl g_7))
    · have hq := hq.trans (if_neg g_7)
      refine lv_iload_n hx hb d_ThumbCoreModel_poke_10 rfl (lv_at hl 3 rfl) ?_
      refine lv_iconst (v := 4) hx hb d_ThumbCoreModel_poke_11 (by decide) ?_
      refine lv_icmp_ne (tgt := 29) hx hb d_ThumbCoreModel_poke_12 (by decide) (fun g_12 => ?_) (fun g_12 => ?_)
      · have hq := hq.trans (if_pos g_12)
        refine lv_iconst (v := 0) hx hb d_ThumbCoreModel_poke_29 (by decide) ?_
        exact RET H locs ls 30 (false, c_memory) d_ThumbCoreModel_poke_30 hP hD hS hq
      · have hq := hq.trans (if_neg (fun g => g g_12))
        exact J_15 H locs ls c_memory x1 x2 x3 hP hD hS (lv_sub hl [0, 1, 2, 3] rfl) hq (Or.inr (Or.inr g_12))
abbrev rm_ThumbCoreModel_peek : Room := { frames := 1, cells := 0, slots := 0, locals := 24 }
set_option maxHeartbeats 4000000 in
set_option maxRecDepth 100000 in
theorem c_ThumbCoreModel_peek (l : Launch) (D : va_G) (cI cB cZ : ClassId) (h h_memory h_reg h_kept h_pending h_active h_priorities sz : Nat) (q_size : Int32) (c_n : Bool) (c_z : Bool) (c_c : Bool) (c_v : Bool) (c_keptFlags : Int32) (c_bad : Bool) (c_h : Int32) (c_after : Int32) (c_entered : Bool) (c_mask : Bool) (c_asleep : Bool) (c_lockup : Bool) (c_counts : Bool) (c_counter : Int32) (c_reload : Int32) (c_current : Int32) (c_memory : Nat → Int32) (c_reg : Nat → Int32) (c_kept : Nat → Int32) (c_pending : Nat → Bool) (c_active : Nat → Bool) (c_priorities : Nat → Int32) (x1 : Int32) (hm : tc_memR q_size) : Met l y_ThumbCoreModel_peek (.code y_ThumbCoreModel_peek b_ThumbCoreModel_peek 2 (some .int) :: tcb) rm_ThumbCoreModel_peek (tc_Pw D tcl (tys cI cB cZ) (wd_ThumbCoreModel cI cB cZ h h_memory h_reg h_kept h_pending h_active h_priorities q_size c_n c_z c_c c_v c_keptFlags c_bad c_h c_after c_entered c_mask c_asleep c_lockup c_counts c_counter c_reload c_current c_memory c_reg c_kept c_pending c_active c_priorities) sz ([.ref h, .int x1] : List Value) none) (QcRead (f_ThumbCoreModel_peek q_size c_memory x1)) 0 0 (fun _ => False) := by
  refine tc_rd_i (by decide) (Nat.le_of_ble_eq_true rfl) ?_
  intro p e s m below meth c Q ls hx hb hml hts hown hK hN hP hD hl RET
  have hl : lv_has ls 2 [(0, .ref h), (1, .int x1)] := hl
  generalize hF : f_ThumbCoreModel_peek q_size c_memory x1 = FF at RET
  have hq : FF = f_ThumbCoreModel_peek q_size c_memory x1 := hF.symm
  refine lv_iload_n hx hb d_ThumbCoreModel_peek_0 rfl (lv_at hl 1 rfl) ?_
  refine lv_if_lt (tgt := 25) hx hb d_ThumbCoreModel_peek_1 (by decide) (fun g_1 => ?_) (fun g_1 => ?_)
  · have hq := hq.trans (if_pos g_1)
    refine lv_iconst (v := (-1)) hx hb d_ThumbCoreModel_peek_25 (by decide) ?_
    exact RET ls 26 d_ThumbCoreModel_peek_26 hq
  · have hq := hq.trans (if_neg g_1)
    refine lv_iload_n hx hb d_ThumbCoreModel_peek_4 rfl (lv_at hl 1 rfl) ?_
    refine lv_aload_n hx hb d_ThumbCoreModel_peek_5 rfl (lv_at hl 0 rfl) ?_
    refine va_get (D := D) (ci := 5) (v := .int q_size) (C := R_ThumbCoreModel) (T := F_ThumbCoreModel) (N := 23) hx hb hts u_ThumbCoreModel hown hK hP 0 rfl rfl 0 (by decide) (hts _ wf_ThumbCoreModel_30) (fun _ h9 => h9) rfl d_ThumbCoreModel_peek_6 ?_
    refine lv_icmp_ge (tgt := 25) hx hb d_ThumbCoreModel_peek_9 (by decide) (fun g_9 => ?_) (fun g_9 => ?_)
    · have hq := hq.trans (if_pos g_9)
      refine lv_iconst (v := (-1)) hx hb d_ThumbCoreModel_peek_25 (by decide) ?_
      exact RET ls 26 d_ThumbCoreModel_peek_26 hq
    · have hq := hq.trans (if_neg g_9)
      refine lv_aload_n hx hb d_ThumbCoreModel_peek_12 rfl (lv_at hl 0 rfl) ?_
      refine va_get (D := D) (ci := 5) (v := .ref h_memory) (C := R_ThumbCoreModel) (T := F_ThumbCoreModel) (N := 23) hx hb hts u_ThumbCoreModel hown hK hP 0 rfl rfl 1 (by decide) (hts _ wf_ThumbCoreModel_7) (fun _ h9 => h9) rfl d_ThumbCoreModel_peek_13 ?_
      refine lv_iload_n hx hb d_ThumbCoreModel_peek_16 rfl (lv_at hl 1 rfl) ?_
      refine va_bald hx hb hK hP 1 1 rfl rfl (tc_pkI hm g_1 g_9) d_ThumbCoreModel_peek_17 ?_
      refine lv_sipush (v := 255) hx hb d_ThumbCoreModel_peek_18 (by decide) ?_
      refine lv_iand hx hb d_ThumbCoreModel_peek_21 ?_
      refine lv_goto (tgt := 26) hx hb d_ThumbCoreModel_peek_22 (by decide) ?_
      exact RET ls 26 d_ThumbCoreModel_peek_26 hq
abbrev rm_ThumbCoreModel_flags : Room := { frames := 1, cells := 0, slots := 0, locals := 24 }
set_option maxHeartbeats 4000000 in
set_option maxRecDepth 100000 in
theorem c_ThumbCoreModel_flags (l : Launch) (D : va_G) (cI cB cZ : ClassId) (h h_memory h_reg h_kept h_pending h_active h_priorities sz : Nat) (q_size : Int32) (c_n : Bool) (c_z : Bool) (c_c : Bool) (c_v : Bool) (c_keptFlags : Int32) (c_bad : Bool) (c_h : Int32) (c_after : Int32) (c_entered : Bool) (c_mask : Bool) (c_asleep : Bool) (c_lockup : Bool) (c_counts : Bool) (c_counter : Int32) (c_reload : Int32) (c_current : Int32) (c_memory : Nat → Int32) (c_reg : Nat → Int32) (c_kept : Nat → Int32) (c_pending : Nat → Bool) (c_active : Nat → Bool) (c_priorities : Nat → Int32) (x1 : Int32) : Met l y_ThumbCoreModel_flags (.code y_ThumbCoreModel_flags b_ThumbCoreModel_flags 2 none :: tcb) rm_ThumbCoreModel_flags (tc_Pw D tcl (tys cI cB cZ) (wd_ThumbCoreModel cI cB cZ h h_memory h_reg h_kept h_pending h_active h_priorities q_size c_n c_z c_c c_v c_keptFlags c_bad c_h c_after c_entered c_mask c_asleep c_lockup c_counts c_counter c_reload c_current c_memory c_reg c_kept c_pending c_active c_priorities) sz ([.ref h, .int x1] : List Value) none) (tc_Qv D tcl (wd_ThumbCoreModel cI cB cZ h h_memory h_reg h_kept h_pending h_active h_priorities q_size c_n c_z c_c c_v c_keptFlags c_bad c_h c_after c_entered c_mask c_asleep c_lockup c_counts c_counter c_reload c_current c_memory c_reg c_kept c_pending c_active c_priorities) sz (fun u => (wd_ThumbCoreModel cI cB cZ h h_memory h_reg h_kept h_pending h_active h_priorities q_size u.1 u.2.1 u.2.2.1 u.2.2.2 c_keptFlags c_bad c_h c_after c_entered c_mask c_asleep c_lockup c_counts c_counter c_reload c_current c_memory c_reg c_kept c_pending c_active c_priorities)) (f_ThumbCoreModel_flags c_n c_z c_c c_v x1)) 0 0 (va_A (wd_ThumbCoreModel cI cB cZ h h_memory h_reg h_kept h_pending h_active h_priorities q_size c_n c_z c_c c_v c_keptFlags c_bad c_h c_after c_entered c_mask c_asleep c_lockup c_counts c_counter c_reload c_current c_memory c_reg c_kept c_pending c_active c_priorities) sz) := by
  refine tc_mu_v (by decide) (Nat.le_of_ble_eq_true rfl) ?_
  intro p e s m below meth c A Q ls hx hb hml hts hown hK hN hP hD hA hZ hl RET
  have hS : va_S A s.heap s.heap [] := va_S.rf
  have hl : lv_has ls 2 [(0, .ref h), (1, .int x1)] := hl
  generalize hF : f_ThumbCoreModel_flags c_n c_z c_c c_v x1 = FF at RET
  have J_58 : ∀ (H : Heap) (locs : List Loc) (ls : Array Slot) (c_n : Bool) (c_z : Bool) (c_c : Bool) (c_v : Bool) (z1 : Bool), va_P D tcl (wd_ThumbCoreModel cI cB cZ h h_memory h_reg h_kept h_pending h_active h_priorities q_size c_n c_z c_c c_v c_keptFlags c_bad c_h c_after c_entered c_mask c_asleep c_lockup c_counts c_counter c_reload c_current c_memory c_reg c_kept c_pending c_active c_priorities) H → va_D A (wd_ThumbCoreModel cI cB cZ h h_memory h_reg h_kept h_pending h_active h_priorities q_size c_n c_z c_c c_v c_keptFlags c_bad c_h c_after c_entered c_mask c_asleep c_lockup c_counts c_counter c_reload c_current c_memory c_reg c_kept c_pending c_active c_priorities) → va_S A s.heap H locs → lv_has ls 2 [] → FF = k_ThumbCoreModel_flags_58 c_n c_z c_c c_v z1 → W p l e rm_ThumbCoreModel_flags s m ([.ref h, .int x1] : List Value).toArray below meth c H locs 0 0 Q (F0 m 58 ls [.int (bI z1), .ref h]) := by
    intro H locs ls c_n c_z c_c c_v z1 hP hD hS hl hq
    refine va_put (D := D) (ci := 5) (v := .int (bI z1)) (ty := .boolean) (C := R_ThumbCoreModel) (T := F_ThumbCoreModel) (N := 23) hx hb hts u_ThumbCoreModel t_ThumbCoreModel t_ThumbCoreModel_ok n_ThumbCoreModel hown hK hP hD hS 0 rfl rfl 6 (by decide) (hts _ wf_ThumbCoreModel_83) (fun _ h9 => h9) rfl (by decide +kernel) (tc_nb z1) (tc_fb z1) (Nat.le_of_ble_eq_true rfl) d_ThumbCoreModel_flags_58 (fun H locs hP hD hS => ?_)
    have hP : va_P D tcl (wd_ThumbCoreModel cI cB cZ h h_memory h_reg h_kept h_pending h_active h_priorities q_size c_n c_z c_c z1 c_keptFlags c_bad c_h c_after c_entered c_mask c_asleep c_lockup c_counts c_counter c_reload c_current c_memory c_reg c_kept c_pending c_active c_priorities) H := hP
    have hD : va_D A (wd_ThumbCoreModel cI cB cZ h h_memory h_reg h_kept h_pending h_active h_priorities q_size c_n c_z c_c z1 c_keptFlags c_bad c_h c_after c_entered c_mask c_asleep c_lockup c_counts c_counter c_reload c_current c_memory c_reg c_kept c_pending c_active c_priorities) := hD
    exact RET H locs ls 61 (c_n, c_z, c_c, z1) d_ThumbCoreModel_flags_61 hP hD hS hq
  have J_43 : ∀ (H : Heap) (locs : List Loc) (ls : Array Slot) (c_n : Bool) (c_z : Bool) (c_c : Bool) (c_v : Bool) (y1 : Int32) (z1 : Bool), va_P D tcl (wd_ThumbCoreModel cI cB cZ h h_memory h_reg h_kept h_pending h_active h_priorities q_size c_n c_z c_c c_v c_keptFlags c_bad c_h c_after c_entered c_mask c_asleep c_lockup c_counts c_counter c_reload c_current c_memory c_reg c_kept c_pending c_active c_priorities) H → va_D A (wd_ThumbCoreModel cI cB cZ h h_memory h_reg h_kept h_pending h_active h_priorities q_size c_n c_z c_c c_v c_keptFlags c_bad c_h c_after c_entered c_mask c_asleep c_lockup c_counts c_counter c_reload c_current c_memory c_reg c_kept c_pending c_active c_priorities) → va_S A s.heap H locs → lv_has ls 2 [(0, .ref h), (1, .int y1)] → FF = k_ThumbCoreModel_flags_43 c_n c_z c_c c_v y1 z1 → W p l e rm_ThumbCoreModel_flags s m ([.ref h, .int x1] : List Value).toArray below meth c H locs 0 0 Q (F0 m 43 ls [.int (bI z1), .ref h]) := by
    intro H locs ls c_n c_z c_c c_v y1 z1 hP hD hS hl hq
    refine va_put (D := D) (ci := 5) (v := .int (bI z1)) (ty := .boolean) (C := R_ThumbCoreModel) (T := F_ThumbCoreModel) (N := 23) hx hb hts u_ThumbCoreModel t_ThumbCoreModel t_ThumbCoreModel_ok n_ThumbCoreModel hown hK hP hD hS 0 rfl rfl 5 (by decide) (hts _ wf_ThumbCoreModel_80) (fun _ h9 => h9) rfl (by decide +kernel) (tc_nb z1) (tc_fb z1) (Nat.le_of_ble_eq_true rfl) d_ThumbCoreModel_flags_43 (fun H locs hP hD hS => ?_)
    have hP : va_P D tcl (wd_ThumbCoreModel cI cB cZ h h_memory h_reg h_kept h_pending h_active h_priorities q_size c_n c_z z1 c_v c_keptFlags c_bad c_h c_after c_entered c_mask c_asleep c_lockup c_counts c_counter c_reload c_current c_memory c_reg c_kept c_pending c_active c_priorities) H := hP
    have hD : va_D A (wd_ThumbCoreModel cI cB cZ h h_memory h_reg h_kept h_pending h_active h_priorities q_size c_n c_z z1 c_v c_keptFlags c_bad c_h c_after c_entered c_mask c_asleep c_lockup c_counts c_counter c_reload c_current c_memory c_reg c_kept c_pending c_active c_priorities) := hD
    refine lv_aload_n hx hb d_ThumbCoreModel_flags_46 rfl (lv_at hl 0 rfl) ?_
    refine lv_iload_n hx hb d_ThumbCoreModel_flags_47 rfl (lv_at hl 1 rfl) ?_
    refine lv_iconst (v := 1) hx hb d_ThumbCoreModel_flags_48 (by decide) ?_
    refine lv_iand hx hb d_ThumbCoreModel_flags_49 ?_
    refine lv_if_eq (tgt := 57) hx hb d_ThumbCoreModel_flags_50 (by decide) (fun g_50 => ?_) (fun g_50 => ?_)
    · have hq := hq.trans (if_pos g_50)
      refine lv_iconst (v := 0) hx hb d_ThumbCoreModel_flags_57 (by decide) ?_
      exact J_58 H locs ls c_n c_z z1 c_v false hP hD hS (lv_sub hl [] rfl) hq
    · have hq := hq.trans (if_neg g_50)
      refine lv_iconst (v := 1) hx hb d_ThumbCoreModel_flags_53 (by decide) ?_
      refine lv_goto (tgt := 58) hx hb d_ThumbCoreModel_flags_54 (by decide) ?_
      exact J_58 H locs ls c_n c_z z1 c_v true hP hD hS (lv_sub hl [] rfl) hq
  have J_28 : ∀ (H : Heap) (locs : List Loc) (ls : Array Slot) (c_n : Bool) (c_z : Bool) (c_c : Bool) (c_v : Bool) (y1 : Int32) (z1 : Bool), va_P D tcl (wd_ThumbCoreModel cI cB cZ h h_memory h_reg h_kept h_pending h_active h_priorities q_size c_n c_z c_c c_v c_keptFlags c_bad c_h c_after c_entered c_mask c_asleep c_lockup c_counts c_counter c_reload c_current c_memory c_reg c_kept c_pending c_active c_priorities) H → va_D A (wd_ThumbCoreModel cI cB cZ h h_memory h_reg h_kept h_pending h_active h_priorities q_size c_n c_z c_c c_v c_keptFlags c_bad c_h c_after c_entered c_mask c_asleep c_lockup c_counts c_counter c_reload c_current c_memory c_reg c_kept c_pending c_active c_priorities) → va_S A s.heap H locs → lv_has ls 2 [(0, .ref h), (1, .int y1)] → FF = k_ThumbCoreModel_flags_28 c_n c_z c_c c_v y1 z1 → W p l e rm_ThumbCoreModel_flags s m ([.ref h, .int x1] : List Value).toArray below meth c H locs 0 0 Q (F0 m 28 ls [.int (bI z1), .ref h]) := by
    intro H locs ls c_n c_z c_c c_v y1 z1 hP hD hS hl hq
    refine va_put (D := D) (ci := 5) (v := .int (bI z1)) (ty := .boolean) (C := R_ThumbCoreModel) (T := F_ThumbCoreModel) (N := 23) hx hb hts u_ThumbCoreModel t_ThumbCoreModel t_ThumbCoreModel_ok n_ThumbCoreModel hown hK hP hD hS 0 rfl rfl 4 (by decide) (hts _ wf_ThumbCoreModel_77) (fun _ h9 => h9) rfl (by decide +kernel) (tc_nb z1) (tc_fb z1) (Nat.le_of_ble_eq_true rfl) d_ThumbCoreModel_flags_28 (fun H locs hP hD hS => ?_)
    have hP : va_P D tcl (wd_ThumbCoreModel cI cB cZ h h_memory h_reg h_kept h_pending h_active h_priorities q_size c_n z1 c_c c_v c_keptFlags c_bad c_h c_after c_entered c_mask c_asleep c_lockup c_counts c_counter c_reload c_current c_memory c_reg c_kept c_pending c_active c_priorities) H := hP
    have hD : va_D A (wd_ThumbCoreModel cI cB cZ h h_memory h_reg h_kept h_pending h_active h_priorities q_size c_n z1 c_c c_v c_keptFlags c_bad c_h c_after c_entered c_mask c_asleep c_lockup c_counts c_counter c_reload c_current c_memory c_reg c_kept c_pending c_active c_priorities) := hD
    refine lv_aload_n hx hb d_ThumbCoreModel_flags_31 rfl (lv_at hl 0 rfl) ?_
    refine lv_iload_n hx hb d_ThumbCoreModel_flags_32 rfl (lv_at hl 1 rfl) ?_
    refine lv_iconst (v := 2) hx hb d_ThumbCoreModel_flags_33 (by decide) ?_
    refine lv_iand hx hb d_ThumbCoreModel_flags_34 ?_
    refine lv_if_eq (tgt := 42) hx hb d_ThumbCoreModel_flags_35 (by decide) (fun g_35 => ?_) (fun g_35 => ?_)
    · have hq := hq.trans (if_pos g_35)
      refine lv_iconst (v := 0) hx hb d_ThumbCoreModel_flags_42 (by decide) ?_
      exact J_43 H locs ls c_n z1 c_c c_v y1 false hP hD hS (lv_sub hl [0, 1] rfl) hq
    · have hq := hq.trans (if_neg g_35)
      refine lv_iconst (v := 1) hx hb d_ThumbCoreModel_flags_38 (by decide) ?_
      refine lv_goto (tgt := 43) hx hb d_ThumbCoreModel_flags_39 (by decide) ?_
      exact J_43 H locs ls c_n z1 c_c c_v y1 true hP hD hS (lv_sub hl [0, 1] rfl) hq
  have J_13 : ∀ (H : Heap) (locs : List Loc) (ls : Array Slot) (c_n : Bool) (c_z : Bool) (c_c : Bool) (c_v : Bool) (y1 : Int32) (z1 : Bool), va_P D tcl (wd_ThumbCoreModel cI cB cZ h h_memory h_reg h_kept h_pending h_active h_priorities q_size c_n c_z c_c c_v c_keptFlags c_bad c_h c_after c_entered c_mask c_asleep c_lockup c_counts c_counter c_reload c_current c_memory c_reg c_kept c_pending c_active c_priorities) H → va_D A (wd_ThumbCoreModel cI cB cZ h h_memory h_reg h_kept h_pending h_active h_priorities q_size c_n c_z c_c c_v c_keptFlags c_bad c_h c_after c_entered c_mask c_asleep c_lockup c_counts c_counter c_reload c_current c_memory c_reg c_kept c_pending c_active c_priorities) → va_S A s.heap H locs → lv_has ls 2 [(0, .ref h), (1, .int y1)] → FF = k_ThumbCoreModel_flags_13 c_n c_z c_c c_v y1 z1 → W p l e rm_ThumbCoreModel_flags s m ([.ref h, .int x1] : List Value).toArray below meth c H locs 0 0 Q (F0 m 13 ls [.int (bI z1), .ref h]) := by
    intro H locs ls c_n c_z c_c c_v y1 z1 hP hD hS hl hq
    refine va_put (D := D) (ci := 5) (v := .int (bI z1)) (ty := .boolean) (C := R_ThumbCoreModel) (T := F_ThumbCoreModel) (N := 23) hx hb hts u_ThumbCoreModel t_ThumbCoreModel t_ThumbCoreModel_ok n_ThumbCoreModel hown hK hP hD hS 0 rfl rfl 3 (by decide) (hts _ wf_ThumbCoreModel_74) (fun _ h9 => h9) rfl (by decide +kernel) (tc_nb z1) (tc_fb z1) (Nat.le_of_ble_eq_true rfl) d_ThumbCoreModel_flags_13 (fun H locs hP hD hS => ?_)
    have hP : va_P D tcl (wd_ThumbCoreModel cI cB cZ h h_memory h_reg h_kept h_pending h_active h_priorities q_size z1 c_z c_c c_v c_keptFlags c_bad c_h c_after c_entered c_mask c_asleep c_lockup c_counts c_counter c_reload c_current c_memory c_reg c_kept c_pending c_active c_priorities) H := hP
    have hD : va_D A (wd_ThumbCoreModel cI cB cZ h h_memory h_reg h_kept h_pending h_active h_priorities q_size z1 c_z c_c c_v c_keptFlags c_bad c_h c_after c_entered c_mask c_asleep c_lockup c_counts c_counter c_reload c_current c_memory c_reg c_kept c_pending c_active c_priorities) := hD
    refine lv_aload_n hx hb d_ThumbCoreModel_flags_16 rfl (lv_at hl 0 rfl) ?_
    refine lv_iload_n hx hb d_ThumbCoreModel_flags_17 rfl (lv_at hl 1 rfl) ?_
    refine lv_iconst (v := 4) hx hb d_ThumbCoreModel_flags_18 (by decide) ?_
    refine lv_iand hx hb d_ThumbCoreModel_flags_19 ?_
    refine lv_if_eq (tgt := 27) hx hb d_ThumbCoreModel_flags_20 (by decide) (fun g_20 => ?_) (fun g_20 => ?_)
    · have hq := hq.trans (if_pos g_20)
      refine lv_iconst (v := 0) hx hb d_ThumbCoreModel_flags_27 (by decide) ?_
      exact J_28 H locs ls z1 c_z c_c c_v y1 false hP hD hS (lv_sub hl [0, 1] rfl) hq
    · have hq := hq.trans (if_neg g_20)
      refine lv_iconst (v := 1) hx hb d_ThumbCoreModel_flags_23 (by decide) ?_
      refine lv_goto (tgt := 28) hx hb d_ThumbCoreModel_flags_24 (by decide) ?_
      exact J_28 H locs ls z1 c_z c_c c_v y1 true hP hD hS (lv_sub hl [0, 1] rfl) hq
  have hq : FF = f_ThumbCoreModel_flags c_n c_z c_c c_v x1 := hF.symm
  revert hP hD hS
  suffices G : ∀ (H : Heap) (locs : List Loc), va_P D tcl (wd_ThumbCoreModel cI cB cZ h h_memory h_reg h_kept h_pending h_active h_priorities q_size c_n c_z c_c c_v c_keptFlags c_bad c_h c_after c_entered c_mask c_asleep c_lockup c_counts c_counter c_reload c_current c_memory c_reg c_kept c_pending c_active c_priorities) H → va_D A (wd_ThumbCoreModel cI cB cZ h h_memory h_reg h_kept h_pending h_active h_priorities q_size c_n c_z c_c c_v c_keptFlags c_bad c_h c_after c_entered c_mask c_asleep c_lockup c_counts c_counter c_reload c_current c_memory c_reg c_kept c_pending c_active c_priorities) → va_S A s.heap H locs → W p l e rm_ThumbCoreModel_flags s m ([.ref h, .int x1] : List Value).toArray below meth c H locs 0 0 Q (F0 m 0 ls []) from fun hP hD hS => G _ _ hP hD hS
  intro H locs hP hD hS
  refine lv_aload_n hx hb d_ThumbCoreModel_flags_0 rfl (lv_at hl 0 rfl) ?_
  refine lv_iload_n hx hb d_ThumbCoreModel_flags_1 rfl (lv_at hl 1 rfl) ?_
  refine lv_bipush (v := 8) hx hb d_ThumbCoreModel_flags_2 (by decide) ?_
  refine lv_iand hx hb d_ThumbCoreModel_flags_4 ?_
  refine lv_if_eq (tgt := 12) hx hb d_ThumbCoreModel_flags_5 (by decide) (fun g_5 => ?_) (fun g_5 => ?_)
  · have hq := hq.trans (if_pos g_5)
    refine lv_iconst (v := 0) hx hb d_ThumbCoreModel_flags_12 (by decide) ?_
    exact J_13 H locs ls c_n c_z c_c c_v x1 false hP hD hS (lv_sub hl [0, 1] rfl) hq
  · have hq := hq.trans (if_neg g_5)
    refine lv_iconst (v := 1) hx hb d_ThumbCoreModel_flags_8 (by decide) ?_
    refine lv_goto (tgt := 13) hx hb d_ThumbCoreModel_flags_9 (by decide) ?_
    exact J_13 H locs ls c_n c_z c_c c_v x1 true hP hD hS (lv_sub hl [0, 1] rfl) hq
abbrev rm_ThumbCoreModel_reset : Room := { frames := 3, cells := 0, slots := 0, locals := 70 }
set_option maxHeartbeats 4000000 in
set_option maxRecDepth 100000 in
theorem c_ThumbCoreModel_reset (l : Launch) (D : va_G) (cI cB cZ : ClassId) (h h_memory h_reg h_kept h_pending h_active h_priorities sz : Nat) (q_size : Int32) (c_n : Bool) (c_z : Bool) (c_c : Bool) (c_v : Bool) (c_keptFlags : Int32) (c_bad : Bool) (c_h : Int32) (c_after : Int32) (c_entered : Bool) (c_mask : Bool) (c_asleep : Bool) (c_lockup : Bool) (c_counts : Bool) (c_counter : Int32) (c_reload : Int32) (c_current : Int32) (c_memory : Nat → Int32) (c_reg : Nat → Int32) (c_kept : Nat → Int32) (c_pending : Nat → Bool) (c_active : Nat → Bool) (c_priorities : Nat → Int32) (hm : tc_memR q_size) : Met l y_ThumbCoreModel_reset (.code y_ThumbCoreModel_reset b_ThumbCoreModel_reset 2 none :: tcb) rm_ThumbCoreModel_reset (tc_Pw D tcl (tys cI cB cZ) (wd_ThumbCoreModel cI cB cZ h h_memory h_reg h_kept h_pending h_active h_priorities q_size c_n c_z c_c c_v c_keptFlags c_bad c_h c_after c_entered c_mask c_asleep c_lockup c_counts c_counter c_reload c_current c_memory c_reg c_kept c_pending c_active c_priorities) sz ([.ref h] : List Value) none) (tc_Qv D tcl (wd_ThumbCoreModel cI cB cZ h h_memory h_reg h_kept h_pending h_active h_priorities q_size c_n c_z c_c c_v c_keptFlags c_bad c_h c_after c_entered c_mask c_asleep c_lockup c_counts c_counter c_reload c_current c_memory c_reg c_kept c_pending c_active c_priorities) sz (fun u => (wd_ThumbCoreModel cI cB cZ h h_memory h_reg h_kept h_pending h_active h_priorities q_size u.1 u.2.1 u.2.2.1 u.2.2.2.1 c_keptFlags u.2.2.2.2.1 c_h c_after c_entered u.2.2.2.2.2.1 u.2.2.2.2.2.2.1 u.2.2.2.2.2.2.2.1 u.2.2.2.2.2.2.2.2.1 u.2.2.2.2.2.2.2.2.2.1 u.2.2.2.2.2.2.2.2.2.2.1 u.2.2.2.2.2.2.2.2.2.2.2.1 c_memory u.2.2.2.2.2.2.2.2.2.2.2.2.1 c_kept u.2.2.2.2.2.2.2.2.2.2.2.2.2.1 u.2.2.2.2.2.2.2.2.2.2.2.2.2.2 c_priorities)) (f_ThumbCoreModel_reset q_size c_memory c_n c_z c_c c_v c_bad c_mask c_asleep c_lockup c_counts c_counter c_reload c_current c_reg c_pending c_active)) 0 0 (va_A (wd_ThumbCoreModel cI cB cZ h h_memory h_reg h_kept h_pending h_active h_priorities q_size c_n c_z c_c c_v c_keptFlags c_bad c_h c_after c_entered c_mask c_asleep c_lockup c_counts c_counter c_reload c_current c_memory c_reg c_kept c_pending c_active c_priorities) sz) := by
  refine tc_mu_v (by decide) (Nat.le_of_ble_eq_true rfl) ?_
  intro p e s m below meth c A Q ls hx hb hml hts hown hK hN hP hD hA hZ hl RET
  have hS : va_S A s.heap s.heap [] := va_S.rf
  have hl : lv_has ls 2 [(0, .ref h)] := hl
  generalize hF : f_ThumbCoreModel_reset q_size c_memory c_n c_z c_c c_v c_bad c_mask c_asleep c_lockup c_counts c_counter c_reload c_current c_reg c_pending c_active = FF at RET
  have J_2 : ∀ n : Nat, ∀ (H : Heap) (locs : List Loc) (ls : Array Slot) (c_n : Bool) (c_z : Bool) (c_c : Bool) (c_v : Bool) (c_bad : Bool) (c_mask : Bool) (c_asleep : Bool) (c_lockup : Bool) (c_counts : Bool) (c_counter : Int32) (c_reload : Int32) (c_current : Int32) (c_reg : Nat → Int32) (c_pending : Nat → Bool) (c_active : Nat → Bool) (y1 : Int32), va_P D tcl (wd_ThumbCoreModel cI cB cZ h h_memory h_reg h_kept h_pending h_active h_priorities q_size c_n c_z c_c c_v c_keptFlags c_bad c_h c_after c_entered c_mask c_asleep c_lockup c_counts c_counter c_reload c_current c_memory c_reg c_kept c_pending c_active c_priorities) H → va_D A (wd_ThumbCoreModel cI cB cZ h h_memory h_reg h_kept h_pending h_active h_priorities q_size c_n c_z c_c c_v c_keptFlags c_bad c_h c_after c_entered c_mask c_asleep c_lockup c_counts c_counter c_reload c_current c_memory c_reg c_kept c_pending c_active c_priorities) → va_S A s.heap H locs → lv_has ls 2 [(0, .ref h), (1, .int y1)] → FF = k_ThumbCoreModel_reset_2 q_size c_memory n c_n c_z c_c c_v c_bad c_mask c_asleep c_lockup c_counts c_counter c_reload c_current c_reg c_pending c_active y1 → (tc_lp y1 16 n) → W p l e rm_ThumbCoreModel_reset s m ([.ref h] : List Value).toArray below meth c H locs 0 0 Q (F0 m 2 ls []) := by
    intro n
    induction n with
    | zero =>
      intro H locs ls c_n c_z c_c c_v c_bad c_mask c_asleep c_lockup c_counts c_counter c_reload c_current c_reg c_pending c_active y1 hP hD hS hl hq hinv
      exact (tc_lp0 hinv).elim
    | succ n_2 IH_2 =>
      intro H locs ls c_n c_z c_c c_v c_bad c_mask c_asleep c_lockup c_counts c_counter c_reload c_current c_reg c_pending c_active y1 hP hD hS hl hq hinv
      refine lv_iload_n hx hb d_ThumbCoreModel_reset_2 rfl (lv_at hl 1 rfl) ?_
      refine lv_bipush (v := 16) hx hb d_ThumbCoreModel_reset_3 (by decide) ?_
      refine lv_icmp_ge (tgt := 35) hx hb d_ThumbCoreModel_reset_5 (by decide) (fun g_5 => ?_) (fun g_5 => ?_)
      · have hq := hq.trans (if_pos g_5)
        refine lv_aload_n hx hb d_ThumbCoreModel_reset_35 rfl (lv_at hl 0 rfl) ?_
        refine va_get (D := D) (ci := 5) (v := .ref h_reg) (C := R_ThumbCoreModel) (T := F_ThumbCoreModel) (N := 23) hx hb hts u_ThumbCoreModel hown hK hP 0 rfl rfl 2 (by decide) (hts _ wf_ThumbCoreModel_13) (fun _ h9 => h9) rfl d_ThumbCoreModel_reset_36 ?_
        refine lv_bipush (v := 13) hx hb d_ThumbCoreModel_reset_39 (by decide) ?_
        refine lv_aload_n hx hb d_ThumbCoreModel_reset_41 rfl (lv_at hl 0 rfl) ?_
        refine lv_iconst (v := 0) hx hb d_ThumbCoreModel_reset_42 (by decide) ?_
        refine lv_iconst (v := 4) hx hb d_ThumbCoreModel_reset_43 (by decide) ?_
        refine tc_mi (wo := fun u => (wd_ThumbCoreModel cI cB cZ h h_memory h_reg h_kept h_pending h_active h_priorities q_size c_n c_z c_c c_v c_keptFlags u.2 c_h c_after c_entered c_mask c_asleep c_lockup c_counts c_counter c_reload c_current c_memory c_reg c_kept c_pending c_active c_priorities)) (va_runV (As := [.int 0, .int 4]) (rest := [.int 13, .ref h_reg]) ⟨hx, hb, hml, hown, hts⟩ (c_ThumbCoreModel_read l D cI cB cZ h h_memory h_reg h_kept h_pending h_active h_priorities H.size q_size c_n c_z c_c c_v c_keptFlags c_bad c_h c_after c_entered c_mask c_asleep c_lockup c_counts c_counter c_reload c_current c_memory c_reg c_kept c_pending c_active c_priorities 0 4 hm (by decide)) (cwV 2 hts (tc_gV wl_ThumbCoreModel_45 wm_ThumbCoreModel_read ws_ThumbCoreModel_read wi_ThumbCoreModel wc_ThumbCoreModel_read) rfl rfl rfl (by decide +kernel) ⟨Nat.le_of_ble_eq_true rfl, Nat.le_of_ble_eq_true rfl⟩) (tc_preV hK hN hP hD [0, 1, 2, 3, 4, 5, 6] rfl (by decide) (q0 := 0) rfl rfl) rfl rfl hl.1 rfl (lv_room (Nat.le_of_ble_eq_true rfl)) d_ThumbCoreModel_reset_44 (by decide)) hP hD hS hA [0, 1, 2, 3, 4, 5, 6] [] [0, 1, 2, 3, 4, 5, 6] rfl rfl (by decide) (by decide) (by decide) (fun _ => rfl) (fun u H locs hu hP hD hS => ?_)
        obtain ⟨r1, s2⟩ := u
        have hq := hq.trans (un2_eq hu _)
        have e_r1 := hu
        have hP : va_P D tcl (wd_ThumbCoreModel cI cB cZ h h_memory h_reg h_kept h_pending h_active h_priorities q_size c_n c_z c_c c_v c_keptFlags s2 c_h c_after c_entered c_mask c_asleep c_lockup c_counts c_counter c_reload c_current c_memory c_reg c_kept c_pending c_active c_priorities) H := hP
        have hD : va_D A (wd_ThumbCoreModel cI cB cZ h h_memory h_reg h_kept h_pending h_active h_priorities q_size c_n c_z c_c c_v c_keptFlags s2 c_h c_after c_entered c_mask c_asleep c_lockup c_counts c_counter c_reload c_current c_memory c_reg c_kept c_pending c_active c_priorities) := hD
        refine W.eq (g2 := F0 m 47 ls [.int r1, .int 13, .ref h_reg]) rfl ?_
        refine lv_bipush (v := (-4)) hx hb d_ThumbCoreModel_reset_47 (by decide) ?_
        refine lv_iand hx hb d_ThumbCoreModel_reset_49 ?_
        refine va_iast hx hb hK hP hD hS 2 0 rfl rfl (by show ¬ (_ ∨ _); decide) d_ThumbCoreModel_reset_50 (fun H locs hP hD hS => ?_)
        have hP : va_P D tcl (wd_ThumbCoreModel cI cB cZ h h_memory h_reg h_kept h_pending h_active h_priorities q_size c_n c_z c_c c_v c_keptFlags s2 c_h c_after c_entered c_mask c_asleep c_lockup c_counts c_counter c_reload c_current c_memory (upd c_reg (13 : Int32).toNatClampNeg (r1 &&& (-4))) c_kept c_pending c_active c_priorities) H := hP
        have hD : va_D A (wd_ThumbCoreModel cI cB cZ h h_memory h_reg h_kept h_pending h_active h_priorities q_size c_n c_z c_c c_v c_keptFlags s2 c_h c_after c_entered c_mask c_asleep c_lockup c_counts c_counter c_reload c_current c_memory (upd c_reg (13 : Int32).toNatClampNeg (r1 &&& (-4))) c_kept c_pending c_active c_priorities) := hD
        refine lv_aload_n hx hb d_ThumbCoreModel_reset_51 rfl (lv_at hl 0 rfl) ?_
        refine va_get (D := D) (ci := 5) (v := .ref h_reg) (C := R_ThumbCoreModel) (T := F_ThumbCoreModel) (N := 23) hx hb hts u_ThumbCoreModel hown hK hP 0 rfl rfl 2 (by decide) (hts _ wf_ThumbCoreModel_13) (fun _ h9 => h9) rfl d_ThumbCoreModel_reset_52 ?_
        refine lv_bipush (v := 15) hx hb d_ThumbCoreModel_reset_55 (by decide) ?_
        refine lv_aload_n hx hb d_ThumbCoreModel_reset_57 rfl (lv_at hl 0 rfl) ?_
        refine lv_iconst (v := 4) hx hb d_ThumbCoreModel_reset_58 (by decide) ?_
        refine lv_iconst (v := 4) hx hb d_ThumbCoreModel_reset_59 (by decide) ?_
        refine tc_mi (wo := fun u => (wd_ThumbCoreModel cI cB cZ h h_memory h_reg h_kept h_pending h_active h_priorities q_size c_n c_z c_c c_v c_keptFlags u.2 c_h c_after c_entered c_mask c_asleep c_lockup c_counts c_counter c_reload c_current c_memory (upd c_reg (13 : Int32).toNatClampNeg (r1 &&& (-4))) c_kept c_pending c_active c_priorities)) (va_runV (As := [.int 4, .int 4]) (rest := [.int 15, .ref h_reg]) ⟨hx, hb, hml, hown, hts⟩ (c_ThumbCoreModel_read l D cI cB cZ h h_memory h_reg h_kept h_pending h_active h_priorities H.size q_size c_n c_z c_c c_v c_keptFlags s2 c_h c_after c_entered c_mask c_asleep c_lockup c_counts c_counter c_reload c_current c_memory (upd c_reg (13 : Int32).toNatClampNeg (r1 &&& (-4))) c_kept c_pending c_active c_priorities 4 4 hm (by decide)) (cwV 2 hts (tc_gV wl_ThumbCoreModel_45 wm_ThumbCoreModel_read ws_ThumbCoreModel_read wi_ThumbCoreModel wc_ThumbCoreModel_read) rfl rfl rfl (by decide +kernel) ⟨Nat.le_of_ble_eq_true rfl, Nat.le_of_ble_eq_true rfl⟩) (tc_preV hK hN hP hD [0, 1, 2, 3, 4, 5, 6] rfl (by decide) (q0 := 0) rfl rfl) rfl rfl hl.1 rfl (lv_room (Nat.le_of_ble_eq_true rfl)) d_ThumbCoreModel_reset_60 (by decide)) hP hD hS hA [0, 1, 2, 3, 4, 5, 6] [] [0, 1, 2, 3, 4, 5, 6] rfl rfl (by decide) (by decide) (by decide) (fun _ => rfl) (fun u H locs hu hP hD hS => ?_)
        obtain ⟨r3, s4⟩ := u
        have hq := hq.trans (un2_eq hu _)
        have e_r3 := hu
        have hP : va_P D tcl (wd_ThumbCoreModel cI cB cZ h h_memory h_reg h_kept h_pending h_active h_priorities q_size c_n c_z c_c c_v c_keptFlags s4 c_h c_after c_entered c_mask c_asleep c_lockup c_counts c_counter c_reload c_current c_memory (upd c_reg (13 : Int32).toNatClampNeg (r1 &&& (-4))) c_kept c_pending c_active c_priorities) H := hP
        have hD : va_D A (wd_ThumbCoreModel cI cB cZ h h_memory h_reg h_kept h_pending h_active h_priorities q_size c_n c_z c_c c_v c_keptFlags s4 c_h c_after c_entered c_mask c_asleep c_lockup c_counts c_counter c_reload c_current c_memory (upd c_reg (13 : Int32).toNatClampNeg (r1 &&& (-4))) c_kept c_pending c_active c_priorities) := hD
        refine W.eq (g2 := F0 m 63 ls [.int r3, .int 15, .ref h_reg]) rfl ?_
        refine lv_bipush (v := (-2)) hx hb d_ThumbCoreModel_reset_63 (by decide) ?_
        refine lv_iand hx hb d_ThumbCoreModel_reset_65 ?_
        refine va_iast hx hb hK hP hD hS 2 0 rfl rfl (by show ¬ (_ ∨ _); decide) d_ThumbCoreModel_reset_66 (fun H locs hP hD hS => ?_)
        have hP : va_P D tcl (wd_ThumbCoreModel cI cB cZ h h_memory h_reg h_kept h_pending h_active h_priorities q_size c_n c_z c_c c_v c_keptFlags s4 c_h c_after c_entered c_mask c_asleep c_lockup c_counts c_counter c_reload c_current c_memory (upd (upd c_reg (13 : Int32).toNatClampNeg (r1 &&& (-4))) (15 : Int32).toNatClampNeg (r3 &&& (-2))) c_kept c_pending c_active c_priorities) H := hP
        have hD : va_D A (wd_ThumbCoreModel cI cB cZ h h_memory h_reg h_kept h_pending h_active h_priorities q_size c_n c_z c_c c_v c_keptFlags s4 c_h c_after c_entered c_mask c_asleep c_lockup c_counts c_counter c_reload c_current c_memory (upd (upd c_reg (13 : Int32).toNatClampNeg (r1 &&& (-4))) (15 : Int32).toNatClampNeg (r3 &&& (-2))) c_kept c_pending c_active c_priorities) := hD
        refine lv_aload_n hx hb d_ThumbCoreModel_reset_67 rfl (lv_at hl 0 rfl) ?_
        refine va_get (D := D) (ci := 5) (v := .ref h_reg) (C := R_ThumbCoreModel) (T := F_ThumbCoreModel) (N := 23) hx hb hts u_ThumbCoreModel hown hK hP 0 rfl rfl 2 (by decide) (hts _ wf_ThumbCoreModel_13) (fun _ h9 => h9) rfl d_ThumbCoreModel_reset_68 ?_
        refine lv_bipush (v := 14) hx hb d_ThumbCoreModel_reset_71 (by decide) ?_
        refine lv_iconst (v := (-1)) hx hb d_ThumbCoreModel_reset_73 (by decide) ?_
        refine va_iast hx hb hK hP hD hS 2 0 rfl rfl (by show ¬ (_ ∨ _); decide) d_ThumbCoreModel_reset_74 (fun H locs hP hD hS => ?_)
        have hP : va_P D tcl (wd_ThumbCoreModel cI cB cZ h h_memory h_reg h_kept h_pending h_active h_priorities q_size c_n c_z c_c c_v c_keptFlags s4 c_h c_after c_entered c_mask c_asleep c_lockup c_counts c_counter c_reload c_current c_memory (upd (upd (upd c_reg (13 : Int32).toNatClampNeg (r1 &&& (-4))) (15 : Int32).toNatClampNeg (r3 &&& (-2))) (14 : Int32).toNatClampNeg (-1)) c_kept c_pending c_active c_priorities) H := hP
        have hD : va_D A (wd_ThumbCoreModel cI cB cZ h h_memory h_reg h_kept h_pending h_active h_priorities q_size c_n c_z c_c c_v c_keptFlags s4 c_h c_after c_entered c_mask c_asleep c_lockup c_counts c_counter c_reload c_current c_memory (upd (upd (upd c_reg (13 : Int32).toNatClampNeg (r1 &&& (-4))) (15 : Int32).toNatClampNeg (r3 &&& (-2))) (14 : Int32).toNatClampNeg (-1)) c_kept c_pending c_active c_priorities) := hD
        refine lv_aload_n hx hb d_ThumbCoreModel_reset_75 rfl (lv_at hl 0 rfl) ?_
        refine lv_iconst (v := 0) hx hb d_ThumbCoreModel_reset_76 (by decide) ?_
        refine tc_mv (wo := fun u => (wd_ThumbCoreModel cI cB cZ h h_memory h_reg h_kept h_pending h_active h_priorities q_size u.1 u.2.1 u.2.2.1 u.2.2.2 c_keptFlags s4 c_h c_after c_entered c_mask c_asleep c_lockup c_counts c_counter c_reload c_current c_memory (upd (upd (upd c_reg (13 : Int32).toNatClampNeg (r1 &&& (-4))) (15 : Int32).toNatClampNeg (r3 &&& (-2))) (14 : Int32).toNatClampNeg (-1)) c_kept c_pending c_active c_priorities)) (va_runV (As := [.int 0]) (rest := []) ⟨hx, hb, hml, hown, hts⟩ (c_ThumbCoreModel_flags l D cI cB cZ h h_memory h_reg h_kept h_pending h_active h_priorities H.size q_size c_n c_z c_c c_v c_keptFlags s4 c_h c_after c_entered c_mask c_asleep c_lockup c_counts c_counter c_reload c_current c_memory (upd (upd (upd c_reg (13 : Int32).toNatClampNeg (r1 &&& (-4))) (15 : Int32).toNatClampNeg (r3 &&& (-2))) (14 : Int32).toNatClampNeg (-1)) c_kept c_pending c_active c_priorities 0) (cwV 1 hts (tc_gV wl_ThumbCoreModel_49 wm_ThumbCoreModel_flags ws_ThumbCoreModel_flags wi_ThumbCoreModel wc_ThumbCoreModel_flags) rfl rfl rfl (by decide +kernel) ⟨Nat.le_of_ble_eq_true rfl, Nat.le_of_ble_eq_true rfl⟩) (tc_preV hK hN hP hD [0, 1, 2, 3, 4, 5, 6] rfl (by decide) (q0 := 0) rfl rfl) rfl rfl hl.1 rfl (lv_room (Nat.le_of_ble_eq_true rfl)) d_ThumbCoreModel_reset_77 (by decide)) hP hD hS hA [0, 1, 2, 3, 4, 5, 6] [] [0, 1, 2, 3, 4, 5, 6] rfl rfl (by decide) (by decide) (by decide) (fun _ => rfl) (fun u H locs hu hP hD hS => ?_)
        obtain ⟨s5, s6, s7, s8⟩ := u
        have hq := hq.trans (un4_eq hu _)
        have e_s5 := hu
        have hP : va_P D tcl (wd_ThumbCoreModel cI cB cZ h h_memory h_reg h_kept h_pending h_active h_priorities q_size s5 s6 s7 s8 c_keptFlags s4 c_h c_after c_entered c_mask c_asleep c_lockup c_counts c_counter c_reload c_current c_memory (upd (upd (upd c_reg (13 : Int32).toNatClampNeg (r1 &&& (-4))) (15 : Int32).toNatClampNeg (r3 &&& (-2))) (14 : Int32).toNatClampNeg (-1)) c_kept c_pending c_active c_priorities) H := hP
        have hD : va_D A (wd_ThumbCoreModel cI cB cZ h h_memory h_reg h_kept h_pending h_active h_priorities q_size s5 s6 s7 s8 c_keptFlags s4 c_h c_after c_entered c_mask c_asleep c_lockup c_counts c_counter c_reload c_current c_memory (upd (upd (upd c_reg (13 : Int32).toNatClampNeg (r1 &&& (-4))) (15 : Int32).toNatClampNeg (r3 &&& (-2))) (14 : Int32).toNatClampNeg (-1)) c_kept c_pending c_active c_priorities) := hD
        refine lv_aload_n hx hb d_ThumbCoreModel_reset_80 rfl (lv_at hl 0 rfl) ?_
        refine lv_iconst (v := 0) hx hb d_ThumbCoreModel_reset_81 (by decide) ?_
        refine va_put (D := D) (ci := 5) (v := .int (bI false)) (ty := .boolean) (C := R_ThumbCoreModel) (T := F_ThumbCoreModel) (N := 23) hx hb hts u_ThumbCoreModel t_ThumbCoreModel t_ThumbCoreModel_ok n_ThumbCoreModel hown hK hP hD hS 0 rfl rfl 13 (by decide) (hts _ wf_ThumbCoreModel_53) (fun _ h9 => h9) rfl (by decide +kernel) (tc_nb false) (tc_fb false) (Nat.le_of_ble_eq_true rfl) d_ThumbCoreModel_reset_82 (fun H locs hP hD hS => ?_)
        have hP : va_P D tcl (wd_ThumbCoreModel cI cB cZ h h_memory h_reg h_kept h_pending h_active h_priorities q_size s5 s6 s7 s8 c_keptFlags s4 c_h c_after c_entered false c_asleep c_lockup c_counts c_counter c_reload c_current c_memory (upd (upd (upd c_reg (13 : Int32).toNatClampNeg (r1 &&& (-4))) (15 : Int32).toNatClampNeg (r3 &&& (-2))) (14 : Int32).toNatClampNeg (-1)) c_kept c_pending c_active c_priorities) H := hP
        have hD : va_D A (wd_ThumbCoreModel cI cB cZ h h_memory h_reg h_kept h_pending h_active h_priorities q_size s5 s6 s7 s8 c_keptFlags s4 c_h c_after c_entered false c_asleep c_lockup c_counts c_counter c_reload c_current c_memory (upd (upd (upd c_reg (13 : Int32).toNatClampNeg (r1 &&& (-4))) (15 : Int32).toNatClampNeg (r3 &&& (-2))) (14 : Int32).toNatClampNeg (-1)) c_kept c_pending c_active c_priorities) := hD
        refine lv_aload_n hx hb d_ThumbCoreModel_reset_85 rfl (lv_at hl 0 rfl) ?_
        refine lv_iconst (v := 0) hx hb d_ThumbCoreModel_reset_86 (by decide) ?_
        refine va_put (D := D) (ci := 5) (v := .int (bI false)) (ty := .boolean) (C := R_ThumbCoreModel) (T := F_ThumbCoreModel) (N := 23) hx hb hts u_ThumbCoreModel t_ThumbCoreModel t_ThumbCoreModel_ok n_ThumbCoreModel hown hK hP hD hS 0 rfl rfl 14 (by decide) (hts _ wf_ThumbCoreModel_56) (fun _ h9 => h9) rfl (by decide +kernel) (tc_nb false) (tc_fb false) (Nat.le_of_ble_eq_true rfl) d_ThumbCoreModel_reset_87 (fun H locs hP hD hS => ?_)
        have hP : va_P D tcl (wd_ThumbCoreModel cI cB cZ h h_memory h_reg h_kept h_pending h_active h_priorities q_size s5 s6 s7 s8 c_keptFlags s4 c_h c_after c_entered false false c_lockup c_counts c_counter c_reload c_current c_memory (upd (upd (upd c_reg (13 : Int32).toNatClampNeg (r1 &&& (-4))) (15 : Int32).toNatClampNeg (r3 &&& (-2))) (14 : Int32).toNatClampNeg (-1)) c_kept c_pending c_active c_priorities) H := hP
        have hD : va_D A (wd_ThumbCoreModel cI cB cZ h h_memory h_reg h_kept h_pending h_active h_priorities q_size s5 s6 s7 s8 c_keptFlags s4 c_h c_after c_entered false false c_lockup c_counts c_counter c_reload c_current c_memory (upd (upd (upd c_reg (13 : Int32).toNatClampNeg (r1 &&& (-4))) (15 : Int32).toNatClampNeg (r3 &&& (-2))) (14 : Int32).toNatClampNeg (-1)) c_kept c_pending c_active c_priorities) := hD
        refine lv_aload_n hx hb d_ThumbCoreModel_reset_90 rfl (lv_at hl 0 rfl) ?_
        refine lv_iconst (v := 0) hx hb d_ThumbCoreModel_reset_91 (by decide) ?_
        refine va_put (D := D) (ci := 5) (v := .int (bI false)) (ty := .boolean) (C := R_ThumbCoreModel) (T := F_ThumbCoreModel) (N := 23) hx hb hts u_ThumbCoreModel t_ThumbCoreModel t_ThumbCoreModel_ok n_ThumbCoreModel hown hK hP hD hS 0 rfl rfl 15 (by decide) (hts _ wf_ThumbCoreModel_59) (fun _ h9 => h9) rfl (by decide +kernel) (tc_nb false) (tc_fb false) (Nat.le_of_ble_eq_true rfl) d_ThumbCoreModel_reset_92 (fun H locs hP hD hS => ?_)
        have hP : va_P D tcl (wd_ThumbCoreModel cI cB cZ h h_memory h_reg h_kept h_pending h_active h_priorities q_size s5 s6 s7 s8 c_keptFlags s4 c_h c_after c_entered false false false c_counts c_counter c_reload c_current c_memory (upd (upd (upd c_reg (13 : Int32).toNatClampNeg (r1 &&& (-4))) (15 : Int32).toNatClampNeg (r3 &&& (-2))) (14 : Int32).toNatClampNeg (-1)) c_kept c_pending c_active c_priorities) H := hP
        have hD : va_D A (wd_ThumbCoreModel cI cB cZ h h_memory h_reg h_kept h_pending h_active h_priorities q_size s5 s6 s7 s8 c_keptFlags s4 c_h c_after c_entered false false false c_counts c_counter c_reload c_current c_memory (upd (upd (upd c_reg (13 : Int32).toNatClampNeg (r1 &&& (-4))) (15 : Int32).toNatClampNeg (r3 &&& (-2))) (14 : Int32).toNatClampNeg (-1)) c_kept c_pending c_active c_priorities) := hD
        refine lv_aload_n hx hb d_ThumbCoreModel_reset_95 rfl (lv_at hl 0 rfl) ?_
        refine lv_iconst (v := 0) hx hb d_ThumbCoreModel_reset_96 (by decide) ?_
        refine va_put (D := D) (ci := 5) (v := .int (bI false)) (ty := .boolean) (C := R_ThumbCoreModel) (T := F_ThumbCoreModel) (N := 23) hx hb hts u_ThumbCoreModel t_ThumbCoreModel t_ThumbCoreModel_ok n_ThumbCoreModel hown hK hP hD hS 0 rfl rfl 16 (by decide) (hts _ wf_ThumbCoreModel_62) (fun _ h9 => h9) rfl (by decide +kernel) (tc_nb false) (tc_fb false) (Nat.le_of_ble_eq_true rfl) d_ThumbCoreModel_reset_97 (fun H locs hP hD hS => ?_)
        have hP : va_P D tcl (wd_ThumbCoreModel cI cB cZ h h_memory h_reg h_kept h_pending h_active h_priorities q_size s5 s6 s7 s8 c_keptFlags s4 c_h c_after c_entered false false false false c_counter c_reload c_current c_memory (upd (upd (upd c_reg (13 : Int32).toNatClampNeg (r1 &&& (-4))) (15 : Int32).toNatClampNeg (r3 &&& (-2))) (14 : Int32).toNatClampNeg (-1)) c_kept c_pending c_active c_priorities) H := hP
        have hD : va_D A (wd_ThumbCoreModel cI cB cZ h h_memory h_reg h_kept h_pending h_active h_priorities q_size s5 s6 s7 s8 c_keptFlags s4 c_h c_after c_entered false false false false c_counter c_reload c_current c_memory (upd (upd (upd c_reg (13 : Int32).toNatClampNeg (r1 &&& (-4))) (15 : Int32).toNatClampNeg (r3 &&& (-2))) (14 : Int32).toNatClampNeg (-1)) c_kept c_pending c_active c_priorities) := hD
        refine lv_aload_n hx hb d_ThumbCoreModel_reset_100 rfl (lv_at hl 0 rfl) ?_
        refine lv_iconst (v := 0) hx hb d_ThumbCoreModel_reset_101 (by decide) ?_
        refine va_put (D := D) (ci := 5) (v := .int 0) (ty := .int) (C := R_ThumbCoreModel) (T := F_ThumbCoreModel) (N := 23) hx hb hts u_ThumbCoreModel t_ThumbCoreModel t_ThumbCoreModel_ok n_ThumbCoreModel hown hK hP hD hS 0 rfl rfl 17 (by decide) (hts _ wf_ThumbCoreModel_65) (fun _ h9 => h9) rfl (by decide +kernel) rfl rfl (Nat.le_of_ble_eq_true rfl) d_ThumbCoreModel_reset_102 (fun H locs hP hD hS => ?_)
        have hP : va_P D tcl (wd_ThumbCoreModel cI cB cZ h h_memory h_reg h_kept h_pending h_active h_priorities q_size s5 s6 s7 s8 c_keptFlags s4 c_h c_after c_entered false false false false 0 c_reload c_current c_memory (upd (upd (upd c_reg (13 : Int32).toNatClampNeg (r1 &&& (-4))) (15 : Int32).toNatClampNeg (r3 &&& (-2))) (14 : Int32).toNatClampNeg (-1)) c_kept c_pending c_active c_priorities) H := hP
        have hD : va_D A (wd_ThumbCoreModel cI cB cZ h h_memory h_reg h_kept h_pending h_active h_priorities q_size s5 s6 s7 s8 c_keptFlags s4 c_h c_after c_entered false false false false 0 c_reload c_current c_memory (upd (upd (upd c_reg (13 : Int32).toNatClampNeg (r1 &&& (-4))) (15 : Int32).toNatClampNeg (r3 &&& (-2))) (14 : Int32).toNatClampNeg (-1)) c_kept c_pending c_active c_priorities) := hD
        refine lv_aload_n hx hb d_ThumbCoreModel_reset_105 rfl (lv_at hl 0 rfl) ?_
        refine lv_iconst (v := 0) hx hb d_ThumbCoreModel_reset_106 (by decide) ?_
        refine va_put (D := D) (ci := 5) (v := .int 0) (ty := .int) (C := R_ThumbCoreModel) (T := F_ThumbCoreModel) (N := 23) hx hb hts u_ThumbCoreModel t_ThumbCoreModel t_ThumbCoreModel_ok n_ThumbCoreModel hown hK hP hD hS 0 rfl rfl 18 (by decide) (hts _ wf_ThumbCoreModel_68) (fun _ h9 => h9) rfl (by decide +kernel) rfl rfl (Nat.le_of_ble_eq_true rfl) d_ThumbCoreModel_reset_107 (fun H locs hP hD hS => ?_)
        have hP : va_P D tcl (wd_ThumbCoreModel cI cB cZ h h_memory h_reg h_kept h_pending h_active h_priorities q_size s5 s6 s7 s8 c_keptFlags s4 c_h c_after c_entered false false false false 0 0 c_current c_memory (upd (upd (upd c_reg (13 : Int32).toNatClampNeg (r1 &&& (-4))) (15 : Int32).toNatClampNeg (r3 &&& (-2))) (14 : Int32).toNatClampNeg (-1)) c_kept c_pending c_active c_priorities) H := hP
        have hD : va_D A (wd_ThumbCoreModel cI cB cZ h h_memory h_reg h_kept h_pending h_active h_priorities q_size s5 s6 s7 s8 c_keptFlags s4 c_h c_after c_entered false false false false 0 0 c_current c_memory (upd (upd (upd c_reg (13 : Int32).toNatClampNeg (r1 &&& (-4))) (15 : Int32).toNatClampNeg (r3 &&& (-2))) (14 : Int32).toNatClampNeg (-1)) c_kept c_pending c_active c_priorities) := hD
        refine lv_aload_n hx hb d_ThumbCoreModel_reset_110 rfl (lv_at hl 0 rfl) ?_
        refine lv_iconst (v := 0) hx hb d_ThumbCoreModel_reset_111 (by decide) ?_
        refine va_put (D := D) (ci := 5) (v := .int 0) (ty := .int) (C := R_ThumbCoreModel) (T := F_ThumbCoreModel) (N := 23) hx hb hts u_ThumbCoreModel t_ThumbCoreModel t_ThumbCoreModel_ok n_ThumbCoreModel hown hK hP hD hS 0 rfl rfl 19 (by decide) (hts _ wf_ThumbCoreModel_71) (fun _ h9 => h9) rfl (by decide +kernel) rfl rfl (Nat.le_of_ble_eq_true rfl) d_ThumbCoreModel_reset_112 (fun H locs hP hD hS => ?_)
        have hP : va_P D tcl (wd_ThumbCoreModel cI cB cZ h h_memory h_reg h_kept h_pending h_active h_priorities q_size s5 s6 s7 s8 c_keptFlags s4 c_h c_after c_entered false false false false 0 0 0 c_memory (upd (upd (upd c_reg (13 : Int32).toNatClampNeg (r1 &&& (-4))) (15 : Int32).toNatClampNeg (r3 &&& (-2))) (14 : Int32).toNatClampNeg (-1)) c_kept c_pending c_active c_priorities) H := hP
        have hD : va_D A (wd_ThumbCoreModel cI cB cZ h h_memory h_reg h_kept h_pending h_active h_priorities q_size s5 s6 s7 s8 c_keptFlags s4 c_h c_after c_entered false false false false 0 0 0 c_memory (upd (upd (upd c_reg (13 : Int32).toNatClampNeg (r1 &&& (-4))) (15 : Int32).toNatClampNeg (r3 &&& (-2))) (14 : Int32).toNatClampNeg (-1)) c_kept c_pending c_active c_priorities) := hD
        exact RET H locs ls 115 (s5, s6, s7, s8, s4, false, false, false, false, 0, 0, 0, (upd (upd (upd c_reg (13 : Int32).toNatClampNeg (r1 &&& (-4))) (15 : Int32).toNatClampNeg (r3 &&& (-2))) (14 : Int32).toNatClampNeg (-1)), c_pending, c_active) d_ThumbCoreModel_reset_115 hP hD hS hq
      · have hq := hq.trans (if_neg g_5)
        have hgd : y1.toInt < ((16 : Nat) : Int) := tc_gge g_5 (by decide)
        refine lv_aload_n hx hb d_ThumbCoreModel_reset_8 rfl (lv_at hl 0 rfl) ?_
        refine va_get (D := D) (ci := 5) (v := .ref h_reg) (C := R_ThumbCoreModel) (T := F_ThumbCoreModel) (N := 23) hx hb hts u_ThumbCoreModel hown hK hP 0 rfl rfl 2 (by decide) (hts _ wf_ThumbCoreModel_13) (fun _ h9 => h9) rfl d_ThumbCoreModel_reset_9 ?_
        refine lv_iload_n hx hb d_ThumbCoreModel_reset_12 rfl (lv_at hl 1 rfl) ?_
        refine lv_iconst (v := 0) hx hb d_ThumbCoreModel_reset_13 (by decide) ?_
        refine va_iast hx hb hK hP hD hS 2 0 rfl rfl (tc_lpI hinv hgd (by decide)) d_ThumbCoreModel_reset_14 (fun H locs hP hD hS => ?_)
        have hP : va_P D tcl (wd_ThumbCoreModel cI cB cZ h h_memory h_reg h_kept h_pending h_active h_priorities q_size c_n c_z c_c c_v c_keptFlags c_bad c_h c_after c_entered c_mask c_asleep c_lockup c_counts c_counter c_reload c_current c_memory (upd c_reg y1.toNatClampNeg 0) c_kept c_pending c_active c_priorities) H := hP
        have hD : va_D A (wd_ThumbCoreModel cI cB cZ h h_memory h_reg h_kept h_pending h_active h_priorities q_size c_n c_z c_c c_v c_keptFlags c_bad c_h c_after c_entered c_mask c_asleep c_lockup c_counts c_counter c_reload c_current c_memory (upd c_reg y1.toNatClampNeg 0) c_kept c_pending c_active c_priorities) := hD
        refine lv_aload_n hx hb d_ThumbCoreModel_reset_15 rfl (lv_at hl 0 rfl) ?_
        refine va_get (D := D) (ci := 5) (v := .ref h_pending) (C := R_ThumbCoreModel) (T := F_ThumbCoreModel) (N := 23) hx hb hts u_ThumbCoreModel hown hK hP 0 rfl rfl 20 (by decide) (hts _ wf_ThumbCoreModel_20) (fun _ h9 => h9) rfl d_ThumbCoreModel_reset_16 ?_
        refine lv_iload_n hx hb d_ThumbCoreModel_reset_19 rfl (lv_at hl 1 rfl) ?_
        refine lv_iconst (v := 0) hx hb d_ThumbCoreModel_reset_20 (by decide) ?_
        refine va_zast (x := bI false) hx hb hK hP hD hS 4 2 rfl rfl (tc_lpI hinv hgd (by decide)) d_ThumbCoreModel_reset_21 (fun H locs hP hD hS => ?_)
        rw [tc_upz] at hP hD
        have hP : va_P D tcl (wd_ThumbCoreModel cI cB cZ h h_memory h_reg h_kept h_pending h_active h_priorities q_size c_n c_z c_c c_v c_keptFlags c_bad c_h c_after c_entered c_mask c_asleep c_lockup c_counts c_counter c_reload c_current c_memory (upd c_reg y1.toNatClampNeg 0) c_kept (va_up c_pending y1.toNatClampNeg false) c_active c_priorities) H := hP
        have hD : va_D A (wd_ThumbCoreModel cI cB cZ h h_memory h_reg h_kept h_pending h_active h_priorities q_size c_n c_z c_c c_v c_keptFlags c_bad c_h c_after c_entered c_mask c_asleep c_lockup c_counts c_counter c_reload c_current c_memory (upd c_reg y1.toNatClampNeg 0) c_kept (va_up c_pending y1.toNatClampNeg false) c_active c_priorities) := hD
        refine lv_aload_n hx hb d_ThumbCoreModel_reset_22 rfl (lv_at hl 0 rfl) ?_
        refine va_get (D := D) (ci := 5) (v := .ref h_active) (C := R_ThumbCoreModel) (T := F_ThumbCoreModel) (N := 23) hx hb hts u_ThumbCoreModel hown hK hP 0 rfl rfl 21 (by decide) (hts _ wf_ThumbCoreModel_24) (fun _ h9 => h9) rfl d_ThumbCoreModel_reset_23 ?_
        refine lv_iload_n hx hb d_ThumbCoreModel_reset_26 rfl (lv_at hl 1 rfl) ?_
        refine lv_iconst (v := 0) hx hb d_ThumbCoreModel_reset_27 (by decide) ?_
        refine va_zast (x := bI false) hx hb hK hP hD hS 5 2 rfl rfl (tc_lpI hinv hgd (by decide)) d_ThumbCoreModel_reset_28 (fun H locs hP hD hS => ?_)
        rw [tc_upz] at hP hD
        have hP : va_P D tcl (wd_ThumbCoreModel cI cB cZ h h_memory h_reg h_kept h_pending h_active h_priorities q_size c_n c_z c_c c_v c_keptFlags c_bad c_h c_after c_entered c_mask c_asleep c_lockup c_counts c_counter c_reload c_current c_memory (upd c_reg y1.toNatClampNeg 0) c_kept (va_up c_pending y1.toNatClampNeg false) (va_up c_active y1.toNatClampNeg false) c_priorities) H := hP
        have hD : va_D A (wd_ThumbCoreModel cI cB cZ h h_memory h_reg h_kept h_pending h_active h_priorities q_size c_n c_z c_c c_v c_keptFlags c_bad c_h c_after c_entered c_mask c_asleep c_lockup c_counts c_counter c_reload c_current c_memory (upd c_reg y1.toNatClampNeg 0) c_kept (va_up c_pending y1.toNatClampNeg false) (va_up c_active y1.toNatClampNeg false) c_priorities) := hD
        refine lv_iinc (k := 1) (v := (y1 + 1)) (lv' := [(1, .int (y1 + 1)), (0, .ref h)]) hx hb d_ThumbCoreModel_reset_29 hl rfl rfl (by decide) rfl (fun ls hl => ?_)
        refine lv_goto (tgt := 2) hx hb d_ThumbCoreModel_reset_32 (by decide) ?_
        exact IH_2 H locs ls c_n c_z c_c c_v c_bad c_mask c_asleep c_lockup c_counts c_counter c_reload c_current (upd c_reg y1.toNatClampNeg 0) (va_up c_pending y1.toNatClampNeg false) (va_up c_active y1.toNatClampNeg false) (y1 + 1) hP hD hS (lv_sub hl [1, 0] rfl) hq (tc_lpS hinv hgd (by decide))
  have hq : FF = f_ThumbCoreModel_reset q_size c_memory c_n c_z c_c c_v c_bad c_mask c_asleep c_lockup c_counts c_counter c_reload c_current c_reg c_pending c_active := hF.symm
  revert hP hD hS
  suffices G : ∀ (H : Heap) (locs : List Loc), va_P D tcl (wd_ThumbCoreModel cI cB cZ h h_memory h_reg h_kept h_pending h_active h_priorities q_size c_n c_z c_c c_v c_keptFlags c_bad c_h c_after c_entered c_mask c_asleep c_lockup c_counts c_counter c_reload c_current c_memory c_reg c_kept c_pending c_active c_priorities) H → va_D A (wd_ThumbCoreModel cI cB cZ h h_memory h_reg h_kept h_pending h_active h_priorities q_size c_n c_z c_c c_v c_keptFlags c_bad c_h c_after c_entered c_mask c_asleep c_lockup c_counts c_counter c_reload c_current c_memory c_reg c_kept c_pending c_active c_priorities) → va_S A s.heap H locs → W p l e rm_ThumbCoreModel_reset s m ([.ref h] : List Value).toArray below meth c H locs 0 0 Q (F0 m 0 ls []) from fun hP hD hS => G _ _ hP hD hS
  intro H locs hP hD hS
  refine lv_iconst (v := 0) hx hb d_ThumbCoreModel_reset_0 (by decide) ?_
  refine lv_istore_n (lv' := [(1, .int 0), (0, .ref h)]) hx hb d_ThumbCoreModel_reset_1 rfl hl (by decide) rfl (fun ls hl => ?_)
  exact J_2 (17) H locs ls c_n c_z c_c c_v c_bad c_mask c_asleep c_lockup c_counts c_counter c_reload c_current c_reg c_pending c_active 0 hP hD hS (lv_sub hl [1, 0] rfl) hq (tc_lpE _)
abbrev rm_ThumbCoreModel_bits : Room := { frames := 1, cells := 0, slots := 0, locals := 24 }
set_option maxHeartbeats 4000000 in
set_option maxRecDepth 100000 in
theorem c_ThumbCoreModel_bits (l : Launch) (D : va_G) (cI cB cZ : ClassId) (h h_memory h_reg h_kept h_pending h_active h_priorities sz : Nat) (q_size : Int32) (c_n : Bool) (c_z : Bool) (c_c : Bool) (c_v : Bool) (c_keptFlags : Int32) (c_bad : Bool) (c_h : Int32) (c_after : Int32) (c_entered : Bool) (c_mask : Bool) (c_asleep : Bool) (c_lockup : Bool) (c_counts : Bool) (c_counter : Int32) (c_reload : Int32) (c_current : Int32) (c_memory : Nat → Int32) (c_reg : Nat → Int32) (c_kept : Nat → Int32) (c_pending : Nat → Bool) (c_active : Nat → Bool) (c_priorities : Nat → Int32) : Met l y_ThumbCoreModel_bits (.code y_ThumbCoreModel_bits b_ThumbCoreModel_bits 1 (some .int) :: tcb) rm_ThumbCoreModel_bits (tc_Pw D tcl (tys cI cB cZ) (wd_ThumbCoreModel cI cB cZ h h_memory h_reg h_kept h_pending h_active h_priorities q_size c_n c_z c_c c_v c_keptFlags c_bad c_h c_after c_entered c_mask c_asleep c_lockup c_counts c_counter c_reload c_current c_memory c_reg c_kept c_pending c_active c_priorities) sz ([.ref h] : List Value) none) (QcRead (f_ThumbCoreModel_bits c_n c_z c_c c_v)) 0 0 (fun _ => False) := by
  refine tc_rd_i (by decide) (Nat.le_of_ble_eq_true rfl) ?_
  intro p e s m below meth c Q ls hx hb hml hts hown hK hN hP hD hl RET
  have hl : lv_has ls 1 [(0, .ref h)] := hl
  generalize hF : f_ThumbCoreModel_bits c_n c_z c_c c_v = FF at RET
  have J_38 : ∀ (ls : Array Slot) (z0 : Int32) (z1 : Int32), lv_has ls 1 [(0, .ref h)] → FF = k_ThumbCoreModel_bits_38 c_n c_z c_c c_v z0 z1 → W p l e rm_ThumbCoreModel_bits s m ([.ref h] : List Value).toArray below meth c s.heap [] 0 0 Q (F0 m 38 ls [.int z1, .int z0]) := by
    intro ls z0 z1 hl hq
    refine lv_iadd hx hb d_ThumbCoreModel_bits_38 ?_
    refine lv_aload_n hx hb d_ThumbCoreModel_bits_39 rfl (lv_at hl 0 rfl) ?_
    refine va_get (D := D) (ci := 5) (v := .int (bI c_v)) (C := R_ThumbCoreModel) (T := F_ThumbCoreModel) (N := 23) hx hb hts u_ThumbCoreModel hown hK hP 0 rfl rfl 6 (by decide) (hts _ wf_ThumbCoreModel_83) (fun _ h9 => h9) rfl d_ThumbCoreModel_bits_40 ?_
    refine lv_if_eq (tgt := 50) hx hb d_ThumbCoreModel_bits_43 (by decide) (fun g_43 => ?_) (fun g_43 => ?_)
    · have hq := hq.trans (if_pos g_43)
      refine lv_iconst (v := 0) hx hb d_ThumbCoreModel_bits_50 (by decide) ?_
      refine lv_iadd hx hb d_ThumbCoreModel_bits_51 ?_
      exact RET ls 52 d_ThumbCoreModel_bits_52 hq
    · have hq := hq.trans (if_neg g_43)
      refine lv_iconst (v := 1) hx hb d_ThumbCoreModel_bits_46 (by decide) ?_
      refine lv_goto (tgt := 51) hx hb d_ThumbCoreModel_bits_47 (by decide) ?_
      refine lv_iadd hx hb d_ThumbCoreModel_bits_51 ?_
      exact RET ls 52 d_ThumbCoreModel_bits_52 hq
  have J_25 : ∀ (ls : Array Slot) (z0 : Int32) (z1 : Int32), lv_has ls 1 [(0, .ref h)] → FF = k_ThumbCoreModel_bits_25 c_n c_z c_c c_v z0 z1 → W p l e rm_ThumbCoreModel_bits s m ([.ref h] : List Value).toArray below meth c s.heap [] 0 0 Q (F0 m 25 ls [.int z1, .int z0]) := by
    intro ls z0 z1 hl hq
    refine lv_iadd hx hb d_ThumbCoreModel_bits_25 ?_
    refine lv_aload_n hx hb d_ThumbCoreModel_bits_26 rfl (lv_at hl 0 rfl) ?_
    refine va_get (D := D) (ci := 5) (v := .int (bI c_c)) (C := R_ThumbCoreModel) (T := F_ThumbCoreModel) (N := 23) hx hb hts u_ThumbCoreModel hown hK hP 0 rfl rfl 5 (by decide) (hts _ wf_ThumbCoreModel_80) (fun _ h9 => h9) rfl d_ThumbCoreModel_bits_27 ?_
    refine lv_if_eq (tgt := 37) hx hb d_ThumbCoreModel_bits_30 (by decide) (fun g_30 => ?_) (fun g_30 => ?_)
    · have hq := hq.trans (if_pos g_30)
      refine lv_iconst (v := 0) hx hb d_ThumbCoreModel_bits_37 (by decide) ?_
      exact J_38 ls (z0 + z1) 0 (lv_sub hl [0] rfl) hq
    · have hq := hq.trans (if_neg g_30)
      refine lv_iconst (v := 2) hx hb d_ThumbCoreModel_bits_33 (by decide) ?_
      refine lv_goto (tgt := 38) hx hb d_ThumbCoreModel_bits_34 (by decide) ?_
      exact J_38 ls (z0 + z1) 2 (lv_sub hl [0] rfl) hq
  have J_13 : ∀ (ls : Array Slot) (z0 : Int32), lv_has ls 1 [(0, .ref h)] → FF = k_ThumbCoreModel_bits_13 c_n c_z c_c c_v z0 → W p l e rm_ThumbCoreModel_bits s m ([.ref h] : List Value).toArray below meth c s.heap [] 0 0 Q (F0 m 13 ls [.int z0]) := by
    intro ls z0 hl hq
    refine lv_aload_n hx hb d_ThumbCoreModel_bits_13 rfl (lv_at hl 0 rfl) ?_
    refine va_get (D := D) (ci := 5) (v := .int (bI c_z)) (C := R_ThumbCoreModel) (T := F_ThumbCoreModel) (N := 23) hx hb hts u_ThumbCoreModel hown hK hP 0 rfl rfl 4 (by decide) (hts _ wf_ThumbCoreModel_77) (fun _ h9 => h9) rfl d_ThumbCoreModel_bits_14 ?_
    refine lv_if_eq (tgt := 24) hx hb d_ThumbCoreModel_bits_17 (by decide) (fun g_17 => ?_) (fun g_17 => ?_)
    · have hq := hq.trans (if_pos g_17)
      refine lv_iconst (v := 0) hx hb d_ThumbCoreModel_bits_24 (by decide) ?_
      exact J_25 ls z0 0 (lv_sub hl [0] rfl) hq
    · have hq := hq.trans (if_neg g_17)
      refine lv_iconst (v := 4) hx hb d_ThumbCoreModel_bits_20 (by decide) ?_
      refine lv_goto (tgt := 25) hx hb d_ThumbCoreModel_bits_21 (by decide) ?_
      exact J_25 ls z0 4 (lv_sub hl [0] rfl) hq
  have hq : FF = f_ThumbCoreModel_bits c_n c_z c_c c_v := hF.symm
  refine lv_aload_n hx hb d_ThumbCoreModel_bits_0 rfl (lv_at hl 0 rfl) ?_
  refine va_get (D := D) (ci := 5) (v := .int (bI c_n)) (C := R_ThumbCoreModel) (T := F_ThumbCoreModel) (N := 23) hx hb hts u_ThumbCoreModel hown hK hP 0 rfl rfl 3 (by decide) (hts _ wf_ThumbCoreModel_74) (fun _ h9 => h9) rfl d_ThumbCoreModel_bits_1 ?_
  refine lv_if_eq (tgt := 12) hx hb d_ThumbCoreModel_bits_4 (by decide) (fun g_4 => ?_) (fun g_4 => ?_)
  · have hq := hq.trans (if_pos g_4)
    refine lv_iconst (v := 0) hx hb d_ThumbCoreModel_bits_12 (by decide) ?_
    exact J_13 ls 0 (lv_sub hl [0] rfl) hq
  · have hq := hq.trans (if_neg g_4)
    refine lv_bipush (v := 8) hx hb d_ThumbCoreModel_bits_7 (by decide) ?_
    refine lv_goto (tgt := 13) hx hb d_ThumbCoreModel_bits_9 (by decide) ?_
    exact J_13 ls 8 (lv_sub hl [0] rfl) hq
abbrev rm_ThumbCoreModel_status : Room := { frames := 2, cells := 0, slots := 0, locals := 44 }
set_option maxHeartbeats 4000000 in
set_option maxRecDepth 100000 in
theorem c_ThumbCoreModel_status (l : Launch) (D : va_G) (cI cB cZ : ClassId) (h h_memory h_reg h_kept h_pending h_active h_priorities sz : Nat) (q_size : Int32) (c_n : Bool) (c_z : Bool) (c_c : Bool) (c_v : Bool) (c_keptFlags : Int32) (c_bad : Bool) (c_h : Int32) (c_after : Int32) (c_entered : Bool) (c_mask : Bool) (c_asleep : Bool) (c_lockup : Bool) (c_counts : Bool) (c_counter : Int32) (c_reload : Int32) (c_current : Int32) (c_memory : Nat → Int32) (c_reg : Nat → Int32) (c_kept : Nat → Int32) (c_pending : Nat → Bool) (c_active : Nat → Bool) (c_priorities : Nat → Int32) : Met l y_ThumbCoreModel_status (.code y_ThumbCoreModel_status b_ThumbCoreModel_status 1 (some .int) :: tcb) rm_ThumbCoreModel_status (tc_Pw D tcl (tys cI cB cZ) (wd_ThumbCoreModel cI cB cZ h h_memory h_reg h_kept h_pending h_active h_priorities q_size c_n c_z c_c c_v c_keptFlags c_bad c_h c_after c_entered c_mask c_asleep c_lockup c_counts c_counter c_reload c_current c_memory c_reg c_kept c_pending c_active c_priorities) sz ([.ref h] : List Value) none) (QcRead (f_ThumbCoreModel_status c_n c_z c_c c_v c_current)) 0 0 (fun _ => False) := by
  refine tc_rd_i (by decide) (Nat.le_of_ble_eq_true rfl) ?_
  intro p e s m below meth c Q ls hx hb hml hts hown hK hN hP hD hl RET
  have hl : lv_has ls 1 [(0, .ref h)] := hl
  generalize hF : f_ThumbCoreModel_status c_n c_z c_c c_v c_current = FF at RET
  have hq : FF = f_ThumbCoreModel_status c_n c_z c_c c_v c_current := hF.symm
  refine lv_aload_n hx hb d_ThumbCoreModel_status_0 rfl (lv_at hl 0 rfl) ?_
  refine tc_rd (va_runV (As := []) (rest := []) ⟨hx, hb, hml, hown, hts⟩ (c_ThumbCoreModel_bits l D cI cB cZ h h_memory h_reg h_kept h_pending h_active h_priorities s.heap.size q_size c_n c_z c_c c_v c_keptFlags c_bad c_h c_after c_entered c_mask c_asleep c_lockup c_counts c_counter c_reload c_current c_memory c_reg c_kept c_pending c_active c_priorities) (cwV 0 hts (tc_gV wl_ThumbCoreModel_86 wm_ThumbCoreModel_bits ws_ThumbCoreModel_bits wi_ThumbCoreModel wc_ThumbCoreModel_bits) rfl rfl rfl (by decide +kernel) ⟨Nat.le_of_ble_eq_true rfl, Nat.le_of_ble_eq_true rfl⟩) (tc_preV hK hN hP hD [0, 1, 2, 3, 4, 5, 6] rfl (by decide) (q0 := 0) rfl rfl) rfl rfl hl.1 rfl (lv_room (Nat.le_of_ble_eq_true rfl)) d_ThumbCoreModel_status_1 (by decide)) ?_
  refine lv_topi (fun v1 e_v1 => ?_)
  have hq := tc_nm hq e_v1
  refine lv_bipush (v := 28) hx hb d_ThumbCoreModel_status_4 (by decide) ?_
  refine lv_ishl hx hb d_ThumbCoreModel_status_6 ?_
  refine lv_ldc (v := 16777216) hx hb hown (hts _ wk_ThumbCoreModel_90) d_ThumbCoreModel_status_7 ?_
  refine lv_ior hx hb d_ThumbCoreModel_status_9 ?_
  refine lv_aload_n hx hb d_ThumbCoreModel_status_10 rfl (lv_at hl 0 rfl) ?_
  refine va_get (D := D) (ci := 5) (v := .int c_current) (C := R_ThumbCoreModel) (T := F_ThumbCoreModel) (N := 23) hx hb hts u_ThumbCoreModel hown hK hP 0 rfl rfl 19 (by decide) (hts _ wf_ThumbCoreModel_71) (fun _ h9 => h9) rfl d_ThumbCoreModel_status_11 ?_
  refine lv_ior hx hb d_ThumbCoreModel_status_14 ?_
  exact RET ls 15 d_ThumbCoreModel_status_15 hq
abbrev rm_ThumbCoreModel_shown : Room := { frames := 1, cells := 0, slots := 0, locals := 24 }
set_option maxHeartbeats 4000000 in
set_option maxRecDepth 100000 in
theorem c_ThumbCoreModel_shown (l : Launch) (D : va_G) (cI cB cZ : ClassId) (h h_memory h_reg h_kept h_pending h_active h_priorities sz : Nat) (q_size : Int32) (c_n : Bool) (c_z : Bool) (c_c : Bool) (c_v : Bool) (c_keptFlags : Int32) (c_bad : Bool) (c_h : Int32) (c_after : Int32) (c_entered : Bool) (c_mask : Bool) (c_asleep : Bool) (c_lockup : Bool) (c_counts : Bool) (c_counter : Int32) (c_reload : Int32) (c_current : Int32) (c_memory : Nat → Int32) (c_reg : Nat → Int32) (c_kept : Nat → Int32) (c_pending : Nat → Bool) (c_active : Nat → Bool) (c_priorities : Nat → Int32) (x1 : Int32) : Met l y_ThumbCoreModel_shown (.code y_ThumbCoreModel_shown b_ThumbCoreModel_shown 2 (some .int) :: tcb) rm_ThumbCoreModel_shown (tc_Pw D tcl (tys cI cB cZ) (wd_ThumbCoreModel cI cB cZ h h_memory h_reg h_kept h_pending h_active h_priorities q_size c_n c_z c_c c_v c_keptFlags c_bad c_h c_after c_entered c_mask c_asleep c_lockup c_counts c_counter c_reload c_current c_memory c_reg c_kept c_pending c_active c_priorities) sz ([.ref h, .int x1] : List Value) none) (tc_Qi D tcl (wd_ThumbCoreModel cI cB cZ h h_memory h_reg h_kept h_pending h_active h_priorities q_size c_n c_z c_c c_v c_keptFlags c_bad c_h c_after c_entered c_mask c_asleep c_lockup c_counts c_counter c_reload c_current c_memory c_reg c_kept c_pending c_active c_priorities) sz (fun u => (wd_ThumbCoreModel cI cB cZ h h_memory h_reg h_kept h_pending h_active h_priorities q_size u.2.1 u.2.2 c_c c_v c_keptFlags c_bad c_h c_after c_entered c_mask c_asleep c_lockup c_counts c_counter c_reload c_current c_memory c_reg c_kept c_pending c_active c_priorities)) (f_ThumbCoreModel_shown c_n c_z x1)) 0 0 (va_A (wd_ThumbCoreModel cI cB cZ h h_memory h_reg h_kept h_pending h_active h_priorities q_size c_n c_z c_c c_v c_keptFlags c_bad c_h c_after c_entered c_mask c_asleep c_lockup c_counts c_counter c_reload c_current c_memory c_reg c_kept c_pending c_active c_priorities) sz) := by
  refine tc_mu_i (by decide) (Nat.le_of_ble_eq_true rfl) ?_
  intro p e s m below meth c A Q ls hx hb hml hts hown hK hN hP hD hA hZ hl RET
  have hS : va_S A s.heap s.heap [] := va_S.rf
  have hl : lv_has ls 2 [(0, .ref h), (1, .int x1)] := hl
  generalize hF : f_ThumbCoreModel_shown c_n c_z x1 = FF at RET
  have J_23 : ∀ (H : Heap) (locs : List Loc) (ls : Array Slot) (c_n : Bool) (c_z : Bool) (y1 : Int32) (z1 : Bool), va_P D tcl (wd_ThumbCoreModel cI cB cZ h h_memory h_reg h_kept h_pending h_active h_priorities q_size c_n c_z c_c c_v c_keptFlags c_bad c_h c_after c_entered c_mask c_asleep c_lockup c_counts c_counter c_reload c_current c_memory c_reg c_kept c_pending c_active c_priorities) H → va_D A (wd_ThumbCoreModel cI cB cZ h h_memory h_reg h_kept h_pending h_active h_priorities q_size c_n c_z c_c c_v c_keptFlags c_bad c_h c_after c_entered c_mask c_asleep c_lockup c_counts c_counter c_reload c_current c_memory c_reg c_kept c_pending c_active c_priorities) → va_S A s.heap H locs → lv_has ls 2 [(1, .int y1)] → FF = k_ThumbCoreModel_shown_23 c_n c_z y1 z1 → W p l e rm_ThumbCoreModel_shown s m ([.ref h, .int x1] : List Value).toArray below meth c H locs 0 0 Q (F0 m 23 ls [.int (bI z1), .ref h]) := by
    intro H locs ls c_n c_z y1 z1 hP hD hS hl hq
    refine va_put (D := D) (ci := 5) (v := .int (bI z1)) (ty := .boolean) (C := R_ThumbCoreModel) (T := F_ThumbCoreModel) (N := 23) hx hb hts u_ThumbCoreModel t_ThumbCoreModel t_ThumbCoreModel_ok n_ThumbCoreModel hown hK hP hD hS 0 rfl rfl 4 (by decide) (hts _ wf_ThumbCoreModel_77) (fun _ h9 => h9) rfl (by decide +kernel) (tc_nb z1) (tc_fb z1) (Nat.le_of_ble_eq_true rfl) d_ThumbCoreModel_shown_23 (fun H locs hP hD hS => ?_)
    have hP : va_P D tcl (wd_ThumbCoreModel cI cB cZ h h_memory h_reg h_kept h_pending h_active h_priorities q_size c_n z1 c_c c_v c_keptFlags c_bad c_h c_after c_entered c_mask c_asleep c_lockup c_counts c_counter c_reload c_current c_memory c_reg c_kept c_pending c_active c_priorities) H := hP
    have hD : va_D A (wd_ThumbCoreModel cI cB cZ h h_memory h_reg h_kept h_pending h_active h_priorities q_size c_n z1 c_c c_v c_keptFlags c_bad c_h c_after c_entered c_mask c_asleep c_lockup c_counts c_counter c_reload c_current c_memory c_reg c_kept c_pending c_active c_priorities) := hD
    refine lv_iload_n hx hb d_ThumbCoreModel_shown_26 rfl (lv_at hl 0 rfl) ?_
    exact RET H locs ls 27 (y1, c_n, z1) d_ThumbCoreModel_shown_27 hP hD hS hq
  have J_10 : ∀ (H : Heap) (locs : List Loc) (ls : Array Slot) (c_n : Bool) (c_z : Bool) (y1 : Int32) (z1 : Bool), va_P D tcl (wd_ThumbCoreModel cI cB cZ h h_memory h_reg h_kept h_pending h_active h_priorities q_size c_n c_z c_c c_v c_keptFlags c_bad c_h c_after c_entered c_mask c_asleep c_lockup c_counts c_counter c_reload c_current c_memory c_reg c_kept c_pending c_active c_priorities) H → va_D A (wd_ThumbCoreModel cI cB cZ h h_memory h_reg h_kept h_pending h_active h_priorities q_size c_n c_z c_c c_v c_keptFlags c_bad c_h c_after c_entered c_mask c_asleep c_lockup c_counts c_counter c_reload c_current c_memory c_reg c_kept c_pending c_active c_priorities) → va_S A s.heap H locs → lv_has ls 2 [(0, .ref h), (1, .int y1)] → FF = k_ThumbCoreModel_shown_10 c_n c_z y1 z1 → W p l e rm_ThumbCoreModel_shown s m ([.ref h, .int x1] : List Value).toArray below meth c H locs 0 0 Q (F0 m 10 ls [.int (bI z1), .ref h]) := by
    intro H locs ls c_n c_z y1 z1 hP hD hS hl hq
    refine va_put (D := D) (ci := 5) (v := .int (bI z1)) (ty := .boolean) (C := R_ThumbCoreModel) (T := F_ThumbCoreModel) (N := 23) hx hb hts u_ThumbCoreModel t_ThumbCoreModel t_ThumbCoreModel_ok n_ThumbCoreModel hown hK hP hD hS 0 rfl rfl 3 (by decide) (hts _ wf_ThumbCoreModel_74) (fun _ h9 => h9) rfl (by decide +kernel) (tc_nb z1) (tc_fb z1) (Nat.le_of_ble_eq_true rfl) d_ThumbCoreModel_shown_10 (fun H locs hP hD hS => ?_)
    have hP : va_P D tcl (wd_ThumbCoreModel cI cB cZ h h_memory h_reg h_kept h_pending h_active h_priorities q_size z1 c_z c_c c_v c_keptFlags c_bad c_h c_after c_entered c_mask c_asleep c_lockup c_counts c_counter c_reload c_current c_memory c_reg c_kept c_pending c_active c_priorities) H := hP
    have hD : va_D A (wd_ThumbCoreModel cI cB cZ h h_memory h_reg h_kept h_pending h_active h_priorities q_size z1 c_z c_c c_v c_keptFlags c_bad c_h c_after c_entered c_mask c_asleep c_lockup c_counts c_counter c_reload c_current c_memory c_reg c_kept c_pending c_active c_priorities) := hD
    refine lv_aload_n hx hb d_ThumbCoreModel_shown_13 rfl (lv_at hl 0 rfl) ?_
    refine lv_iload_n hx hb d_ThumbCoreModel_shown_14 rfl (lv_at hl 1 rfl) ?_
    refine lv_if_ne (tgt := 22) hx hb d_ThumbCoreModel_shown_15 (by decide) (fun g_15 => ?_) (fun g_15 => ?_)
    · have hq := hq.trans (if_pos g_15)
      refine lv_iconst (v := 0) hx hb d_ThumbCoreModel_shown_22 (by decide) ?_
      exact J_23 H locs ls z1 c_z y1 false hP hD hS (lv_sub hl [1] rfl) hq
    · have hq := hq.trans (if_neg (fun g => g g_15))
      refine lv_iconst (v := 1) hx hb d_ThumbCoreModel_shown_18 (by decide) ?_
      refine lv_goto (tgt := 23) hx hb d_ThumbCoreModel_shown_19 (by decide) ?_
      exact J_23 H locs ls z1 c_z y1 true hP hD hS (lv_sub hl [1] rfl) hq
  have hq : FF = f_ThumbCoreModel_shown c_n c_z x1 := hF.symm
  revert hP hD hS
  suffices G : ∀ (H : Heap) (locs : List Loc), va_P D tcl (wd_ThumbCoreModel cI cB cZ h h_memory h_reg h_kept h_pending h_active h_priorities q_size c_n c_z c_c c_v c_keptFlags c_bad c_h c_after c_entered c_mask c_asleep c_lockup c_counts c_counter c_reload c_current c_memory c_reg c_kept c_pending c_active c_priorities) H → va_D A (wd_ThumbCoreModel cI cB cZ h h_memory h_reg h_kept h_pending h_active h_priorities q_size c_n c_z c_c c_v c_keptFlags c_bad c_h c_after c_entered c_mask c_asleep c_lockup c_counts c_counter c_reload c_current c_memory c_reg c_kept c_pending c_active c_priorities) → va_S A s.heap H locs → W p l e rm_ThumbCoreModel_shown s m ([.ref h, .int x1] : List Value).toArray below meth c H locs 0 0 Q (F0 m 0 ls []) from fun hP hD hS => G _ _ hP hD hS
  intro H locs hP hD hS
  refine lv_aload_n hx hb d_ThumbCoreModel_shown_0 rfl (lv_at hl 0 rfl) ?_
  refine lv_iload_n hx hb d_ThumbCoreModel_shown_1 rfl (lv_at hl 1 rfl) ?_
  refine lv_if_ge (tgt := 9) hx hb d_ThumbCoreModel_shown_2 (by decide) (fun g_2 => ?_) (fun g_2 => ?_)
  · have hq := hq.trans (if_pos g_2)
    refine lv_iconst (v := 0) hx hb d_ThumbCoreModel_shown_9 (by decide) ?_
    exact J_10 H locs ls c_n c_z x1 false hP hD hS (lv_sub hl [0, 1] rfl) hq
  · have hq := hq.trans (if_neg g_2)
    refine lv_iconst (v := 1) hx hb d_ThumbCoreModel_shown_5 (by decide) ?_
    refine lv_goto (tgt := 10) hx hb d_ThumbCoreModel_shown_6 (by decide) ?_
    exact J_10 H locs ls c_n c_z x1 true hP hD hS (lv_sub hl [0, 1] rfl) hq
abbrev rm_ThumbCoreModel_sum : Room := { frames := 2, cells := 0, slots := 0, locals := 45 }
set_option maxHeartbeats 4000000 in
set_option maxRecDepth 100000 in
theorem c_ThumbCoreModel_sum (l : Launch) (D : va_G) (cI cB cZ : ClassId) (h h_memory h_reg h_kept h_pending h_active h_priorities sz : Nat) (q_size : Int32) (c_n : Bool) (c_z : Bool) (c_c : Bool) (c_v : Bool) (c_keptFlags : Int32) (c_bad : Bool) (c_h : Int32) (c_after : Int32) (c_entered : Bool) (c_mask : Bool) (c_asleep : Bool) (c_lockup : Bool) (c_counts : Bool) (c_counter : Int32) (c_reload : Int32) (c_current : Int32) (c_memory : Nat → Int32) (c_reg : Nat → Int32) (c_kept : Nat → Int32) (c_pending : Nat → Bool) (c_active : Nat → Bool) (c_priorities : Nat → Int32) (x1 : Int32) (x2 : Int32) (x3 : Int32) : Met l y_ThumbCoreModel_sum (.code y_ThumbCoreModel_sum b_ThumbCoreModel_sum 9 (some .int) :: tcb) rm_ThumbCoreModel_sum (tc_Pw D tcl (tys cI cB cZ) (wd_ThumbCoreModel cI cB cZ h h_memory h_reg h_kept h_pending h_active h_priorities q_size c_n c_z c_c c_v c_keptFlags c_bad c_h c_after c_entered c_mask c_asleep c_lockup c_counts c_counter c_reload c_current c_memory c_reg c_kept c_pending c_active c_priorities) sz ([.ref h, .int x1, .int x2, .int x3] : List Value) none) (tc_Qi D tcl (wd_ThumbCoreModel cI cB cZ h h_memory h_reg h_kept h_pending h_active h_priorities q_size c_n c_z c_c c_v c_keptFlags c_bad c_h c_after c_entered c_mask c_asleep c_lockup c_counts c_counter c_reload c_current c_memory c_reg c_kept c_pending c_active c_priorities) sz (fun u => (wd_ThumbCoreModel cI cB cZ h h_memory h_reg h_kept h_pending h_active h_priorities q_size u.2.1 u.2.2.1 u.2.2.2.1 u.2.2.2.2 c_keptFlags c_bad c_h c_after c_entered c_mask c_asleep c_lockup c_counts c_counter c_reload c_current c_memory c_reg c_kept c_pending c_active c_priorities)) (f_ThumbCoreModel_sum c_n c_z c_c c_v x1 x2 x3)) 0 0 (va_A (wd_ThumbCoreModel cI cB cZ h h_memory h_reg h_kept h_pending h_active h_priorities q_size c_n c_z c_c c_v c_keptFlags c_bad c_h c_after c_entered c_mask c_asleep c_lockup c_counts c_counter c_reload c_current c_memory c_reg c_kept c_pending c_active c_priorities) sz) := by
  refine tc_mu_i (by decide) (Nat.le_of_ble_eq_true rfl) ?_
  intro p e s m below meth c A Q ls hx hb hml hts hown hK hN hP hD hA hZ hl RET
  have hS : va_S A s.heap s.heap [] := va_S.rf
  have hl : lv_has ls 9 [(0, .ref h), (1, .int x1), (2, .int x2), (3, .int x3)] := hl
  generalize hF : f_ThumbCoreModel_sum c_n c_z c_c c_v x1 x2 x3 = FF at RET
  have J_68 : ∀ (H : Heap) (locs : List Loc) (ls : Array Slot) (c_n : Bool) (c_z : Bool) (c_c : Bool) (c_v : Bool) (y4 : Int32) (z1 : Bool), va_P D tcl (wd_ThumbCoreModel cI cB cZ h h_memory h_reg h_kept h_pending h_active h_priorities q_size c_n c_z c_c c_v c_keptFlags c_bad c_h c_after c_entered c_mask c_asleep c_lockup c_counts c_counter c_reload c_current c_memory c_reg c_kept c_pending c_active c_priorities) H → va_D A (wd_ThumbCoreModel cI cB cZ h h_memory h_reg h_kept h_pending h_active h_priorities q_size c_n c_z c_c c_v c_keptFlags c_bad c_h c_after c_entered c_mask c_asleep c_lockup c_counts c_counter c_reload c_current c_memory c_reg c_kept c_pending c_active c_priorities) → va_S A s.heap H locs → lv_has ls 9 [(0, .ref h), (4, .int y4)] → FF = k_ThumbCoreModel_sum_68 c_n c_z c_c c_v y4 z1 → W p l e rm_ThumbCoreModel_sum s m ([.ref h, .int x1, .int x2, .int x3] : List Value).toArray below meth c H locs 0 0 Q (F0 m 68 ls [.int (bI z1), .ref h]) := by
    intro H locs ls c_n c_z c_c c_v y4 z1 hP hD hS hl hq
    refine va_put (D := D) (ci := 5) (v := .int (bI z1)) (ty := .boolean) (C := R_ThumbCoreModel) (T := F_ThumbCoreModel) (N := 23) hx hb hts u_ThumbCoreModel t_ThumbCoreModel t_ThumbCoreModel_ok n_ThumbCoreModel hown hK hP hD hS 0 rfl rfl 6 (by decide) (hts _ wf_ThumbCoreModel_83) (fun _ h9 => h9) rfl (by decide +kernel) (tc_nb z1) (tc_fb z1) (Nat.le_of_ble_eq_true rfl) d_ThumbCoreModel_sum_68 (fun H locs hP hD hS => ?_)
    have hP : va_P D tcl (wd_ThumbCoreModel cI cB cZ h h_memory h_reg h_kept h_pending h_active h_priorities q_size c_n c_z c_c z1 c_keptFlags c_bad c_h c_after c_entered c_mask c_asleep c_lockup c_counts c_counter c_reload c_current c_memory c_reg c_kept c_pending c_active c_priorities) H := hP
    have hD : va_D A (wd_ThumbCoreModel cI cB cZ h h_memory h_reg h_kept h_pending h_active h_priorities q_size c_n c_z c_c z1 c_keptFlags c_bad c_h c_after c_entered c_mask c_asleep c_lockup c_counts c_counter c_reload c_current c_memory c_reg c_kept c_pending c_active c_priorities) := hD
    refine lv_aload_n hx hb d_ThumbCoreModel_sum_71 rfl (lv_at hl 0 rfl) ?_
    refine lv_iload hx hb d_ThumbCoreModel_sum_72 (lv_at hl 1 rfl) ?_
    refine tc_mi (wo := fun u => (wd_ThumbCoreModel cI cB cZ h h_memory h_reg h_kept h_pending h_active h_priorities q_size u.2.1 u.2.2 c_c z1 c_keptFlags c_bad c_h c_after c_entered c_mask c_asleep c_lockup c_counts c_counter c_reload c_current c_memory c_reg c_kept c_pending c_active c_priorities)) (va_runV (As := [.int y4]) (rest := []) ⟨hx, hb, hml, hown, hts⟩ (c_ThumbCoreModel_shown l D cI cB cZ h h_memory h_reg h_kept h_pending h_active h_priorities H.size q_size c_n c_z c_c z1 c_keptFlags c_bad c_h c_after c_entered c_mask c_asleep c_lockup c_counts c_counter c_reload c_current c_memory c_reg c_kept c_pending c_active c_priorities y4) (cwV 1 hts (tc_gV wl_ThumbCoreModel_93 wm_ThumbCoreModel_shown ws_ThumbCoreModel_shown wi_ThumbCoreModel wc_ThumbCoreModel_shown) rfl rfl rfl (by decide +kernel) ⟨Nat.le_of_ble_eq_true rfl, Nat.le_of_ble_eq_true rfl⟩) (tc_preV hK hN hP hD [0, 1, 2, 3, 4, 5, 6] rfl (by decide) (q0 := 0) rfl rfl) rfl rfl hl.1 rfl (lv_room (Nat.le_of_ble_eq_true rfl)) d_ThumbCoreModel_sum_74 (by decide)) hP hD hS hA [0, 1, 2, 3, 4, 5, 6] [] [0, 1, 2, 3, 4, 5, 6] rfl rfl (by decide) (by decide) (by decide) (fun _ => rfl) (fun u H locs hu hP hD hS => ?_)
    obtain ⟨r1, s2, s3⟩ := u
    have hq := hq.trans (un3_eq hu _)
    have e_r1 := hu
    have hP : va_P D tcl (wd_ThumbCoreModel cI cB cZ h h_memory h_reg h_kept h_pending h_active h_priorities q_size s2 s3 c_c z1 c_keptFlags c_bad c_h c_after c_entered c_mask c_asleep c_lockup c_counts c_counter c_reload c_current c_memory c_reg c_kept c_pending c_active c_priorities) H := hP
    have hD : va_D A (wd_ThumbCoreModel cI cB cZ h h_memory h_reg h_kept h_pending h_active h_priorities q_size s2 s3 c_c z1 c_keptFlags c_bad c_h c_after c_entered c_mask c_asleep c_lockup c_counts c_counter c_reload c_current c_memory c_reg c_kept c_pending c_active c_priorities) := hD
    refine W.eq (g2 := F0 m 77 ls [.int r1]) rfl ?_
    exact RET H locs ls 77 (r1, s2, s3, c_c, z1) d_ThumbCoreModel_sum_77 hP hD hS hq
  have J_50 : ∀ (H : Heap) (locs : List Loc) (ls : Array Slot) (c_n : Bool) (c_z : Bool) (c_c : Bool) (c_v : Bool) (y4 : Int32) (y7 : Int64) (z1 : Bool), va_P D tcl (wd_ThumbCoreModel cI cB cZ h h_memory h_reg h_kept h_pending h_active h_priorities q_size c_n c_z c_c c_v c_keptFlags c_bad c_h c_after c_entered c_mask c_asleep c_lockup c_counts c_counter c_reload c_current c_memory c_reg c_kept c_pending c_active c_priorities) H → va_D A (wd_ThumbCoreModel cI cB cZ h h_memory h_reg h_kept h_pending h_active h_priorities q_size c_n c_z c_c c_v c_keptFlags c_bad c_h c_after c_entered c_mask c_asleep c_lockup c_counts c_counter c_reload c_current c_memory c_reg c_kept c_pending c_active c_priorities) → va_S A s.heap H locs → lv_has ls 9 [(0, .ref h), (4, .int y4), (7, .long y7)] → FF = k_ThumbCoreModel_sum_50 c_n c_z c_c c_v y4 y7 z1 → W p l e rm_ThumbCoreModel_sum s m ([.ref h, .int x1, .int x2, .int x3] : List Value).toArray below meth c H locs 0 0 Q (F0 m 50 ls [.int (bI z1), .ref h]) := by
    intro H locs ls c_n c_z c_c c_v y4 y7 z1 hP hD hS hl hq
    refine va_put (D := D) (ci := 5) (v := .int (bI z1)) (ty := .boolean) (C := R_ThumbCoreModel) (T := F_ThumbCoreModel) (N := 23) hx hb hts u_ThumbCoreModel t_ThumbCoreModel t_ThumbCoreModel_ok n_ThumbCoreModel hown hK hP hD hS 0 rfl rfl 5 (by decide) (hts _ wf_ThumbCoreModel_80) (fun _ h9 => h9) rfl (by decide +kernel) (tc_nb z1) (tc_fb z1) (Nat.le_of_ble_eq_true rfl) d_ThumbCoreModel_sum_50 (fun H locs hP hD hS => ?_)
    have hP : va_P D tcl (wd_ThumbCoreModel cI cB cZ h h_memory h_reg h_kept h_pending h_active h_priorities q_size c_n c_z z1 c_v c_keptFlags c_bad c_h c_after c_entered c_mask c_asleep c_lockup c_counts c_counter c_reload c_current c_memory c_reg c_kept c_pending c_active c_priorities) H := hP
    have hD : va_D A (wd_ThumbCoreModel cI cB cZ h h_memory h_reg h_kept h_pending h_active h_priorities q_size c_n c_z z1 c_v c_keptFlags c_bad c_h c_after c_entered c_mask c_asleep c_lockup c_counts c_counter c_reload c_current c_memory c_reg c_kept c_pending c_active c_priorities) := hD
    refine lv_aload_n hx hb d_ThumbCoreModel_sum_53 rfl (lv_at hl 0 rfl) ?_
    refine lv_lload hx hb d_ThumbCoreModel_sum_54 (lv_at hl 2 rfl) ?_
    refine lv_iload hx hb d_ThumbCoreModel_sum_56 (lv_at hl 1 rfl) ?_
    refine lv_i2l (v := y4.toInt64) hx hb d_ThumbCoreModel_sum_58 rfl ?_
    refine W.lcmp hx hb d_ThumbCoreModel_sum_59 ?_
    refine lv_if_eq (tgt := 67) hx hb d_ThumbCoreModel_sum_60 (by decide) (fun g_60 => ?_) (fun g_60 => ?_)
    · have hq := hq.trans (if_pos g_60)
      refine lv_iconst (v := 0) hx hb d_ThumbCoreModel_sum_67 (by decide) ?_
      exact J_68 H locs ls c_n c_z z1 c_v y4 false hP hD hS (lv_sub hl [0, 1] rfl) hq
    · have hq := hq.trans (if_neg g_60)
      refine lv_iconst (v := 1) hx hb d_ThumbCoreModel_sum_63 (by decide) ?_
      refine lv_goto (tgt := 68) hx hb d_ThumbCoreModel_sum_64 (by decide) ?_
      exact J_68 H locs ls c_n c_z z1 c_v y4 true hP hD hS (lv_sub hl [0, 1] rfl) hq
  have hq : FF = f_ThumbCoreModel_sum c_n c_z c_c c_v x1 x2 x3 := hF.symm
  revert hP hD hS
  suffices G : ∀ (H : Heap) (locs : List Loc), va_P D tcl (wd_ThumbCoreModel cI cB cZ h h_memory h_reg h_kept h_pending h_active h_priorities q_size c_n c_z c_c c_v c_keptFlags c_bad c_h c_after c_entered c_mask c_asleep c_lockup c_counts c_counter c_reload c_current c_memory c_reg c_kept c_pending c_active c_priorities) H → va_D A (wd_ThumbCoreModel cI cB cZ h h_memory h_reg h_kept h_pending h_active h_priorities q_size c_n c_z c_c c_v c_keptFlags c_bad c_h c_after c_entered c_mask c_asleep c_lockup c_counts c_counter c_reload c_current c_memory c_reg c_kept c_pending c_active c_priorities) → va_S A s.heap H locs → W p l e rm_ThumbCoreModel_sum s m ([.ref h, .int x1, .int x2, .int x3] : List Value).toArray below meth c H locs 0 0 Q (F0 m 0 ls []) from fun hP hD hS => G _ _ hP hD hS
  intro H locs hP hD hS
  refine lv_iload_n hx hb d_ThumbCoreModel_sum_0 rfl (lv_at hl 1 rfl) ?_
  refine lv_iload_n hx hb d_ThumbCoreModel_sum_1 rfl (lv_at hl 2 rfl) ?_
  refine lv_iadd hx hb d_ThumbCoreModel_sum_2 ?_
  refine lv_iload_n hx hb d_ThumbCoreModel_sum_3 rfl (lv_at hl 3 rfl) ?_
  refine lv_iadd hx hb d_ThumbCoreModel_sum_4 ?_
  refine lv_topi (fun v1 e_v1 => ?_)
  have hq := tc_nm hq e_v1
  refine lv_istore (lv' := [(4, .int v1), (0, .ref h), (1, .int x1), (2, .int x2), (3, .int x3)]) hx hb d_ThumbCoreModel_sum_5 hl (by decide) rfl (fun ls hl => ?_)
  refine lv_iload_n hx hb d_ThumbCoreModel_sum_7 rfl (lv_at hl 2 rfl) ?_
  refine lv_i2l (v := x1.toInt64) hx hb d_ThumbCoreModel_sum_8 rfl ?_
  refine lv_ldc2 (v := 4294967295) hx hb hown (hts _ wk_ThumbCoreModel_91) d_ThumbCoreModel_sum_9 ?_
  refine lv_land hx hb d_ThumbCoreModel_sum_12 ?_
  refine lv_iload_n hx hb d_ThumbCoreModel_sum_13 rfl (lv_at hl 3 rfl) ?_
  refine lv_i2l (v := x2.toInt64) hx hb d_ThumbCoreModel_sum_14 rfl ?_
  refine lv_ldc2 (v := 4294967295) hx hb hown (hts _ wk_ThumbCoreModel_91) d_ThumbCoreModel_sum_15 ?_
  refine lv_land hx hb d_ThumbCoreModel_sum_18 ?_
  refine lv_ladd hx hb d_ThumbCoreModel_sum_19 ?_
  refine lv_iload_n hx hb d_ThumbCoreModel_sum_20 rfl (lv_at hl 4 rfl) ?_
  refine lv_i2l (v := x3.toInt64) hx hb d_ThumbCoreModel_sum_21 rfl ?_
  refine lv_ladd hx hb d_ThumbCoreModel_sum_22 ?_
  refine lv_topl (fun v2 e_v2 => ?_)
  have hq := tc_nm hq e_v2
  refine lv_lstore (lv' := [(5, .long v2), (4, .int v1), (0, .ref h), (1, .int x1), (2, .int x2), (3, .int x3)]) hx hb d_ThumbCoreModel_sum_23 hl (by decide) rfl (fun ls hl => ?_)
  refine lv_iload_n hx hb d_ThumbCoreModel_sum_25 rfl (lv_at hl 3 rfl) ?_
  refine lv_i2l (v := x1.toInt64) hx hb d_ThumbCoreModel_sum_26 rfl ?_
  refine lv_iload_n hx hb d_ThumbCoreModel_sum_27 rfl (lv_at hl 4 rfl) ?_
  refine lv_i2l (v := x2.toInt64) hx hb d_ThumbCoreModel_sum_28 rfl ?_
  refine lv_ladd hx hb d_ThumbCoreModel_sum_29 ?_
  refine lv_iload_n hx hb d_ThumbCoreModel_sum_30 rfl (lv_at hl 5 rfl) ?_
  refine lv_i2l (v := x3.toInt64) hx hb d_ThumbCoreModel_sum_31 rfl ?_
  refine lv_ladd hx hb d_ThumbCoreModel_sum_32 ?_
  refine lv_topl (fun v3 e_v3 => ?_)
  have hq := tc_nm hq e_v3
  refine lv_lstore (lv' := [(7, .long v3), (5, .long v2), (4, .int v1), (0, .ref h), (1, .int x1), (2, .int x2), (3, .int x3)]) hx hb d_ThumbCoreModel_sum_33 hl (by decide) rfl (fun ls hl => ?_)
  refine lv_aload_n hx hb d_ThumbCoreModel_sum_35 rfl (lv_at hl 3 rfl) ?_
  refine lv_lload hx hb d_ThumbCoreModel_sum_36 (lv_at hl 1 rfl) ?_
  refine lv_ldc2 (v := 4294967295) hx hb hown (hts _ wk_ThumbCoreModel_91) d_ThumbCoreModel_sum_38 ?_
  refine W.lcmp hx hb d_ThumbCoreModel_sum_41 ?_
  refine lv_if_le (tgt := 49) hx hb d_ThumbCoreModel_sum_42 (by decide) (fun g_42 => ?_) (fun g_42 => ?_)
  · have hq := hq.trans (if_pos g_42)
    refine lv_iconst (v := 0) hx hb d_ThumbCoreModel_sum_49 (by decide) ?_
    exact J_50 H locs ls c_n c_z c_c c_v v1 v3 false hP hD hS (lv_sub hl [3, 2, 0] rfl) hq
  · have hq := hq.trans (if_neg g_42)
    refine lv_iconst (v := 1) hx hb d_ThumbCoreModel_sum_45 (by decide) ?_
    refine lv_goto (tgt := 50) hx hb d_ThumbCoreModel_sum_46 (by decide) ?_
    exact J_50 H locs ls c_n c_z c_c c_v v1 v3 true hP hD hS (lv_sub hl [3, 2, 0] rfl) hq

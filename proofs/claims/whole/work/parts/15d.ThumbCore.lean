abbrev rm_ThumbCore_loadSigned : Room := { frames := 3, cells := 0, slots := 0, locals := 68 }
set_option maxHeartbeats 4000000 in
set_option maxRecDepth 100000 in
theorem c_ThumbCore_loadSigned (l : Launch) (D : va_G) (cI cB cZ : ClassId) (h h_memory h_memory_words h_registers h_flags h_exceptions h_exceptions_priorities h_counter sz : Nat) (q_memory_size : Int32) (n_memory_words : Nat) (c_asleep : Bool) (c_locked : Bool) (c_next : Int32) (c_memory_words : Nat → Int32) (c_registers : Nat → Int32) (c_flags_negative : Bool) (c_flags_zero : Bool) (c_flags_carry : Bool) (c_flags_overflow : Bool) (c_exceptions_pending : Int32) (c_exceptions_active : Int32) (c_exceptions_current : Int32) (c_exceptions_masked : Bool) (c_exceptions_priorities : Nat → Int32) (c_counter_number : Int32) (c_counter_reload : Int32) (c_counter_on : Bool) (x1 : Int32) (x2 : Int32) (x3 : Int32) (hm : tc_mem q_memory_size n_memory_words) (hi_x1 : vp_in x1 16) (hn : x3 = 1 ∨ x3 = 2 ∨ x3 = 4) : Met l y_ThumbCore_loadSigned (.code y_ThumbCore_loadSigned b_ThumbCore_loadSigned 5 (some .boolean) :: tcb) rm_ThumbCore_loadSigned (tc_Pw D tcl (tys cI cB cZ) (wd_ThumbCore cI cB cZ h h_memory h_memory_words h_registers h_flags h_exceptions h_exceptions_priorities h_counter q_memory_size n_memory_words c_asleep c_locked c_next c_memory_words c_registers c_flags_negative c_flags_zero c_flags_carry c_flags_overflow c_exceptions_pending c_exceptions_active c_exceptions_current c_exceptions_masked c_exceptions_priorities c_counter_number c_counter_reload c_counter_on) sz ([.ref h, .int x1, .int x2, .int x3] : List Value) none) (tc_Qz D tcl (wd_ThumbCore cI cB cZ h h_memory h_memory_words h_registers h_flags h_exceptions h_exceptions_priorities h_counter q_memory_size n_memory_words c_asleep c_locked c_next c_memory_words c_registers c_flags_negative c_flags_zero c_flags_carry c_flags_overflow c_exceptions_pending c_exceptions_active c_exceptions_current c_exceptions_masked c_exceptions_priorities c_counter_number c_counter_reload c_counter_on) sz (fun u => (wd_ThumbCore cI cB cZ h h_memory h_memory_words h_registers h_flags h_exceptions h_exceptions_priorities h_counter q_memory_size n_memory_words c_asleep c_locked c_next c_memory_words u.2 c_flags_negative c_flags_zero c_flags_carry c_flags_overflow c_exceptions_pending c_exceptions_active c_exceptions_current c_exceptions_masked c_exceptions_priorities c_counter_number c_counter_reload c_counter_on)) (f_ThumbCore_loadSigned q_memory_size c_memory_words c_registers x1 x2 x3)) 0 0 (va_A (wd_ThumbCore cI cB cZ h h_memory h_memory_words h_registers h_flags h_exceptions h_exceptions_priorities h_counter q_memory_size n_memory_words c_asleep c_locked c_next c_memory_words c_registers c_flags_negative c_flags_zero c_flags_carry c_flags_overflow c_exceptions_pending c_exceptions_active c_exceptions_current c_exceptions_masked c_exceptions_priorities c_counter_number c_counter_reload c_counter_on) sz) := by
  refine tc_mu_z (by decide) (Nat.le_of_ble_eq_true rfl) ?_
  intro p e s m below meth c A Q ls hx hb hml hts hown hK hN hP hD hA hZ hl RET
  have hS : va_S A s.heap s.heap [] := va_S.rf
  have hl : lv_has ls 5 [(0, .ref h), (1, .int x1), (2, .int x2), (3, .int x3)] := hl
  generalize hF : f_ThumbCore_loadSigned q_memory_size c_memory_words c_registers x1 x2 x3 = FF at RET
  have J_44 : ∀ (H : Heap) (locs : List Loc) (ls : Array Slot) (c_registers : Nat → Int32) (z1 : Int32) (z2 : Int32), va_P D tcl (wd_ThumbCore cI cB cZ h h_memory h_memory_words h_registers h_flags h_exceptions h_exceptions_priorities h_counter q_memory_size n_memory_words c_asleep c_locked c_next c_memory_words c_registers c_flags_negative c_flags_zero c_flags_carry c_flags_overflow c_exceptions_pending c_exceptions_active c_exceptions_current c_exceptions_masked c_exceptions_priorities c_counter_number c_counter_reload c_counter_on) H → va_D A (wd_ThumbCore cI cB cZ h h_memory h_memory_words h_registers h_flags h_exceptions h_exceptions_priorities h_counter q_memory_size n_memory_words c_asleep c_locked c_next c_memory_words c_registers c_flags_negative c_flags_zero c_flags_carry c_flags_overflow c_exceptions_pending c_exceptions_active c_exceptions_current c_exceptions_masked c_exceptions_priorities c_counter_number c_counter_reload c_counter_on) → va_S A s.heap H locs → lv_has ls 5 [] → FF = k_ThumbCore_loadSigned_44 q_memory_size c_memory_words c_registers z1 z2 → (vp_in z1 16) → W p l e rm_ThumbCore_loadSigned s m ([.ref h, .int x1, .int x2, .int x3] : List Value).toArray below meth c H locs 0 0 Q (F0 m 44 ls [.int z2, .int z1, .ref h_registers]) := by
    intro H locs ls c_registers z1 z2 hP hD hS hl hq hi_z1
    refine va_iast hx hb hK hP hD hS 3 0 rfl rfl hi_z1 d_ThumbCore_loadSigned_44 (fun H locs hP hD hS => ?_)
    have hP : va_P D tcl (wd_ThumbCore cI cB cZ h h_memory h_memory_words h_registers h_flags h_exceptions h_exceptions_priorities h_counter q_memory_size n_memory_words c_asleep c_locked c_next c_memory_words (upd c_registers z1.toNatClampNeg z2) c_flags_negative c_flags_zero c_flags_carry c_flags_overflow c_exceptions_pending c_exceptions_active c_exceptions_current c_exceptions_masked c_exceptions_priorities c_counter_number c_counter_reload c_counter_on) H := hP
    have hD : va_D A (wd_ThumbCore cI cB cZ h h_memory h_memory_words h_registers h_flags h_exceptions h_exceptions_priorities h_counter q_memory_size n_memory_words c_asleep c_locked c_next c_memory_words (upd c_registers z1.toNatClampNeg z2) c_flags_negative c_flags_zero c_flags_carry c_flags_overflow c_exceptions_pending c_exceptions_active c_exceptions_current c_exceptions_masked c_exceptions_priorities c_counter_number c_counter_reload c_counter_on) := hD
    refine lv_iconst (v := 1) hx hb d_ThumbCore_loadSigned_45 (by decide) ?_
    exact RET H locs ls 46 (true, (upd c_registers z1.toNatClampNeg z2)) d_ThumbCore_loadSigned_46 hP hD hS hq
  have hq : FF = f_ThumbCore_loadSigned q_memory_size c_memory_words c_registers x1 x2 x3 := hF.symm
  revert hP hD hS
  suffices G : ∀ (H : Heap) (locs : List Loc), va_P D tcl (wd_ThumbCore cI cB cZ h h_memory h_memory_words h_registers h_flags h_exceptions h_exceptions_priorities h_counter q_memory_size n_memory_words c_asleep c_locked c_next c_memory_words c_registers c_flags_negative c_flags_zero c_flags_carry c_flags_overflow c_exceptions_pending c_exceptions_active c_exceptions_current c_exceptions_masked c_exceptions_priorities c_counter_number c_counter_reload c_counter_on) H → va_D A (wd_ThumbCore cI cB cZ h h_memory h_memory_words h_registers h_flags h_exceptions h_exceptions_priorities h_counter q_memory_size n_memory_words c_asleep c_locked c_next c_memory_words c_registers c_flags_negative c_flags_zero c_flags_carry c_flags_overflow c_exceptions_pending c_exceptions_active c_exceptions_current c_exceptions_masked c_exceptions_priorities c_counter_number c_counter_reload c_counter_on) → va_S A s.heap H locs → W p l e rm_ThumbCore_loadSigned s m ([.ref h, .int x1, .int x2, .int x3] : List Value).toArray below meth c H locs 0 0 Q (F0 m 0 ls []) from fun hP hD hS => G _ _ hP hD hS
  intro H locs hP hD hS
  refine lv_aload_n hx hb d_ThumbCore_loadSigned_0 rfl (lv_at hl 0 rfl) ?_
  refine va_get (D := D) (ci := 4) (v := .ref h_memory) (C := R_ThumbCore) (T := F_ThumbCore) (N := 8) hx hb hts u_ThumbCore hown hK hP 0 rfl rfl 0 (by decide) (hts _ wf_ThumbCore_21) (fun _ h9 => h9) rfl d_ThumbCore_loadSigned_1 ?_
  refine lv_iload_n hx hb d_ThumbCore_loadSigned_4 rfl (lv_at hl 2 rfl) ?_
  refine lv_iload_n hx hb d_ThumbCore_loadSigned_5 rfl (lv_at hl 3 rfl) ?_
  refine tc_rd (va_runV (As := [.int x2, .int x3]) (rest := []) ⟨hx, hb, hml, hown, hts⟩ (c_Memory_isThere l D cI cB cZ h_memory h_memory_words H.size q_memory_size n_memory_words c_memory_words x2 x3) (cwV 2 hts (tc_gV wl_ThumbCore_155 wm_Memory_isThere ws_Memory_isThere wi_Memory wc_Memory_isThere) rfl rfl rfl (by decide +kernel) ⟨Nat.le_of_ble_eq_true rfl, Nat.le_of_ble_eq_true rfl⟩) (tc_preV hK hN hP hD [1, 2] rfl (by decide) (q0 := 1) rfl rfl) rfl rfl hl.1 rfl (lv_room (Nat.le_of_ble_eq_true rfl)) d_ThumbCore_loadSigned_6 (by decide)) ?_
  refine tc_topb (fun v1 e_v1 => ?_)
  have hq := tc_nm hq e_v1
  refine lv_if_ne (tgt := 14) hx hb d_ThumbCore_loadSigned_9 (by decide) (fun g_9 => ?_) (fun g_9 => ?_)
  · have hq := hq.trans (if_pos g_9)
    refine lv_aload_n hx hb d_ThumbCore_loadSigned_14 rfl (lv_at hl 0 rfl) ?_
    refine va_get (D := D) (ci := 4) (v := .ref h_memory) (C := R_ThumbCore) (T := F_ThumbCore) (N := 8) hx hb hts u_ThumbCore hown hK hP 0 rfl rfl 0 (by decide) (hts _ wf_ThumbCore_21) (fun _ h9 => h9) rfl d_ThumbCore_loadSigned_15 ?_
    refine lv_iload_n hx hb d_ThumbCore_loadSigned_18 rfl (lv_at hl 2 rfl) ?_
    refine lv_iload_n hx hb d_ThumbCore_loadSigned_19 rfl (lv_at hl 3 rfl) ?_
    refine tc_rd (va_runV (As := [.int x2, .int x3]) (rest := []) ⟨hx, hb, hml, hown, hts⟩ (c_Memory_read l D cI cB cZ h_memory h_memory_words H.size q_memory_size n_memory_words c_memory_words x2 x3 hm (tc_isOk hm hn (tc_bT e_v1 g_9))) (cwV 2 hts (tc_gV wl_ThumbCore_63 wm_Memory_read ws_Memory_read wi_Memory wc_Memory_read) rfl rfl rfl (by decide +kernel) ⟨Nat.le_of_ble_eq_true rfl, Nat.le_of_ble_eq_true rfl⟩) (tc_preV hK hN hP hD [1, 2] rfl (by decide) (q0 := 1) rfl rfl) rfl rfl hl.1 rfl (lv_room (Nat.le_of_ble_eq_true rfl)) d_ThumbCore_loadSigned_20 (by decide)) ?_
    refine lv_topi (fun v2 e_v2 => ?_)
    have hq := tc_nm hq e_v2
    refine lv_istore (lv' := [(4, .int v2), (0, .ref h), (1, .int x1), (2, .int x2), (3, .int x3)]) hx hb d_ThumbCore_loadSigned_23 hl (by decide) rfl (fun ls hl => ?_)
    refine lv_aload_n hx hb d_ThumbCore_loadSigned_25 rfl (lv_at hl 1 rfl) ?_
    refine va_get (D := D) (ci := 4) (v := .ref h_registers) (C := R_ThumbCore) (T := F_ThumbCore) (N := 8) hx hb hts u_ThumbCore hown hK hP 0 rfl rfl 1 (by decide) (hts _ wf_ThumbCore_27) (fun _ h9 => h9) rfl d_ThumbCore_loadSigned_26 ?_
    refine lv_iload_n hx hb d_ThumbCore_loadSigned_29 rfl (lv_at hl 2 rfl) ?_
    refine lv_iload_n hx hb d_ThumbCore_loadSigned_30 rfl (lv_at hl 4 rfl) ?_
    refine lv_iconst (v := 1) hx hb d_ThumbCore_loadSigned_31 (by decide) ?_
    refine lv_icmp_ne (tgt := 41) hx hb d_ThumbCore_loadSigned_32 (by decide) (fun g_32 => ?_) (fun g_32 => ?_)
    · have hq := hq.trans (if_pos g_32)
      refine lv_iload hx hb d_ThumbCore_loadSigned_41 (lv_at hl 0 rfl) ?_
      refine lv_i2s (v := v2.toInt16.toInt32) hx hb d_ThumbCore_loadSigned_43 rfl ?_
      exact J_44 H locs ls c_registers x1 v2.toInt16.toInt32 hP hD hS (lv_sub hl [] rfl) hq hi_x1
    · have hq := hq.trans (if_neg (fun g => g g_32))
      refine lv_iload hx hb d_ThumbCore_loadSigned_35 (lv_at hl 0 rfl) ?_
      refine lv_i2b (v := v2.toInt8.toInt32) hx hb d_ThumbCore_loadSigned_37 rfl ?_
      refine lv_goto (tgt := 44) hx hb d_ThumbCore_loadSigned_38 (by decide) ?_
      exact J_44 H locs ls c_registers x1 v2.toInt8.toInt32 hP hD hS (lv_sub hl [] rfl) hq hi_x1
  · have hq := hq.trans (if_neg (fun g => g g_9))
    refine lv_iconst (v := 0) hx hb d_ThumbCore_loadSigned_12 (by decide) ?_
    exact RET H locs ls 13 (false, c_registers) d_ThumbCore_loadSigned_13 hP hD hS hq
abbrev rm_ThumbCore_atSum : Room := { frames := 4, cells := 0, slots := 0, locals := 92 }
set_option maxHeartbeats 4000000 in
set_option maxRecDepth 100000 in
theorem c_ThumbCore_atSum (l : Launch) (D : va_G) (cI cB cZ : ClassId) (h h_memory h_memory_words h_registers h_flags h_exceptions h_exceptions_priorities h_counter sz : Nat) (q_memory_size : Int32) (n_memory_words : Nat) (c_asleep : Bool) (c_locked : Bool) (c_next : Int32) (c_memory_words : Nat → Int32) (c_registers : Nat → Int32) (c_flags_negative : Bool) (c_flags_zero : Bool) (c_flags_carry : Bool) (c_flags_overflow : Bool) (c_exceptions_pending : Int32) (c_exceptions_active : Int32) (c_exceptions_current : Int32) (c_exceptions_masked : Bool) (c_exceptions_priorities : Nat → Int32) (c_counter_number : Int32) (c_counter_reload : Int32) (c_counter_on : Bool) (x1 : Int32) (hm : tc_mem q_memory_size n_memory_words) : Met l y_ThumbCore_atSum (.code y_ThumbCore_atSum b_ThumbCore_atSum 4 (some .boolean) :: tcb) rm_ThumbCore_atSum (tc_Pw D tcl (tys cI cB cZ) (wd_ThumbCore cI cB cZ h h_memory h_memory_words h_registers h_flags h_exceptions h_exceptions_priorities h_counter q_memory_size n_memory_words c_asleep c_locked c_next c_memory_words c_registers c_flags_negative c_flags_zero c_flags_carry c_flags_overflow c_exceptions_pending c_exceptions_active c_exceptions_current c_exceptions_masked c_exceptions_priorities c_counter_number c_counter_reload c_counter_on) sz ([.ref h, .int x1] : List Value) none) (tc_Qz D tcl (wd_ThumbCore cI cB cZ h h_memory h_memory_words h_registers h_flags h_exceptions h_exceptions_priorities h_counter q_memory_size n_memory_words c_asleep c_locked c_next c_memory_words c_registers c_flags_negative c_flags_zero c_flags_carry c_flags_overflow c_exceptions_pending c_exceptions_active c_exceptions_current c_exceptions_masked c_exceptions_priorities c_counter_number c_counter_reload c_counter_on) sz (fun u => (wd_ThumbCore cI cB cZ h h_memory h_memory_words h_registers h_flags h_exceptions h_exceptions_priorities h_counter q_memory_size n_memory_words c_asleep c_locked c_next u.2.1 u.2.2 c_flags_negative c_flags_zero c_flags_carry c_flags_overflow c_exceptions_pending c_exceptions_active c_exceptions_current c_exceptions_masked c_exceptions_priorities c_counter_number c_counter_reload c_counter_on)) (f_ThumbCore_atSum q_memory_size c_memory_words c_registers x1)) 0 0 (va_A (wd_ThumbCore cI cB cZ h h_memory h_memory_words h_registers h_flags h_exceptions h_exceptions_priorities h_counter q_memory_size n_memory_words c_asleep c_locked c_next c_memory_words c_registers c_flags_negative c_flags_zero c_flags_carry c_flags_overflow c_exceptions_pending c_exceptions_active c_exceptions_current c_exceptions_masked c_exceptions_priorities c_counter_number c_counter_reload c_counter_on) sz) := by
  refine tc_mu_z (by decide) (Nat.le_of_ble_eq_true rfl) ?_
  intro p e s m below meth c A Q ls hx hb hml hts hown hK hN hP hD hA hZ hl RET
  have hS : va_S A s.heap s.heap [] := va_S.rf
  have hl : lv_has ls 4 [(0, .ref h), (1, .int x1)] := hl
  generalize hF : f_ThumbCore_atSum q_memory_size c_memory_words c_registers x1 = FF at RET
  have hq : FF = f_ThumbCore_atSum q_memory_size c_memory_words c_registers x1 := hF.symm
  revert hP hD hS
  suffices G : ∀ (H : Heap) (locs : List Loc), va_P D tcl (wd_ThumbCore cI cB cZ h h_memory h_memory_words h_registers h_flags h_exceptions h_exceptions_priorities h_counter q_memory_size n_memory_words c_asleep c_locked c_next c_memory_words c_registers c_flags_negative c_flags_zero c_flags_carry c_flags_overflow c_exceptions_pending c_exceptions_active c_exceptions_current c_exceptions_masked c_exceptions_priorities c_counter_number c_counter_reload c_counter_on) H → va_D A (wd_ThumbCore cI cB cZ h h_memory h_memory_words h_registers h_flags h_exceptions h_exceptions_priorities h_counter q_memory_size n_memory_words c_asleep c_locked c_next c_memory_words c_registers c_flags_negative c_flags_zero c_flags_carry c_flags_overflow c_exceptions_pending c_exceptions_active c_exceptions_current c_exceptions_masked c_exceptions_priorities c_counter_number c_counter_reload c_counter_on) → va_S A s.heap H locs → W p l e rm_ThumbCore_atSum s m ([.ref h, .int x1] : List Value).toArray below meth c H locs 0 0 Q (F0 m 0 ls []) from fun hP hD hS => G _ _ hP hD hS
  intro H locs hP hD hS
  refine lv_iload_n hx hb d_ThumbCore_atSum_0 rfl (lv_at hl 1 rfl) ?_
  refine lv_bipush (v := 7) hx hb d_ThumbCore_atSum_1 (by decide) ?_
  refine lv_iand hx hb d_ThumbCore_atSum_3 ?_
  refine lv_topi (fun v1 e_v1 => ?_)
  have hq := tc_nm hq e_v1
  refine lv_istore_n (lv' := [(2, .int v1), (0, .ref h), (1, .int x1)]) hx hb d_ThumbCore_atSum_4 rfl hl (by decide) rfl (fun ls hl => ?_)
  refine lv_aload_n hx hb d_ThumbCore_atSum_5 rfl (lv_at hl 1 rfl) ?_
  refine va_get (D := D) (ci := 4) (v := .ref h_registers) (C := R_ThumbCore) (T := F_ThumbCore) (N := 8) hx hb hts u_ThumbCore hown hK hP 0 rfl rfl 1 (by decide) (hts _ wf_ThumbCore_27) (fun _ h9 => h9) rfl d_ThumbCore_atSum_6 ?_
  refine lv_iload_n hx hb d_ThumbCore_atSum_9 rfl (lv_at hl 2 rfl) ?_
  refine lv_iconst (v := 3) hx hb d_ThumbCore_atSum_10 (by decide) ?_
  refine lv_iushr (v := (o_iushr x1 3)) hx hb d_ThumbCore_atSum_11 rfl ?_
  refine lv_bipush (v := 7) hx hb d_ThumbCore_atSum_12 (by decide) ?_
  refine lv_iand hx hb d_ThumbCore_atSum_14 ?_
  refine va_iald hx hb hK hP 3 0 rfl rfl (tc_in7 _) d_ThumbCore_atSum_15 ?_
  refine lv_aload_n hx hb d_ThumbCore_atSum_16 rfl (lv_at hl 1 rfl) ?_
  refine va_get (D := D) (ci := 4) (v := .ref h_registers) (C := R_ThumbCore) (T := F_ThumbCore) (N := 8) hx hb hts u_ThumbCore hown hK hP 0 rfl rfl 1 (by decide) (hts _ wf_ThumbCore_27) (fun _ h9 => h9) rfl d_ThumbCore_atSum_17 ?_
  refine lv_iload_n hx hb d_ThumbCore_atSum_20 rfl (lv_at hl 2 rfl) ?_
  refine lv_bipush (v := 6) hx hb d_ThumbCore_atSum_21 (by decide) ?_
  refine lv_iushr (v := (o_iushr x1 6)) hx hb d_ThumbCore_atSum_23 rfl ?_
  refine lv_bipush (v := 7) hx hb d_ThumbCore_atSum_24 (by decide) ?_
  refine lv_iand hx hb d_ThumbCore_atSum_26 ?_
  refine va_iald hx hb hK hP 3 0 rfl rfl (tc_in7 _) d_ThumbCore_atSum_27 ?_
  refine lv_iadd hx hb d_ThumbCore_atSum_28 ?_
  refine lv_topi (fun v2 e_v2 => ?_)
  have hq := tc_nm hq e_v2
  refine lv_istore_n (lv' := [(3, .int v2), (2, .int v1), (0, .ref h), (1, .int x1)]) hx hb d_ThumbCore_atSum_29 rfl hl (by decide) rfl (fun ls hl => ?_)
  refine lv_iload_n hx hb d_ThumbCore_atSum_30 rfl (lv_at hl 3 rfl) ?_
  refine lv_bipush (v := 9) hx hb d_ThumbCore_atSum_31 (by decide) ?_
  refine lv_iushr (v := (o_iushr x1 9)) hx hb d_ThumbCore_atSum_33 rfl ?_
  refine lv_bipush (v := 7) hx hb d_ThumbCore_atSum_34 (by decide) ?_
  refine lv_iand hx hb d_ThumbCore_atSum_36 ?_
  by_cases g_37_0 : ((o_iushr x1 9) &&& 7) = 0
  · have hq := hq.trans (if_pos g_37_0)
    refine tc_tabIn (k := 0) (off := 43) (tgt := 80) hx hb d_ThumbCore_atSum_37 g_37_0 (by decide) (by decide) (by decide +kernel) (by decide) ?_
    refine lv_aload_n hx hb d_ThumbCore_atSum_80 rfl (lv_at hl 2 rfl) ?_
    refine lv_iload_n hx hb d_ThumbCore_atSum_81 rfl (lv_at hl 1 rfl) ?_
    refine lv_iload_n hx hb d_ThumbCore_atSum_82 rfl (lv_at hl 0 rfl) ?_
    refine lv_iconst (v := 4) hx hb d_ThumbCore_atSum_83 (by decide) ?_
    refine tc_mz (wo := fun u => (wd_ThumbCore cI cB cZ h h_memory h_memory_words h_registers h_flags h_exceptions h_exceptions_priorities h_counter q_memory_size n_memory_words c_asleep c_locked c_next u.2 c_registers c_flags_negative c_flags_zero c_flags_carry c_flags_overflow c_exceptions_pending c_exceptions_active c_exceptions_current c_exceptions_masked c_exceptions_priorities c_counter_number c_counter_reload c_counter_on)) (va_runV (As := [.int v1, .int v2, .int 4]) (rest := []) ⟨hx, hb, hml, hown, hts⟩ (c_ThumbCore_store l D cI cB cZ h h_memory h_memory_words h_registers h_flags h_exceptions h_exceptions_priorities h_counter H.size q_memory_size n_memory_words c_asleep c_locked c_next c_memory_words c_registers c_flags_negative c_flags_zero c_flags_carry c_flags_overflow c_exceptions_pending c_exceptions_active c_exceptions_current c_exceptions_masked c_exceptions_priorities c_counter_number c_counter_reload c_counter_on v1 v2 4 hm (tc_en7 e_v1) (by decide)) (cwV 3 hts (tc_gV wl_ThumbCore_248 wm_ThumbCore_store ws_ThumbCore_store wi_ThumbCore wc_ThumbCore_store) rfl rfl rfl (by decide +kernel) ⟨Nat.le_of_ble_eq_true rfl, Nat.le_of_ble_eq_true rfl⟩) (tc_preV hK hN hP hD [0, 1, 2, 3, 4, 5, 6, 7] rfl (by decide) (q0 := 0) rfl rfl) rfl rfl hl.1 rfl (lv_room (Nat.le_of_ble_eq_true rfl)) d_ThumbCore_atSum_84 (by decide)) hP hD hS hA [0, 1, 2, 3, 4, 5, 6, 7] [] [0, 1, 2, 3, 4, 5, 6, 7] rfl rfl (by decide) (by decide) (by decide) (fun _ => rfl) (fun u H locs hu hP hD hS => ?_)
    obtain ⟨r3, s4⟩ := u
    have hq := hq.trans (un2_eq hu _)
    have e_r3 := hu
    have hP : va_P D tcl (wd_ThumbCore cI cB cZ h h_memory h_memory_words h_registers h_flags h_exceptions h_exceptions_priorities h_counter q_memory_size n_memory_words c_asleep c_locked c_next s4 c_registers c_flags_negative c_flags_zero c_flags_carry c_flags_overflow c_exceptions_pending c_exceptions_active c_exceptions_current c_exceptions_masked c_exceptions_priorities c_counter_number c_counter_reload c_counter_on) H := hP
    have hD : va_D A (wd_ThumbCore cI cB cZ h h_memory h_memory_words h_registers h_flags h_exceptions h_exceptions_priorities h_counter q_memory_size n_memory_words c_asleep c_locked c_next s4 c_registers c_flags_negative c_flags_zero c_flags_carry c_flags_overflow c_exceptions_pending c_exceptions_active c_exceptions_current c_exceptions_masked c_exceptions_priorities c_counter_number c_counter_reload c_counter_on) := hD
    refine W.eq (g2 := F0 m 87 ls [.int (bI r3)]) rfl ?_
    exact RET H locs ls 87 (r3, s4, c_registers) d_ThumbCore_atSum_87 hP hD hS hq
  have hq := hq.trans (if_neg g_37_0)
  by_cases g_37_1 : ((o_iushr x1 9) &&& 7) = 1
  · have hq := hq.trans (if_pos g_37_1)
    refine tc_tabIn (k := 1) (off := 51) (tgt := 88) hx hb d_ThumbCore_atSum_37 g_37_1 (by decide) (by decide) (by decide +kernel) (by decide) ?_
    refine lv_aload_n hx hb d_ThumbCore_atSum_88 rfl (lv_at hl 2 rfl) ?_
    refine lv_iload_n hx hb d_ThumbCore_atSum_89 rfl (lv_at hl 1 rfl) ?_
    refine lv_iload_n hx hb d_ThumbCore_atSum_90 rfl (lv_at hl 0 rfl) ?_
    refine lv_iconst (v := 2) hx hb d_ThumbCore_atSum_91 (by decide) ?_
    refine tc_mz (wo := fun u => (wd_ThumbCore cI cB cZ h h_memory h_memory_words h_registers h_flags h_exceptions h_exceptions_priorities h_counter q_memory_size n_memory_words c_asleep c_locked c_next u.2 c_registers c_flags_negative c_flags_zero c_flags_carry c_flags_overflow c_exceptions_pending c_exceptions_active c_exceptions_current c_exceptions_masked c_exceptions_priorities c_counter_number c_counter_reload c_counter_on)) (va_runV (As := [.int v1, .int v2, .int 2]) (rest := []) ⟨hx, hb, hml, hown, hts⟩ (c_ThumbCore_store l D cI cB cZ h h_memory h_memory_words h_registers h_flags h_exceptions h_exceptions_priorities h_counter H.size q_memory_size n_memory_words c_asleep c_locked c_next c_memory_words c_registers c_flags_negative c_flags_zero c_flags_carry c_flags_overflow c_exceptions_pending c_exceptions_active c_exceptions_current c_exceptions_masked c_exceptions_priorities c_counter_number c_counter_reload c_counter_on v1 v2 2 hm (tc_en7 e_v1) (by decide)) (cwV 3 hts (tc_gV wl_ThumbCore_248 wm_ThumbCore_store ws_ThumbCore_store wi_ThumbCore wc_ThumbCore_store) rfl rfl rfl (by decide +kernel) ⟨Nat.le_of_ble_eq_true rfl, Nat.le_of_ble_eq_true rfl⟩) (tc_preV hK hN hP hD [0, 1, 2, 3, 4, 5, 6, 7] rfl (by decide) (q0 := 0) rfl rfl) rfl rfl hl.1 rfl (lv_room (Nat.le_of_ble_eq_true rfl)) d_ThumbCore_atSum_92 (by decide)) hP hD hS hA [0, 1, 2, 3, 4, 5, 6, 7] [] [0, 1, 2, 3, 4, 5, 6, 7] rfl rfl (by decide) (by decide) (by decide) (fun _ => rfl) (fun u H locs hu hP hD hS => ?_)
    obtain ⟨r5, s6⟩ := u
    have hq := hq.trans (un2_eq hu _)
    have e_r5 := hu
    have hP : va_P D tcl (wd_ThumbCore cI cB cZ h h_memory h_memory_words h_registers h_flags h_exceptions h_exceptions_priorities h_counter q_memory_size n_memory_words c_asleep c_locked c_next s6 c_registers c_flags_negative c_flags_zero c_flags_carry c_flags_overflow c_exceptions_pending c_exceptions_active c_exceptions_current c_exceptions_masked c_exceptions_priorities c_counter_number c_counter_reload c_counter_on) H := hP
    have hD : va_D A (wd_ThumbCore cI cB cZ h h_memory h_memory_words h_registers h_flags h_exceptions h_exceptions_priorities h_counter q_memory_size n_memory_words c_asleep c_locked c_next s6 c_registers c_flags_negative c_flags_zero c_flags_carry c_flags_overflow c_exceptions_pending c_exceptions_active c_exceptions_current c_exceptions_masked c_exceptions_priorities c_counter_number c_counter_reload c_counter_on) := hD
    refine W.eq (g2 := F0 m 95 ls [.int (bI r5)]) rfl ?_
    exact RET H locs ls 95 (r5, s6, c_registers) d_ThumbCore_atSum_95 hP hD hS hq
  have hq := hq.trans (if_neg g_37_1)
  by_cases g_37_2 : ((o_iushr x1 9) &&& 7) = 2
  · have hq := hq.trans (if_pos g_37_2)
    refine tc_tabIn (k := 2) (off := 59) (tgt := 96) hx hb d_ThumbCore_atSum_37 g_37_2 (by decide) (by decide) (by decide +kernel) (by decide) ?_
    refine lv_aload_n hx hb d_ThumbCore_atSum_96 rfl (lv_at hl 2 rfl) ?_
    refine lv_iload_n hx hb d_ThumbCore_atSum_97 rfl (lv_at hl 1 rfl) ?_
    refine lv_iload_n hx hb d_ThumbCore_atSum_98 rfl (lv_at hl 0 rfl) ?_
    refine lv_iconst (v := 1) hx hb d_ThumbCore_atSum_99 (by decide) ?_
    refine tc_mz (wo := fun u => (wd_ThumbCore cI cB cZ h h_memory h_memory_words h_registers h_flags h_exceptions h_exceptions_priorities h_counter q_memory_size n_memory_words c_asleep c_locked c_next u.2 c_registers c_flags_negative c_flags_zero c_flags_carry c_flags_overflow c_exceptions_pending c_exceptions_active c_exceptions_current c_exceptions_masked c_exceptions_priorities c_counter_number c_counter_reload c_counter_on)) (va_runV (As := [.int v1, .int v2, .int 1]) (rest := []) ⟨hx, hb, hml, hown, hts⟩ (c_ThumbCore_store l D cI cB cZ h h_memory h_memory_words h_registers h_flags h_exceptions h_exceptions_priorities h_counter H.size q_memory_size n_memory_words c_asleep c_locked c_next c_memory_words c_registers c_flags_negative c_flags_zero c_flags_carry c_flags_overflow c_exceptions_pending c_exceptions_active c_exceptions_current c_exceptions_masked c_exceptions_priorities c_counter_number c_counter_reload c_counter_on v1 v2 1 hm (tc_en7 e_v1) (by decide)) (cwV 3 hts (tc_gV wl_ThumbCore_248 wm_ThumbCore_store ws_ThumbCore_store wi_ThumbCore wc_ThumbCore_store) rfl rfl rfl (by decide +kernel) ⟨Nat.le_of_ble_eq_true rfl, Nat.le_of_ble_eq_true rfl⟩) (tc_preV hK hN hP hD [0, 1, 2, 3, 4, 5, 6, 7] rfl (by decide) (q0 := 0) rfl rfl) rfl rfl hl.1 rfl (lv_room (Nat.le_of_ble_eq_true rfl)) d_ThumbCore_atSum_100 (by decide)) hP hD hS hA [0, 1, 2, 3, 4, 5, 6, 7] [] [0, 1, 2, 3, 4, 5, 6, 7] rfl rfl (by decide) (by decide) (by decide) (fun _ => rfl) (fun u H locs hu hP hD hS => ?_)
    obtain ⟨r7, s8⟩ := u
    have hq := hq.trans (un2_eq hu _)
    have e_r7 := hu
    have hP : va_P D tcl (wd_ThumbCore cI cB cZ h h_memory h_memory_words h_registers h_flags h_exceptions h_exceptions_priorities h_counter q_memory_size n_memory_words c_asleep c_locked c_next s8 c_registers c_flags_negative c_flags_zero c_flags_carry c_flags_overflow c_exceptions_pending c_exceptions_active c_exceptions_current c_exceptions_masked c_exceptions_priorities c_counter_number c_counter_reload c_counter_on) H := hP
    have hD : va_D A (wd_ThumbCore cI cB cZ h h_memory h_memory_words h_registers h_flags h_exceptions h_exceptions_priorities h_counter q_memory_size n_memory_words c_asleep c_locked c_next s8 c_registers c_flags_negative c_flags_zero c_flags_carry c_flags_overflow c_exceptions_pending c_exceptions_active c_exceptions_current c_exceptions_masked c_exceptions_priorities c_counter_number c_counter_reload c_counter_on) := hD
    refine W.eq (g2 := F0 m 103 ls [.int (bI r7)]) rfl ?_
    exact RET H locs ls 103 (r7, s8, c_registers) d_ThumbCore_atSum_103 hP hD hS hq
  have hq := hq.trans (if_neg g_37_2)
  by_cases g_37_3 : ((o_iushr x1 9) &&& 7) = 3
  · have hq := hq.trans (if_pos g_37_3)
    refine tc_tabIn (k := 3) (off := 67) (tgt := 104) hx hb d_ThumbCore_atSum_37 g_37_3 (by decide) (by decide) (by decide +kernel) (by decide) ?_
    refine lv_aload_n hx hb d_ThumbCore_atSum_104 rfl (lv_at hl 2 rfl) ?_
    refine lv_iload_n hx hb d_ThumbCore_atSum_105 rfl (lv_at hl 1 rfl) ?_
    refine lv_iload_n hx hb d_ThumbCore_atSum_106 rfl (lv_at hl 0 rfl) ?_
    refine lv_iconst (v := 1) hx hb d_ThumbCore_atSum_107 (by decide) ?_
    refine tc_mz (wo := fun u => (wd_ThumbCore cI cB cZ h h_memory h_memory_words h_registers h_flags h_exceptions h_exceptions_priorities h_counter q_memory_size n_memory_words c_asleep c_locked c_next c_memory_words u.2 c_flags_negative c_flags_zero c_flags_carry c_flags_overflow c_exceptions_pending c_exceptions_active c_exceptions_current c_exceptions_masked c_exceptions_priorities c_counter_number c_counter_reload c_counter_on)) (va_runV (As := [.int v1, .int v2, .int 1]) (rest := []) ⟨hx, hb, hml, hown, hts⟩ (c_ThumbCore_loadSigned l D cI cB cZ h h_memory h_memory_words h_registers h_flags h_exceptions h_exceptions_priorities h_counter H.size q_memory_size n_memory_words c_asleep c_locked c_next c_memory_words c_registers c_flags_negative c_flags_zero c_flags_carry c_flags_overflow c_exceptions_pending c_exceptions_active c_exceptions_current c_exceptions_masked c_exceptions_priorities c_counter_number c_counter_reload c_counter_on v1 v2 1 hm (tc_en7 e_v1) (by decide)) (cwV 3 hts (tc_gV wl_ThumbCore_251 wm_ThumbCore_loadSigned ws_ThumbCore_loadSigned wi_ThumbCore wc_ThumbCore_loadSigned) rfl rfl rfl (by decide +kernel) ⟨Nat.le_of_ble_eq_true rfl, Nat.le_of_ble_eq_true rfl⟩) (tc_preV hK hN hP hD [0, 1, 2, 3, 4, 5, 6, 7] rfl (by decide) (q0 := 0) rfl rfl) rfl rfl hl.1 rfl (lv_room (Nat.le_of_ble_eq_true rfl)) d_ThumbCore_atSum_108 (by decide)) hP hD hS hA [0, 1, 2, 3, 4, 5, 6, 7] [] [0, 1, 2, 3, 4, 5, 6, 7] rfl rfl (by decide) (by decide) (by decide) (fun _ => rfl) (fun u H locs hu hP hD hS => ?_)
    obtain ⟨r9, s10⟩ := u
    have hq := hq.trans (un2_eq hu _)
    have e_r9 := hu
    have hP : va_P D tcl (wd_ThumbCore cI cB cZ h h_memory h_memory_words h_registers h_flags h_exceptions h_exceptions_priorities h_counter q_memory_size n_memory_words c_asleep c_locked c_next c_memory_words s10 c_flags_negative c_flags_zero c_flags_carry c_flags_overflow c_exceptions_pending c_exceptions_active c_exceptions_current c_exceptions_masked c_exceptions_priorities c_counter_number c_counter_reload c_counter_on) H := hP
    have hD : va_D A (wd_ThumbCore cI cB cZ h h_memory h_memory_words h_registers h_flags h_exceptions h_exceptions_priorities h_counter q_memory_size n_memory_words c_asleep c_locked c_next c_memory_words s10 c_flags_negative c_flags_zero c_flags_carry c_flags_overflow c_exceptions_pending c_exceptions_active c_exceptions_current c_exceptions_masked c_exceptions_priorities c_counter_number c_counter_reload c_counter_on) := hD
    refine W.eq (g2 := F0 m 111 ls [.int (bI r9)]) rfl ?_
    exact RET H locs ls 111 (r9, c_memory_words, s10) d_ThumbCore_atSum_111 hP hD hS hq
  have hq := hq.trans (if_neg g_37_3)
  by_cases g_37_4 : ((o_iushr x1 9) &&& 7) = 4
  · have hq := hq.trans (if_pos g_37_4)
    refine tc_tabIn (k := 4) (off := 75) (tgt := 112) hx hb d_ThumbCore_atSum_37 g_37_4 (by decide) (by decide) (by decide +kernel) (by decide) ?_
    refine lv_aload_n hx hb d_ThumbCore_atSum_112 rfl (lv_at hl 2 rfl) ?_
    refine lv_iload_n hx hb d_ThumbCore_atSum_113 rfl (lv_at hl 1 rfl) ?_
    refine lv_iload_n hx hb d_ThumbCore_atSum_114 rfl (lv_at hl 0 rfl) ?_
    refine lv_iconst (v := 4) hx hb d_ThumbCore_atSum_115 (by decide) ?_
    refine tc_mz (wo := fun u => (wd_ThumbCore cI cB cZ h h_memory h_memory_words h_registers h_flags h_exceptions h_exceptions_priorities h_counter q_memory_size n_memory_words c_asleep c_locked c_next c_memory_words u.2 c_flags_negative c_flags_zero c_flags_carry c_flags_overflow c_exceptions_pending c_exceptions_active c_exceptions_current c_exceptions_masked c_exceptions_priorities c_counter_number c_counter_reload c_counter_on)) (va_runV (As := [.int v1, .int v2, .int 4]) (rest := []) ⟨hx, hb, hml, hown, hts⟩ (c_ThumbCore_load l D cI cB cZ h h_memory h_memory_words h_registers h_flags h_exceptions h_exceptions_priorities h_counter H.size q_memory_size n_memory_words c_asleep c_locked c_next c_memory_words c_registers c_flags_negative c_flags_zero c_flags_carry c_flags_overflow c_exceptions_pending c_exceptions_active c_exceptions_current c_exceptions_masked c_exceptions_priorities c_counter_number c_counter_reload c_counter_on v1 v2 4 hm (tc_en7 e_v1) (by decide)) (cwV 3 hts (tc_gV wl_ThumbCore_244 wm_ThumbCore_load ws_ThumbCore_load wi_ThumbCore wc_ThumbCore_load) rfl rfl rfl (by decide +kernel) ⟨Nat.le_of_ble_eq_true rfl, Nat.le_of_ble_eq_true rfl⟩) (tc_preV hK hN hP hD [0, 1, 2, 3, 4, 5, 6, 7] rfl (by decide) (q0 := 0) rfl rfl) rfl rfl hl.1 rfl (lv_room (Nat.le_of_ble_eq_true rfl)) d_ThumbCore_atSum_116 (by decide)) hP hD hS hA [0, 1, 2, 3, 4, 5, 6, 7] [] [0, 1, 2, 3, 4, 5, 6, 7] rfl rfl (by decide) (by decide) (by decide) (fun _ => rfl) (fun u H locs hu hP hD hS => ?_)
    obtain ⟨r11, s12⟩ := u
    have hq := hq.trans (un2_eq hu _)
    have e_r11 := hu
    have hP : va_P D tcl (wd_ThumbCore cI cB cZ h h_memory h_memory_words h_registers h_flags h_exceptions h_exceptions_priorities h_counter q_memory_size n_memory_words c_asleep c_locked c_next c_memory_words s12 c_flags_negative c_flags_zero c_flags_carry c_flags_overflow c_exceptions_pending c_exceptions_active c_exceptions_current c_exceptions_masked c_exceptions_priorities c_counter_number c_counter_reload c_counter_on) H := hP
    have hD : va_D A (wd_ThumbCore cI cB cZ h h_memory h_memory_words h_registers h_flags h_exceptions h_exceptions_priorities h_counter q_memory_size n_memory_words c_asleep c_locked c_next c_memory_words s12 c_flags_negative c_flags_zero c_flags_carry c_flags_overflow c_exceptions_pending c_exceptions_active c_exceptions_current c_exceptions_masked c_exceptions_priorities c_counter_number c_counter_reload c_counter_on) := hD
    refine W.eq (g2 := F0 m 119 ls [.int (bI r11)]) rfl ?_
    exact RET H locs ls 119 (r11, c_memory_words, s12) d_ThumbCore_atSum_119 hP hD hS hq
  have hq := hq.trans (if_neg g_37_4)
  by_cases g_37_5 : ((o_iushr x1 9) &&& 7) = 5
  · have hq := hq.trans (if_pos g_37_5)
    refine tc_tabIn (k := 5) (off := 83) (tgt := 120) hx hb d_ThumbCore_atSum_37 g_37_5 (by decide) (by decide) (by decide +kernel) (by decide) ?_
    refine lv_aload_n hx hb d_ThumbCore_atSum_120 rfl (lv_at hl 2 rfl) ?_
    refine lv_iload_n hx hb d_ThumbCore_atSum_121 rfl (lv_at hl 1 rfl) ?_
    refine lv_iload_n hx hb d_ThumbCore_atSum_122 rfl (lv_at hl 0 rfl) ?_
    refine lv_iconst (v := 2) hx hb d_ThumbCore_atSum_123 (by decide) ?_
    refine tc_mz (wo := fun u => (wd_ThumbCore cI cB cZ h h_memory h_memory_words h_registers h_flags h_exceptions h_exceptions_priorities h_counter q_memory_size n_memory_words c_asleep c_locked c_next c_memory_words u.2 c_flags_negative c_flags_zero c_flags_carry c_flags_overflow c_exceptions_pending c_exceptions_active c_exceptions_current c_exceptions_masked c_exceptions_priorities c_counter_number c_counter_reload c_counter_on)) (va_runV (As := [.int v1, .int v2, .int 2]) (rest := []) ⟨hx, hb, hml, hown, hts⟩ (c_ThumbCore_load l D cI cB cZ h h_memory h_memory_words h_registers h_flags h_exceptions h_exceptions_priorities h_counter H.size q_memory_size n_memory_words c_asleep c_locked c_next c_memory_words c_registers c_flags_negative c_flags_zero c_flags_carry c_flags_overflow c_exceptions_pending c_exceptions_active c_exceptions_current c_exceptions_masked c_exceptions_priorities c_counter_number c_counter_reload c_counter_on v1 v2 2 hm (tc_en7 e_v1) (by decide)) (cwV 3 hts (tc_gV wl_ThumbCore_244 wm_ThumbCore_load ws_ThumbCore_load wi_ThumbCore wc_ThumbCore_load) rfl rfl rfl (by decide +kernel) ⟨Nat.le_of_ble_eq_true rfl, Nat.le_of_ble_eq_true rfl⟩) (tc_preV hK hN hP hD [0, 1, 2, 3, 4, 5, 6, 7] rfl (by decide) (q0 := 0) rfl rfl) rfl rfl hl.1 rfl (lv_room (Nat.le_of_ble_eq_true rfl)) d_ThumbCore_atSum_124 (by decide)) hP hD hS hA [0, 1, 2, 3, 4, 5, 6, 7] [] [0, 1, 2, 3, 4, 5, 6, 7] rfl rfl (by decide) (by decide) (by decide) (fun _ => rfl) (fun u H locs hu hP hD hS => ?_)
    obtain ⟨r13, s14⟩ := u
    have hq := hq.trans (un2_eq hu _)
    have e_r13 := hu
    have hP : va_P D tcl (wd_ThumbCore cI cB cZ h h_memory h_memory_words h_registers h_flags h_exceptions h_exceptions_priorities h_counter q_memory_size n_memory_words c_asleep c_locked c_next c_memory_words s14 c_flags_negative c_flags_zero c_flags_carry c_flags_overflow c_exceptions_pending c_exceptions_active c_exceptions_current c_exceptions_masked c_exceptions_priorities c_counter_number c_counter_reload c_counter_on) H := hP
    have hD : va_D A (wd_ThumbCore cI cB cZ h h_memory h_memory_words h_registers h_flags h_exceptions h_exceptions_priorities h_counter q_memory_size n_memory_words c_asleep c_locked c_next c_memory_words s14 c_flags_negative c_flags_zero c_flags_carry c_flags_overflow c_exceptions_pending c_exceptions_active c_exceptions_current c_exceptions_masked c_exceptions_priorities c_counter_number c_counter_reload c_counter_on) := hD
    refine W.eq (g2 := F0 m 127 ls [.int (bI r13)]) rfl ?_
    exact RET H locs ls 127 (r13, c_memory_words, s14) d_ThumbCore_atSum_127 hP hD hS hq
  have hq := hq.trans (if_neg g_37_5)
  by_cases g_37_6 : ((o_iushr x1 9) &&& 7) = 6
  · have hq := hq.trans (if_pos g_37_6)
    refine tc_tabIn (k := 6) (off := 91) (tgt := 128) hx hb d_ThumbCore_atSum_37 g_37_6 (by decide) (by decide) (by decide +kernel) (by decide) ?_
    refine lv_aload_n hx hb d_ThumbCore_atSum_128 rfl (lv_at hl 2 rfl) ?_
    refine lv_iload_n hx hb d_ThumbCore_atSum_129 rfl (lv_at hl 1 rfl) ?_
    refine lv_iload_n hx hb d_ThumbCore_atSum_130 rfl (lv_at hl 0 rfl) ?_
    refine lv_iconst (v := 1) hx hb d_ThumbCore_atSum_131 (by decide) ?_
    refine tc_mz (wo := fun u => (wd_ThumbCore cI cB cZ h h_memory h_memory_words h_registers h_flags h_exceptions h_exceptions_priorities h_counter q_memory_size n_memory_words c_asleep c_locked c_next c_memory_words u.2 c_flags_negative c_flags_zero c_flags_carry c_flags_overflow c_exceptions_pending c_exceptions_active c_exceptions_current c_exceptions_masked c_exceptions_priorities c_counter_number c_counter_reload c_counter_on)) (va_runV (As := [.int v1, .int v2, .int 1]) (rest := []) ⟨hx, hb, hml, hown, hts⟩ (c_ThumbCore_load l D cI cB cZ h h_memory h_memory_words h_registers h_flags h_exceptions h_exceptions_priorities h_counter H.size q_memory_size n_memory_words c_asleep c_locked c_next c_memory_words c_registers c_flags_negative c_flags_zero c_flags_carry c_flags_overflow c_exceptions_pending c_exceptions_active c_exceptions_current c_exceptions_masked c_exceptions_priorities c_counter_number c_counter_reload c_counter_on v1 v2 1 hm (tc_en7 e_v1) (by decide)) (cwV 3 hts (tc_gV wl_ThumbCore_244 wm_ThumbCore_load ws_ThumbCore_load wi_ThumbCore wc_ThumbCore_load) rfl rfl rfl (by decide +kernel) ⟨Nat.le_of_ble_eq_true rfl, Nat.le_of_ble_eq_true rfl⟩) (tc_preV hK hN hP hD [0, 1, 2, 3, 4, 5, 6, 7] rfl (by decide) (q0 := 0) rfl rfl) rfl rfl hl.1 rfl (lv_room (Nat.le_of_ble_eq_true rfl)) d_ThumbCore_atSum_132 (by decide)) hP hD hS hA [0, 1, 2, 3, 4, 5, 6, 7] [] [0, 1, 2, 3, 4, 5, 6, 7] rfl rfl (by decide) (by decide) (by decide) (fun _ => rfl) (fun u H locs hu hP hD hS => ?_)
    obtain ⟨r15, s16⟩ := u
    have hq := hq.trans (un2_eq hu _)
    have e_r15 := hu
    have hP : va_P D tcl (wd_ThumbCore cI cB cZ h h_memory h_memory_words h_registers h_flags h_exceptions h_exceptions_priorities h_counter q_memory_size n_memory_words c_asleep c_locked c_next c_memory_words s16 c_flags_negative c_flags_zero c_flags_carry c_flags_overflow c_exceptions_pending c_exceptions_active c_exceptions_current c_exceptions_masked c_exceptions_priorities c_counter_number c_counter_reload c_counter_on) H := hP
    have hD : va_D A (wd_ThumbCore cI cB cZ h h_memory h_memory_words h_registers h_flags h_exceptions h_exceptions_priorities h_counter q_memory_size n_memory_words c_asleep c_locked c_next c_memory_words s16 c_flags_negative c_flags_zero c_flags_carry c_flags_overflow c_exceptions_pending c_exceptions_active c_exceptions_current c_exceptions_masked c_exceptions_priorities c_counter_number c_counter_reload c_counter_on) := hD
    refine W.eq (g2 := F0 m 135 ls [.int (bI r15)]) rfl ?_
    exact RET H locs ls 135 (r15, c_memory_words, s16) d_ThumbCore_atSum_135 hP hD hS hq
  have hq := hq.trans (if_neg g_37_6)
  have DF : W p l e rm_ThumbCore_atSum s m ([.ref h, .int x1] : List Value).toArray below meth c H locs 0 0 Q (F0 m 136 ls []) := by
    refine lv_aload_n hx hb d_ThumbCore_atSum_136 rfl (lv_at hl 2 rfl) ?_
    refine lv_iload_n hx hb d_ThumbCore_atSum_137 rfl (lv_at hl 1 rfl) ?_
    refine lv_iload_n hx hb d_ThumbCore_atSum_138 rfl (lv_at hl 0 rfl) ?_
    refine lv_iconst (v := 2) hx hb d_ThumbCore_atSum_139 (by decide) ?_
    refine tc_mz (wo := fun u => (wd_ThumbCore cI cB cZ h h_memory h_memory_words h_registers h_flags h_exceptions h_exceptions_priorities h_counter q_memory_size n_memory_words c_asleep c_locked c_next c_memory_words u.2 c_flags_negative c_flags_zero c_flags_carry c_flags_overflow c_exceptions_pending c_exceptions_active c_exceptions_current c_exceptions_masked c_exceptions_priorities c_counter_number c_counter_reload c_counter_on)) (va_runV (As := [.int v1, .int v2, .int 2]) (rest := []) ⟨hx, hb, hml, hown, hts⟩ (c_ThumbCore_loadSigned l D cI cB cZ h h_memory h_memory_words h_registers h_flags h_exceptions h_exceptions_priorities h_counter H.size q_memory_size n_memory_words c_asleep c_locked c_next c_memory_words c_registers c_flags_negative c_flags_zero c_flags_carry c_flags_overflow c_exceptions_pending c_exceptions_active c_exceptions_current c_exceptions_masked c_exceptions_priorities c_counter_number c_counter_reload c_counter_on v1 v2 2 hm (tc_en7 e_v1) (by decide)) (cwV 3 hts (tc_gV wl_ThumbCore_251 wm_ThumbCore_loadSigned ws_ThumbCore_loadSigned wi_ThumbCore wc_ThumbCore_loadSigned) rfl rfl rfl (by decide +kernel) ⟨Nat.le_of_ble_eq_true rfl, Nat.le_of_ble_eq_true rfl⟩) (tc_preV hK hN hP hD [0, 1, 2, 3, 4, 5, 6, 7] rfl (by decide) (q0 := 0) rfl rfl) rfl rfl hl.1 rfl (lv_room (Nat.le_of_ble_eq_true rfl)) d_ThumbCore_atSum_140 (by decide)) hP hD hS hA [0, 1, 2, 3, 4, 5, 6, 7] [] [0, 1, 2, 3, 4, 5, 6, 7] rfl rfl (by decide) (by decide) (by decide) (fun _ => rfl) (fun u H locs hu hP hD hS => ?_)
    obtain ⟨r17, s18⟩ := u
    have hq := hq.trans (un2_eq hu _)
    have e_r17 := hu
    have hP : va_P D tcl (wd_ThumbCore cI cB cZ h h_memory h_memory_words h_registers h_flags h_exceptions h_exceptions_priorities h_counter q_memory_size n_memory_words c_asleep c_locked c_next c_memory_words s18 c_flags_negative c_flags_zero c_flags_carry c_flags_overflow c_exceptions_pending c_exceptions_active c_exceptions_current c_exceptions_masked c_exceptions_priorities c_counter_number c_counter_reload c_counter_on) H := hP
    have hD : va_D A (wd_ThumbCore cI cB cZ h h_memory h_memory_words h_registers h_flags h_exceptions h_exceptions_priorities h_counter q_memory_size n_memory_words c_asleep c_locked c_next c_memory_words s18 c_flags_negative c_flags_zero c_flags_carry c_flags_overflow c_exceptions_pending c_exceptions_active c_exceptions_current c_exceptions_masked c_exceptions_priorities c_counter_number c_counter_reload c_counter_on) := hD
    refine W.eq (g2 := F0 m 143 ls [.int (bI r17)]) rfl ?_
    exact RET H locs ls 143 (r17, c_memory_words, s18) d_ThumbCore_atSum_143 hP hD hS hq
  exact lv_tableOut (x := ((o_iushr x1 9) &&& 7)) hx hb d_ThumbCore_atSum_37 (by have n0 := tc_ne (j := 0) g_37_0 (by decide); have n1 := tc_ne (j := 1) g_37_1 (by decide); have n2 := tc_ne (j := 2) g_37_2 (by decide); have n3 := tc_ne (j := 3) g_37_3 (by decide); have n4 := tc_ne (j := 4) g_37_4 (by decide); have n5 := tc_ne (j := 5) g_37_5 (by decide); have n6 := tc_ne (j := 6) g_37_6 (by decide); omega) (by decide) DF
abbrev rm_ThumbCore_atOffset : Room := { frames := 4, cells := 0, slots := 0, locals := 92 }
set_option maxHeartbeats 4000000 in
set_option maxRecDepth 100000 in
theorem c_ThumbCore_atOffset (l : Launch) (D : va_G) (cI cB cZ : ClassId) (h h_memory h_memory_words h_registers h_flags h_exceptions h_exceptions_priorities h_counter sz : Nat) (q_memory_size : Int32) (n_memory_words : Nat) (c_asleep : Bool) (c_locked : Bool) (c_next : Int32) (c_memory_words : Nat → Int32) (c_registers : Nat → Int32) (c_flags_negative : Bool) (c_flags_zero : Bool) (c_flags_carry : Bool) (c_flags_overflow : Bool) (c_exceptions_pending : Int32) (c_exceptions_active : Int32) (c_exceptions_current : Int32) (c_exceptions_masked : Bool) (c_exceptions_priorities : Nat → Int32) (c_counter_number : Int32) (c_counter_reload : Int32) (c_counter_on : Bool) (x1 : Int32) (hm : tc_mem q_memory_size n_memory_words) : Met l y_ThumbCore_atOffset (.code y_ThumbCore_atOffset b_ThumbCore_atOffset 5 (some .boolean) :: tcb) rm_ThumbCore_atOffset (tc_Pw D tcl (tys cI cB cZ) (wd_ThumbCore cI cB cZ h h_memory h_memory_words h_registers h_flags h_exceptions h_exceptions_priorities h_counter q_memory_size n_memory_words c_asleep c_locked c_next c_memory_words c_registers c_flags_negative c_flags_zero c_flags_carry c_flags_overflow c_exceptions_pending c_exceptions_active c_exceptions_current c_exceptions_masked c_exceptions_priorities c_counter_number c_counter_reload c_counter_on) sz ([.ref h, .int x1] : List Value) none) (tc_Qz D tcl (wd_ThumbCore cI cB cZ h h_memory h_memory_words h_registers h_flags h_exceptions h_exceptions_priorities h_counter q_memory_size n_memory_words c_asleep c_locked c_next c_memory_words c_registers c_flags_negative c_flags_zero c_flags_carry c_flags_overflow c_exceptions_pending c_exceptions_active c_exceptions_current c_exceptions_masked c_exceptions_priorities c_counter_number c_counter_reload c_counter_on) sz (fun u => (wd_ThumbCore cI cB cZ h h_memory h_memory_words h_registers h_flags h_exceptions h_exceptions_priorities h_counter q_memory_size n_memory_words c_asleep c_locked c_next u.2.1 u.2.2 c_flags_negative c_flags_zero c_flags_carry c_flags_overflow c_exceptions_pending c_exceptions_active c_exceptions_current c_exceptions_masked c_exceptions_priorities c_counter_number c_counter_reload c_counter_on)) (f_ThumbCore_atOffset q_memory_size c_memory_words c_registers x1)) 0 0 (va_A (wd_ThumbCore cI cB cZ h h_memory h_memory_words h_registers h_flags h_exceptions h_exceptions_priorities h_counter q_memory_size n_memory_words c_asleep c_locked c_next c_memory_words c_registers c_flags_negative c_flags_zero c_flags_carry c_flags_overflow c_exceptions_pending c_exceptions_active c_exceptions_current c_exceptions_masked c_exceptions_priorities c_counter_number c_counter_reload c_counter_on) sz) := by
  refine tc_mu_z (by decide) (Nat.le_of_ble_eq_true rfl) ?_
  intro p e s m below meth c A Q ls hx hb hml hts hown hK hN hP hD hA hZ hl RET
  have hS : va_S A s.heap s.heap [] := va_S.rf
  have hl : lv_has ls 5 [(0, .ref h), (1, .int x1)] := hl
  generalize hF : f_ThumbCore_atOffset q_memory_size c_memory_words c_registers x1 = FF at RET
  have hq : FF = f_ThumbCore_atOffset q_memory_size c_memory_words c_registers x1 := hF.symm
  revert hP hD hS
  suffices G : ∀ (H : Heap) (locs : List Loc), va_P D tcl (wd_ThumbCore cI cB cZ h h_memory h_memory_words h_registers h_flags h_exceptions h_exceptions_priorities h_counter q_memory_size n_memory_words c_asleep c_locked c_next c_memory_words c_registers c_flags_negative c_flags_zero c_flags_carry c_flags_overflow c_exceptions_pending c_exceptions_active c_exceptions_current c_exceptions_masked c_exceptions_priorities c_counter_number c_counter_reload c_counter_on) H → va_D A (wd_ThumbCore cI cB cZ h h_memory h_memory_words h_registers h_flags h_exceptions h_exceptions_priorities h_counter q_memory_size n_memory_words c_asleep c_locked c_next c_memory_words c_registers c_flags_negative c_flags_zero c_flags_carry c_flags_overflow c_exceptions_pending c_exceptions_active c_exceptions_current c_exceptions_masked c_exceptions_priorities c_counter_number c_counter_reload c_counter_on) → va_S A s.heap H locs → W p l e rm_ThumbCore_atOffset s m ([.ref h, .int x1] : List Value).toArray below meth c H locs 0 0 Q (F0 m 0 ls []) from fun hP hD hS => G _ _ hP hD hS
  intro H locs hP hD hS
  refine lv_iload_n hx hb d_ThumbCore_atOffset_0 rfl (lv_at hl 1 rfl) ?_
  refine lv_bipush (v := 7) hx hb d_ThumbCore_atOffset_1 (by decide) ?_
  refine lv_iand hx hb d_ThumbCore_atOffset_3 ?_
  refine lv_topi (fun v1 e_v1 => ?_)
  have hq := tc_nm hq e_v1
  refine lv_istore_n (lv' := [(2, .int v1), (0, .ref h), (1, .int x1)]) hx hb d_ThumbCore_atOffset_4 rfl hl (by decide) rfl (fun ls hl => ?_)
  refine lv_aload_n hx hb d_ThumbCore_atOffset_5 rfl (lv_at hl 1 rfl) ?_
  refine va_get (D := D) (ci := 4) (v := .ref h_registers) (C := R_ThumbCore) (T := F_ThumbCore) (N := 8) hx hb hts u_ThumbCore hown hK hP 0 rfl rfl 1 (by decide) (hts _ wf_ThumbCore_27) (fun _ h9 => h9) rfl d_ThumbCore_atOffset_6 ?_
  refine lv_iload_n hx hb d_ThumbCore_atOffset_9 rfl (lv_at hl 2 rfl) ?_
  refine lv_iconst (v := 3) hx hb d_ThumbCore_atOffset_10 (by decide) ?_
  refine lv_iushr (v := (o_iushr x1 3)) hx hb d_ThumbCore_atOffset_11 rfl ?_
  refine lv_bipush (v := 7) hx hb d_ThumbCore_atOffset_12 (by decide) ?_
  refine lv_iand hx hb d_ThumbCore_atOffset_14 ?_
  refine va_iald hx hb hK hP 3 0 rfl rfl (tc_in7 _) d_ThumbCore_atOffset_15 ?_
  refine lv_topi (fun v2 e_v2 => ?_)
  have hq := tc_nm hq e_v2
  refine lv_istore_n (lv' := [(3, .int v2), (2, .int v1), (0, .ref h), (1, .int x1)]) hx hb d_ThumbCore_atOffset_16 rfl hl (by decide) rfl (fun ls hl => ?_)
  refine lv_iload_n hx hb d_ThumbCore_atOffset_17 rfl (lv_at hl 3 rfl) ?_
  refine lv_bipush (v := 6) hx hb d_ThumbCore_atOffset_18 (by decide) ?_
  refine lv_iushr (v := (o_iushr x1 6)) hx hb d_ThumbCore_atOffset_20 rfl ?_
  refine lv_bipush (v := 31) hx hb d_ThumbCore_atOffset_21 (by decide) ?_
  refine lv_iand hx hb d_ThumbCore_atOffset_23 ?_
  refine lv_topi (fun v3 e_v3 => ?_)
  have hq := tc_nm hq e_v3
  refine lv_istore (lv' := [(4, .int v3), (3, .int v2), (2, .int v1), (0, .ref h), (1, .int x1)]) hx hb d_ThumbCore_atOffset_24 hl (by decide) rfl (fun ls hl => ?_)
  refine lv_iload_n hx hb d_ThumbCore_atOffset_26 rfl (lv_at hl 4 rfl) ?_
  refine lv_bipush (v := 11) hx hb d_ThumbCore_atOffset_27 (by decide) ?_
  refine lv_iushr (v := (o_iushr x1 11)) hx hb d_ThumbCore_atOffset_29 rfl ?_
  by_cases g_30_12 : (o_iushr x1 11) = 12
  · have hq := hq.trans (if_pos g_30_12)
    refine tc_tabIn (k := 12) (off := 34) (tgt := 64) hx hb d_ThumbCore_atOffset_30 g_30_12 (by decide) (by decide) (by decide +kernel) (by decide) ?_
    refine lv_aload_n hx hb d_ThumbCore_atOffset_64 rfl (lv_at hl 3 rfl) ?_
    refine lv_iload_n hx hb d_ThumbCore_atOffset_65 rfl (lv_at hl 2 rfl) ?_
    refine lv_iload_n hx hb d_ThumbCore_atOffset_66 rfl (lv_at hl 1 rfl) ?_
    refine lv_iconst (v := 4) hx hb d_ThumbCore_atOffset_67 (by decide) ?_
    refine lv_iload hx hb d_ThumbCore_atOffset_68 (lv_at hl 0 rfl) ?_
    refine lv_imul hx hb d_ThumbCore_atOffset_70 ?_
    refine lv_iadd hx hb d_ThumbCore_atOffset_71 ?_
    refine lv_iconst (v := 4) hx hb d_ThumbCore_atOffset_72 (by decide) ?_
    refine tc_mz (wo := fun u => (wd_ThumbCore cI cB cZ h h_memory h_memory_words h_registers h_flags h_exceptions h_exceptions_priorities h_counter q_memory_size n_memory_words c_asleep c_locked c_next u.2 c_registers c_flags_negative c_flags_zero c_flags_carry c_flags_overflow c_exceptions_pending c_exceptions_active c_exceptions_current c_exceptions_masked c_exceptions_priorities c_counter_number c_counter_reload c_counter_on)) (va_runV (As := [.int v1, .int (v2 + (4 * v3)), .int 4]) (rest := []) ⟨hx, hb, hml, hown, hts⟩ (c_ThumbCore_store l D cI cB cZ h h_memory h_memory_words h_registers h_flags h_exceptions h_exceptions_priorities h_counter H.size q_memory_size n_memory_words c_asleep c_locked c_next c_memory_words c_registers c_flags_negative c_flags_zero c_flags_carry c_flags_overflow c_exceptions_pending c_exceptions_active c_exceptions_current c_exceptions_masked c_exceptions_priorities c_counter_number c_counter_reload c_counter_on v1 (v2 + (4 * v3)) 4 hm (tc_en7 e_v1) (by decide)) (cwV 3 hts (tc_gV wl_ThumbCore_248 wm_ThumbCore_store ws_ThumbCore_store wi_ThumbCore wc_ThumbCore_store) rfl rfl rfl (by decide +kernel) ⟨Nat.le_of_ble_eq_true rfl, Nat.le_of_ble_eq_true rfl⟩) (tc_preV hK hN hP hD [0, 1, 2, 3, 4, 5, 6, 7] rfl (by decide) (q0 := 0) rfl rfl) rfl rfl hl.1 rfl (lv_room (Nat.le_of_ble_eq_true rfl)) d_ThumbCore_atOffset_73 (by decide)) hP hD hS hA [0, 1, 2, 3, 4, 5, 6, 7] [] [0, 1, 2, 3, 4, 5, 6, 7] rfl rfl (by decide) (by decide) (by decide) (fun _ => rfl) (fun u H locs hu hP hD hS => ?_)
    obtain ⟨r4, s5⟩ := u
    have hq := hq.trans (un2_eq hu _)
    have e_r4 := hu
    have hP : va_P D tcl (wd_ThumbCore cI cB cZ h h_memory h_memory_words h_registers h_flags h_exceptions h_exceptions_priorities h_counter q_memory_size n_memory_words c_asleep c_locked c_next s5 c_registers c_flags_negative c_flags_zero c_flags_carry c_flags_overflow c_exceptions_pending c_exceptions_active c_exceptions_current c_exceptions_masked c_exceptions_priorities c_counter_number c_counter_reload c_counter_on) H := hP
    have hD : va_D A (wd_ThumbCore cI cB cZ h h_memory h_memory_words h_registers h_flags h_exceptions h_exceptions_priorities h_counter q_memory_size n_memory_words c_asleep c_locked c_next s5 c_registers c_flags_negative c_flags_zero c_flags_carry c_flags_overflow c_exceptions_pending c_exceptions_active c_exceptions_current c_exceptions_masked c_exceptions_priorities c_counter_number c_counter_reload c_counter_on) := hD
    refine W.eq (g2 := F0 m 76 ls [.int (bI r4)]) rfl ?_
    exact RET H locs ls 76 (r4, s5, c_registers) d_ThumbCore_atOffset_76 hP hD hS hq
  have hq := hq.trans (if_neg g_30_12)
  by_cases g_30_13 : (o_iushr x1 11) = 13
  · have hq := hq.trans (if_pos g_30_13)
    refine tc_tabIn (k := 13) (off := 47) (tgt := 77) hx hb d_ThumbCore_atOffset_30 g_30_13 (by decide) (by decide) (by decide +kernel) (by decide) ?_
    refine lv_aload_n hx hb d_ThumbCore_atOffset_77 rfl (lv_at hl 3 rfl) ?_
    refine lv_iload_n hx hb d_ThumbCore_atOffset_78 rfl (lv_at hl 2 rfl) ?_
    refine lv_iload_n hx hb d_ThumbCore_atOffset_79 rfl (lv_at hl 1 rfl) ?_
    refine lv_iconst (v := 4) hx hb d_ThumbCore_atOffset_80 (by decide) ?_
    refine lv_iload hx hb d_ThumbCore_atOffset_81 (lv_at hl 0 rfl) ?_
    refine lv_imul hx hb d_ThumbCore_atOffset_83 ?_
    refine lv_iadd hx hb d_ThumbCore_atOffset_84 ?_
    refine lv_iconst (v := 4) hx hb d_ThumbCore_atOffset_85 (by decide) ?_
    refine tc_mz (wo := fun u => (wd_ThumbCore cI cB cZ h h_memory h_memory_words h_registers h_flags h_exceptions h_exceptions_priorities h_counter q_memory_size n_memory_words c_asleep c_locked c_next c_memory_words u.2 c_flags_negative c_flags_zero c_flags_carry c_flags_overflow c_exceptions_pending c_exceptions_active c_exceptions_current c_exceptions_masked c_exceptions_priorities c_counter_number c_counter_reload c_counter_on)) (va_runV (As := [.int v1, .int (v2 + (4 * v3)), .int 4]) (rest := []) ⟨hx, hb, hml, hown, hts⟩ (c_ThumbCore_load l D cI cB cZ h h_memory h_memory_words h_registers h_flags h_exceptions h_exceptions_priorities h_counter H.size q_memory_size n_memory_words c_asleep c_locked c_next c_memory_words c_registers c_flags_negative c_flags_zero c_flags_carry c_flags_overflow c_exceptions_pending c_exceptions_active c_exceptions_current c_exceptions_masked c_exceptions_priorities c_counter_number c_counter_reload c_counter_on v1 (v2 + (4 * v3)) 4 hm (tc_en7 e_v1) (by decide)) (cwV 3 hts (tc_gV wl_ThumbCore_244 wm_ThumbCore_load ws_ThumbCore_load wi_ThumbCore wc_ThumbCore_load) rfl rfl rfl (by decide +kernel) ⟨Nat.le_of_ble_eq_true rfl, Nat.le_of_ble_eq_true rfl⟩) (tc_preV hK hN hP hD [0, 1, 2, 3, 4, 5, 6, 7] rfl (by decide) (q0 := 0) rfl rfl) rfl rfl hl.1 rfl (lv_room (Nat.le_of_ble_eq_true rfl)) d_ThumbCore_atOffset_86 (by decide)) hP hD hS hA [0, 1, 2, 3, 4, 5, 6, 7] [] [0, 1, 2, 3, 4, 5, 6, 7] rfl rfl (by decide) (by decide) (by decide) (fun _ => rfl) (fun u H locs hu hP hD hS => ?_)
    obtain ⟨r6, s7⟩ := u
    have hq := hq.trans (un2_eq hu _)
    have e_r6 := hu
    have hP : va_P D tcl (wd_ThumbCore cI cB cZ h h_memory h_memory_words h_registers h_flags h_exceptions h_exceptions_priorities h_counter q_memory_size n_memory_words c_asleep c_locked c_next c_memory_words s7 c_flags_negative c_flags_zero c_flags_carry c_flags_overflow c_exceptions_pending c_exceptions_active c_exceptions_current c_exceptions_masked c_exceptions_priorities c_counter_number c_counter_reload c_counter_on) H := hP
    have hD : va_D A (wd_ThumbCore cI cB cZ h h_memory h_memory_words h_registers h_flags h_exceptions h_exceptions_priorities h_counter q_memory_size n_memory_words c_asleep c_locked c_next c_memory_words s7 c_flags_negative c_flags_zero c_flags_carry c_flags_overflow c_exceptions_pending c_exceptions_active c_exceptions_current c_exceptions_masked c_exceptions_priorities c_counter_number c_counter_reload c_counter_on) := hD
    refine W.eq (g2 := F0 m 89 ls [.int (bI r6)]) rfl ?_
    exact RET H locs ls 89 (r6, c_memory_words, s7) d_ThumbCore_atOffset_89 hP hD hS hq
  have hq := hq.trans (if_neg g_30_13)
  by_cases g_30_14 : (o_iushr x1 11) = 14
  · have hq := hq.trans (if_pos g_30_14)
    refine tc_tabIn (k := 14) (off := 60) (tgt := 90) hx hb d_ThumbCore_atOffset_30 g_30_14 (by decide) (by decide) (by decide +kernel) (by decide) ?_
    refine lv_aload_n hx hb d_ThumbCore_atOffset_90 rfl (lv_at hl 3 rfl) ?_
    refine lv_iload_n hx hb d_ThumbCore_atOffset_91 rfl (lv_at hl 2 rfl) ?_
    refine lv_iload_n hx hb d_ThumbCore_atOffset_92 rfl (lv_at hl 1 rfl) ?_
    refine lv_iload hx hb d_ThumbCore_atOffset_93 (lv_at hl 0 rfl) ?_
    refine lv_iadd hx hb d_ThumbCore_atOffset_95 ?_
    refine lv_iconst (v := 1) hx hb d_ThumbCore_atOffset_96 (by decide) ?_
    refine tc_mz (wo := fun u => (wd_ThumbCore cI cB cZ h h_memory h_memory_words h_registers h_flags h_exceptions h_exceptions_priorities h_counter q_memory_size n_memory_words c_asleep c_locked c_next u.2 c_registers c_flags_negative c_flags_zero c_flags_carry c_flags_overflow c_exceptions_pending c_exceptions_active c_exceptions_current c_exceptions_masked c_exceptions_priorities c_counter_number c_counter_reload c_counter_on)) (va_runV (As := [.int v1, .int (v2 + v3), .int 1]) (rest := []) ⟨hx, hb, hml, hown, hts⟩ (c_ThumbCore_store l D cI cB cZ h h_memory h_memory_words h_registers h_flags h_exceptions h_exceptions_priorities h_counter H.size q_memory_size n_memory_words c_asleep c_locked c_next c_memory_words c_registers c_flags_negative c_flags_zero c_flags_carry c_flags_overflow c_exceptions_pending c_exceptions_active c_exceptions_current c_exceptions_masked c_exceptions_priorities c_counter_number c_counter_reload c_counter_on v1 (v2 + v3) 1 hm (tc_en7 e_v1) (by decide)) (cwV 3 hts (tc_gV wl_ThumbCore_248 wm_ThumbCore_store ws_ThumbCore_store wi_ThumbCore wc_ThumbCore_store) rfl rfl rfl (by decide +kernel) ⟨Nat.le_of_ble_eq_true rfl, Nat.le_of_ble_eq_true rfl⟩) (tc_preV hK hN hP hD [0, 1, 2, 3, 4, 5, 6, 7] rfl (by decide) (q0 := 0) rfl rfl) rfl rfl hl.1 rfl (lv_room (Nat.le_of_ble_eq_true rfl)) d_ThumbCore_atOffset_97 (by decide)) hP hD hS hA [0, 1, 2, 3, 4, 5, 6, 7] [] [0, 1, 2, 3, 4, 5, 6, 7] rfl rfl (by decide) (by decide) (by decide) (fun _ => rfl) (fun u H locs hu hP hD hS => ?_)
    obtain ⟨r8, s9⟩ := u
    have hq := hq.trans (un2_eq hu _)
    have e_r8 := hu
    have hP : va_P D tcl (wd_ThumbCore cI cB cZ h h_memory h_memory_words h_registers h_flags h_exceptions h_exceptions_priorities h_counter q_memory_size n_memory_words c_asleep c_locked c_next s9 c_registers c_flags_negative c_flags_zero c_flags_carry c_flags_overflow c_exceptions_pending c_exceptions_active c_exceptions_current c_exceptions_masked c_exceptions_priorities c_counter_number c_counter_reload c_counter_on) H := hP
    have hD : va_D A (wd_ThumbCore cI cB cZ h h_memory h_memory_words h_registers h_flags h_exceptions h_exceptions_priorities h_counter q_memory_size n_memory_words c_asleep c_locked c_next s9 c_registers c_flags_negative c_flags_zero c_flags_carry c_flags_overflow c_exceptions_pending c_exceptions_active c_exceptions_current c_exceptions_masked c_exceptions_priorities c_counter_number c_counter_reload c_counter_on) := hD
    refine W.eq (g2 := F0 m 100 ls [.int (bI r8)]) rfl ?_
    exact RET H locs ls 100 (r8, s9, c_registers) d_ThumbCore_atOffset_100 hP hD hS hq
  have hq := hq.trans (if_neg g_30_14)
  by_cases g_30_15 : (o_iushr x1 11) = 15
  · have hq := hq.trans (if_pos g_30_15)
    refine tc_tabIn (k := 15) (off := 71) (tgt := 101) hx hb d_ThumbCore_atOffset_30 g_30_15 (by decide) (by decide) (by decide +kernel) (by decide) ?_
    refine lv_aload_n hx hb d_ThumbCore_atOffset_101 rfl (lv_at hl 3 rfl) ?_
    refine lv_iload_n hx hb d_ThumbCore_atOffset_102 rfl (lv_at hl 2 rfl) ?_
    refine lv_iload_n hx hb d_ThumbCore_atOffset_103 rfl (lv_at hl 1 rfl) ?_
    refine lv_iload hx hb d_ThumbCore_atOffset_104 (lv_at hl 0 rfl) ?_
    refine lv_iadd hx hb d_ThumbCore_atOffset_106 ?_
    refine lv_iconst (v := 1) hx hb d_ThumbCore_atOffset_107 (by decide) ?_
    refine tc_mz (wo := fun u => (wd_ThumbCore cI cB cZ h h_memory h_memory_words h_registers h_flags h_exceptions h_exceptions_priorities h_counter q_memory_size n_memory_words c_asleep c_locked c_next c_memory_words u.2 c_flags_negative c_flags_zero c_flags_carry c_flags_overflow c_exceptions_pending c_exceptions_active c_exceptions_current c_exceptions_masked c_exceptions_priorities c_counter_number c_counter_reload c_counter_on)) (va_runV (As := [.int v1, .int (v2 + v3), .int 1]) (rest := []) ⟨hx, hb, hml, hown, hts⟩ (c_ThumbCore_load l D cI cB cZ h h_memory h_memory_words h_registers h_flags h_exceptions h_exceptions_priorities h_counter H.size q_memory_size n_memory_words c_asleep c_locked c_next c_memory_words c_registers c_flags_negative c_flags_zero c_flags_carry c_flags_overflow c_exceptions_pending c_exceptions_active c_exceptions_current c_exceptions_masked c_exceptions_priorities c_counter_number c_counter_reload c_counter_on v1 (v2 + v3) 1 hm (tc_en7 e_v1) (by decide)) (cwV 3 hts (tc_gV wl_ThumbCore_244 wm_ThumbCore_load ws_ThumbCore_load wi_ThumbCore wc_ThumbCore_load) rfl rfl rfl (by decide +kernel) ⟨Nat.le_of_ble_eq_true rfl, Nat.le_of_ble_eq_true rfl⟩) (tc_preV hK hN hP hD [0, 1, 2, 3, 4, 5, 6, 7] rfl (by decide) (q0 := 0) rfl rfl) rfl rfl hl.1 rfl (lv_room (Nat.le_of_ble_eq_true rfl)) d_ThumbCore_atOffset_108 (by decide)) hP hD hS hA [0, 1, 2, 3, 4, 5, 6, 7] [] [0, 1, 2, 3, 4, 5, 6, 7] rfl rfl (by decide) (by decide) (by decide) (fun _ => rfl) (fun u H locs hu hP hD hS => ?_)
    obtain ⟨r10, s11⟩ := u
    have hq := hq.trans (un2_eq hu _)
    have e_r10 := hu
    have hP : va_P D tcl (wd_ThumbCore cI cB cZ h h_memory h_memory_words h_registers h_flags h_exceptions h_exceptions_priorities h_counter q_memory_size n_memory_words c_asleep c_locked c_next c_memory_words s11 c_flags_negative c_flags_zero c_flags_carry c_flags_overflow c_exceptions_pending c_exceptions_active c_exceptions_current c_exceptions_masked c_exceptions_priorities c_counter_number c_counter_reload c_counter_on) H := hP
    have hD : va_D A (wd_ThumbCore cI cB cZ h h_memory h_memory_words h_registers h_flags h_exceptions h_exceptions_priorities h_counter q_memory_size n_memory_words c_asleep c_locked c_next c_memory_words s11 c_flags_negative c_flags_zero c_flags_carry c_flags_overflow c_exceptions_pending c_exceptions_active c_exceptions_current c_exceptions_masked c_exceptions_priorities c_counter_number c_counter_reload c_counter_on) := hD
    refine W.eq (g2 := F0 m 111 ls [.int (bI r10)]) rfl ?_
    exact RET H locs ls 111 (r10, c_memory_words, s11) d_ThumbCore_atOffset_111 hP hD hS hq
  have hq := hq.trans (if_neg g_30_15)
  by_cases g_30_16 : (o_iushr x1 11) = 16
  · have hq := hq.trans (if_pos g_30_16)
    refine tc_tabIn (k := 16) (off := 82) (tgt := 112) hx hb d_ThumbCore_atOffset_30 g_30_16 (by decide) (by decide) (by decide +kernel) (by decide) ?_
    refine lv_aload_n hx hb d_ThumbCore_atOffset_112 rfl (lv_at hl 3 rfl) ?_
    refine lv_iload_n hx hb d_ThumbCore_atOffset_113 rfl (lv_at hl 2 rfl) ?_
    refine lv_iload_n hx hb d_ThumbCore_atOffset_114 rfl (lv_at hl 1 rfl) ?_
    refine lv_iconst (v := 2) hx hb d_ThumbCore_atOffset_115 (by decide) ?_
    refine lv_iload hx hb d_ThumbCore_atOffset_116 (lv_at hl 0 rfl) ?_
    refine lv_imul hx hb d_ThumbCore_atOffset_118 ?_
    refine lv_iadd hx hb d_ThumbCore_atOffset_119 ?_
    refine lv_iconst (v := 2) hx hb d_ThumbCore_atOffset_120 (by decide) ?_
    refine tc_mz (wo := fun u => (wd_ThumbCore cI cB cZ h h_memory h_memory_words h_registers h_flags h_exceptions h_exceptions_priorities h_counter q_memory_size n_memory_words c_asleep c_locked c_next u.2 c_registers c_flags_negative c_flags_zero c_flags_carry c_flags_overflow c_exceptions_pending c_exceptions_active c_exceptions_current c_exceptions_masked c_exceptions_priorities c_counter_number c_counter_reload c_counter_on)) (va_runV (As := [.int v1, .int (v2 + (2 * v3)), .int 2]) (rest := []) ⟨hx, hb, hml, hown, hts⟩ (c_ThumbCore_store l D cI cB cZ h h_memory h_memory_words h_registers h_flags h_exceptions h_exceptions_priorities h_counter H.size q_memory_size n_memory_words c_asleep c_locked c_next c_memory_words c_registers c_flags_negative c_flags_zero c_flags_carry c_flags_overflow c_exceptions_pending c_exceptions_active c_exceptions_current c_exceptions_masked c_exceptions_priorities c_counter_number c_counter_reload c_counter_on v1 (v2 + (2 * v3)) 2 hm (tc_en7 e_v1) (by decide)) (cwV 3 hts (tc_gV wl_ThumbCore_248 wm_ThumbCore_store ws_ThumbCore_store wi_ThumbCore wc_ThumbCore_store) rfl rfl rfl (by decide +kernel) ⟨Nat.le_of_ble_eq_true rfl, Nat.le_of_ble_eq_true rfl⟩) (tc_preV hK hN hP hD [0, 1, 2, 3, 4, 5, 6, 7] rfl (by decide) (q0 := 0) rfl rfl) rfl rfl hl.1 rfl (lv_room (Nat.le_of_ble_eq_true rfl)) d_ThumbCore_atOffset_121 (by decide)) hP hD hS hA [0, 1, 2, 3, 4, 5, 6, 7] [] [0, 1, 2, 3, 4, 5, 6, 7] rfl rfl (by decide) (by decide) (by decide) (fun _ => rfl) (fun u H locs hu hP hD hS => ?_)
    obtain ⟨r12, s13⟩ := u
    have hq := hq.trans (un2_eq hu _)
    have e_r12 := hu
    have hP : va_P D tcl (wd_ThumbCore cI cB cZ h h_memory h_memory_words h_registers h_flags h_exceptions h_exceptions_priorities h_counter q_memory_size n_memory_words c_asleep c_locked c_next s13 c_registers c_flags_negative c_flags_zero c_flags_carry c_flags_overflow c_exceptions_pending c_exceptions_active c_exceptions_current c_exceptions_masked c_exceptions_priorities c_counter_number c_counter_reload c_counter_on) H := hP
    have hD : va_D A (wd_ThumbCore cI cB cZ h h_memory h_memory_words h_registers h_flags h_exceptions h_exceptions_priorities h_counter q_memory_size n_memory_words c_asleep c_locked c_next s13 c_registers c_flags_negative c_flags_zero c_flags_carry c_flags_overflow c_exceptions_pending c_exceptions_active c_exceptions_current c_exceptions_masked c_exceptions_priorities c_counter_number c_counter_reload c_counter_on) := hD
    refine W.eq (g2 := F0 m 124 ls [.int (bI r12)]) rfl ?_
    exact RET H locs ls 124 (r12, s13, c_registers) d_ThumbCore_atOffset_124 hP hD hS hq
  have hq := hq.trans (if_neg g_30_16)
  have DF : W p l e rm_ThumbCore_atOffset s m ([.ref h, .int x1] : List Value).toArray below meth c H locs 0 0 Q (F0 m 125 ls []) := by
    refine lv_aload_n hx hb d_ThumbCore_atOffset_125 rfl (lv_at hl 3 rfl) ?_
    refine lv_iload_n hx hb d_ThumbCore_atOffset_126 rfl (lv_at hl 2 rfl) ?_
    refine lv_iload_n hx hb d_ThumbCore_atOffset_127 rfl (lv_at hl 1 rfl) ?_
    refine lv_iconst (v := 2) hx hb d_ThumbCore_atOffset_128 (by decide) ?_
    refine lv_iload hx hb d_ThumbCore_atOffset_129 (lv_at hl 0 rfl) ?_
    refine lv_imul hx hb d_ThumbCore_atOffset_131 ?_
    refine lv_iadd hx hb d_ThumbCore_atOffset_132 ?_
    refine lv_iconst (v := 2) hx hb d_ThumbCore_atOffset_133 (by decide) ?_
    refine tc_mz (wo := fun u => (wd_ThumbCore cI cB cZ h h_memory h_memory_words h_registers h_flags h_exceptions h_exceptions_priorities h_counter q_memory_size n_memory_words c_asleep c_locked c_next c_memory_words u.2 c_flags_negative c_flags_zero c_flags_carry c_flags_overflow c_exceptions_pending c_exceptions_active c_exceptions_current c_exceptions_masked c_exceptions_priorities c_counter_number c_counter_reload c_counter_on)) (va_runV (As := [.int v1, .int (v2 + (2 * v3)), .int 2]) (rest := []) ⟨hx, hb, hml, hown, hts⟩ (c_ThumbCore_load l D cI cB cZ h h_memory h_memory_words h_registers h_flags h_exceptions h_exceptions_priorities h_counter H.size q_memory_size n_memory_words c_asleep c_locked c_next c_memory_words c_registers c_flags_negative c_flags_zero c_flags_carry c_flags_overflow c_exceptions_pending c_exceptions_active c_exceptions_current c_exceptions_masked c_exceptions_priorities c_counter_number c_counter_reload c_counter_on v1 (v2 + (2 * v3)) 2 hm (tc_en7 e_v1) (by decide)) (cwV 3 hts (tc_gV wl_ThumbCore_244 wm_ThumbCore_load ws_ThumbCore_load wi_ThumbCore wc_ThumbCore_load) rfl rfl rfl (by decide +kernel) ⟨Nat.le_of_ble_eq_true rfl, Nat.le_of_ble_eq_true rfl⟩) (tc_preV hK hN hP hD [0, 1, 2, 3, 4, 5, 6, 7] rfl (by decide) (q0 := 0) rfl rfl) rfl rfl hl.1 rfl (lv_room (Nat.le_of_ble_eq_true rfl)) d_ThumbCore_atOffset_134 (by decide)) hP hD hS hA [0, 1, 2, 3, 4, 5, 6, 7] [] [0, 1, 2, 3, 4, 5, 6, 7] rfl rfl (by decide) (by decide) (by decide) (fun _ => rfl) (fun u H locs hu hP hD hS => ?_)
    obtain ⟨r14, s15⟩ := u
    have hq := hq.trans (un2_eq hu _)
    have e_r14 := hu
    have hP : va_P D tcl (wd_ThumbCore cI cB cZ h h_memory h_memory_words h_registers h_flags h_exceptions h_exceptions_priorities h_counter q_memory_size n_memory_words c_asleep c_locked c_next c_memory_words s15 c_flags_negative c_flags_zero c_flags_carry c_flags_overflow c_exceptions_pending c_exceptions_active c_exceptions_current c_exceptions_masked c_exceptions_priorities c_counter_number c_counter_reload c_counter_on) H := hP
    have hD : va_D A (wd_ThumbCore cI cB cZ h h_memory h_memory_words h_registers h_flags h_exceptions h_exceptions_priorities h_counter q_memory_size n_memory_words c_asleep c_locked c_next c_memory_words s15 c_flags_negative c_flags_zero c_flags_carry c_flags_overflow c_exceptions_pending c_exceptions_active c_exceptions_current c_exceptions_masked c_exceptions_priorities c_counter_number c_counter_reload c_counter_on) := hD
    refine W.eq (g2 := F0 m 137 ls [.int (bI r14)]) rfl ?_
    exact RET H locs ls 137 (r14, c_memory_words, s15) d_ThumbCore_atOffset_137 hP hD hS hq
  exact lv_tableOut (x := (o_iushr x1 11)) hx hb d_ThumbCore_atOffset_30 (by have n12 := tc_ne (j := 12) g_30_12 (by decide); have n13 := tc_ne (j := 13) g_30_13 (by decide); have n14 := tc_ne (j := 14) g_30_14 (by decide); have n15 := tc_ne (j := 15) g_30_15 (by decide); have n16 := tc_ne (j := 16) g_30_16 (by decide); omega) (by decide) DF
abbrev rm_ThumbCore_moveStack : Room := { frames := 1, cells := 0, slots := 0, locals := 24 }
set_option maxHeartbeats 4000000 in
set_option maxRecDepth 100000 in
theorem c_ThumbCore_moveStack (l : Launch) (D : va_G) (cI cB cZ : ClassId) (h h_memory h_memory_words h_registers h_flags h_exceptions h_exceptions_priorities h_counter sz : Nat) (q_memory_size : Int32) (n_memory_words : Nat) (c_asleep : Bool) (c_locked : Bool) (c_next : Int32) (c_memory_words : Nat → Int32) (c_registers : Nat → Int32) (c_flags_negative : Bool) (c_flags_zero : Bool) (c_flags_carry : Bool) (c_flags_overflow : Bool) (c_exceptions_pending : Int32) (c_exceptions_active : Int32) (c_exceptions_current : Int32) (c_exceptions_masked : Bool) (c_exceptions_priorities : Nat → Int32) (c_counter_number : Int32) (c_counter_reload : Int32) (c_counter_on : Bool) (x1 : Int32) : Met l y_ThumbCore_moveStack (.code y_ThumbCore_moveStack b_ThumbCore_moveStack 3 none :: tcb) rm_ThumbCore_moveStack (tc_Pw D tcl (tys cI cB cZ) (wd_ThumbCore cI cB cZ h h_memory h_memory_words h_registers h_flags h_exceptions h_exceptions_priorities h_counter q_memory_size n_memory_words c_asleep c_locked c_next c_memory_words c_registers c_flags_negative c_flags_zero c_flags_carry c_flags_overflow c_exceptions_pending c_exceptions_active c_exceptions_current c_exceptions_masked c_exceptions_priorities c_counter_number c_counter_reload c_counter_on) sz ([.ref h, .int x1] : List Value) none) (tc_Qv D tcl (wd_ThumbCore cI cB cZ h h_memory h_memory_words h_registers h_flags h_exceptions h_exceptions_priorities h_counter q_memory_size n_memory_words c_asleep c_locked c_next c_memory_words c_registers c_flags_negative c_flags_zero c_flags_carry c_flags_overflow c_exceptions_pending c_exceptions_active c_exceptions_current c_exceptions_masked c_exceptions_priorities c_counter_number c_counter_reload c_counter_on) sz (fun u => (wd_ThumbCore cI cB cZ h h_memory h_memory_words h_registers h_flags h_exceptions h_exceptions_priorities h_counter q_memory_size n_memory_words c_asleep c_locked c_next c_memory_words u c_flags_negative c_flags_zero c_flags_carry c_flags_overflow c_exceptions_pending c_exceptions_active c_exceptions_current c_exceptions_masked c_exceptions_priorities c_counter_number c_counter_reload c_counter_on)) (f_ThumbCore_moveStack c_registers x1)) 0 0 (va_A (wd_ThumbCore cI cB cZ h h_memory h_memory_words h_registers h_flags h_exceptions h_exceptions_priorities h_counter q_memory_size n_memory_words c_asleep c_locked c_next c_memory_words c_registers c_flags_negative c_flags_zero c_flags_carry c_flags_overflow c_exceptions_pending c_exceptions_active c_exceptions_current c_exceptions_masked c_exceptions_priorities c_counter_number c_counter_reload c_counter_on) sz) := by
  refine tc_mu_v (by decide) (Nat.le_of_ble_eq_true rfl) ?_
  intro p e s m below meth c A Q ls hx hb hml hts hown hK hN hP hD hA hZ hl RET
  have hS : va_S A s.heap s.heap [] := va_S.rf
  have hl : lv_has ls 3 [(0, .ref h), (1, .int x1)] := hl
  generalize hF : f_ThumbCore_moveStack c_registers x1 = FF at RET
  have J_31 : ∀ (H : Heap) (locs : List Loc) (ls : Array Slot) (c_registers : Nat → Int32) (z2 : Int32) (z3 : Int32), va_P D tcl (wd_ThumbCore cI cB cZ h h_memory h_memory_words h_registers h_flags h_exceptions h_exceptions_priorities h_counter q_memory_size n_memory_words c_asleep c_locked c_next c_memory_words c_registers c_flags_negative c_flags_zero c_flags_carry c_flags_overflow c_exceptions_pending c_exceptions_active c_exceptions_current c_exceptions_masked c_exceptions_priorities c_counter_number c_counter_reload c_counter_on) H → va_D A (wd_ThumbCore cI cB cZ h h_memory h_memory_words h_registers h_flags h_exceptions h_exceptions_priorities h_counter q_memory_size n_memory_words c_asleep c_locked c_next c_memory_words c_registers c_flags_negative c_flags_zero c_flags_carry c_flags_overflow c_exceptions_pending c_exceptions_active c_exceptions_current c_exceptions_masked c_exceptions_priorities c_counter_number c_counter_reload c_counter_on) → va_S A s.heap H locs → lv_has ls 3 [] → FF = k_ThumbCore_moveStack_31 c_registers z2 z3 → W p l e rm_ThumbCore_moveStack s m ([.ref h, .int x1] : List Value).toArray below meth c H locs 0 0 Q (F0 m 31 ls [.int z3, .int z2, .int 13, .ref h_registers]) := by
    intro H locs ls c_registers z2 z3 hP hD hS hl hq
    refine lv_iadd hx hb d_ThumbCore_moveStack_31 ?_
    refine va_iast hx hb hK hP hD hS 3 0 rfl rfl (by show ¬ (_ ∨ _); decide) d_ThumbCore_moveStack_32 (fun H locs hP hD hS => ?_)
    have hP : va_P D tcl (wd_ThumbCore cI cB cZ h h_memory h_memory_words h_registers h_flags h_exceptions h_exceptions_priorities h_counter q_memory_size n_memory_words c_asleep c_locked c_next c_memory_words (upd c_registers (13 : Int32).toNatClampNeg (z2 + z3)) c_flags_negative c_flags_zero c_flags_carry c_flags_overflow c_exceptions_pending c_exceptions_active c_exceptions_current c_exceptions_masked c_exceptions_priorities c_counter_number c_counter_reload c_counter_on) H := hP
    have hD : va_D A (wd_ThumbCore cI cB cZ h h_memory h_memory_words h_registers h_flags h_exceptions h_exceptions_priorities h_counter q_memory_size n_memory_words c_asleep c_locked c_next c_memory_words (upd c_registers (13 : Int32).toNatClampNeg (z2 + z3)) c_flags_negative c_flags_zero c_flags_carry c_flags_overflow c_exceptions_pending c_exceptions_active c_exceptions_current c_exceptions_masked c_exceptions_priorities c_counter_number c_counter_reload c_counter_on) := hD
    exact RET H locs ls 33 (upd c_registers (13 : Int32).toNatClampNeg (z2 + z3)) d_ThumbCore_moveStack_33 hP hD hS hq
  have hq : FF = f_ThumbCore_moveStack c_registers x1 := hF.symm
  revert hP hD hS
  suffices G : ∀ (H : Heap) (locs : List Loc), va_P D tcl (wd_ThumbCore cI cB cZ h h_memory h_memory_words h_registers h_flags h_exceptions h_exceptions_priorities h_counter q_memory_size n_memory_words c_asleep c_locked c_next c_memory_words c_registers c_flags_negative c_flags_zero c_flags_carry c_flags_overflow c_exceptions_pending c_exceptions_active c_exceptions_current c_exceptions_masked c_exceptions_priorities c_counter_number c_counter_reload c_counter_on) H → va_D A (wd_ThumbCore cI cB cZ h h_memory h_memory_words h_registers h_flags h_exceptions h_exceptions_priorities h_counter q_memory_size n_memory_words c_asleep c_locked c_next c_memory_words c_registers c_flags_negative c_flags_zero c_flags_carry c_flags_overflow c_exceptions_pending c_exceptions_active c_exceptions_current c_exceptions_masked c_exceptions_priorities c_counter_number c_counter_reload c_counter_on) → va_S A s.heap H locs → W p l e rm_ThumbCore_moveStack s m ([.ref h, .int x1] : List Value).toArray below meth c H locs 0 0 Q (F0 m 0 ls []) from fun hP hD hS => G _ _ hP hD hS
  intro H locs hP hD hS
  refine lv_iconst (v := 4) hx hb d_ThumbCore_moveStack_0 (by decide) ?_
  refine lv_iload_n hx hb d_ThumbCore_moveStack_1 rfl (lv_at hl 1 rfl) ?_
  refine lv_bipush (v := 127) hx hb d_ThumbCore_moveStack_2 (by decide) ?_
  refine lv_iand hx hb d_ThumbCore_moveStack_4 ?_
  refine lv_imul hx hb d_ThumbCore_moveStack_5 ?_
  refine lv_topi (fun v1 e_v1 => ?_)
  have hq := tc_nm hq e_v1
  refine lv_istore_n (lv' := [(2, .int v1), (0, .ref h), (1, .int x1)]) hx hb d_ThumbCore_moveStack_6 rfl hl (by decide) rfl (fun ls hl => ?_)
  refine lv_aload_n hx hb d_ThumbCore_moveStack_7 rfl (lv_at hl 1 rfl) ?_
  refine va_get (D := D) (ci := 4) (v := .ref h_registers) (C := R_ThumbCore) (T := F_ThumbCore) (N := 8) hx hb hts u_ThumbCore hown hK hP 0 rfl rfl 1 (by decide) (hts _ wf_ThumbCore_27) (fun _ h9 => h9) rfl d_ThumbCore_moveStack_8 ?_
  refine lv_bipush (v := 13) hx hb d_ThumbCore_moveStack_11 (by decide) ?_
  refine lv_dup2_11 hx hb d_ThumbCore_moveStack_13 rfl rfl ?_
  refine va_iald hx hb hK hP 3 0 rfl rfl (by show ¬ (_ ∨ _); decide) d_ThumbCore_moveStack_14 ?_
  refine lv_iload_n hx hb d_ThumbCore_moveStack_15 rfl (lv_at hl 2 rfl) ?_
  refine lv_bipush (v := 7) hx hb d_ThumbCore_moveStack_16 (by decide) ?_
  refine lv_iushr (v := (o_iushr x1 7)) hx hb d_ThumbCore_moveStack_18 rfl ?_
  refine lv_iconst (v := 1) hx hb d_ThumbCore_moveStack_19 (by decide) ?_
  refine lv_iand hx hb d_ThumbCore_moveStack_20 ?_
  refine lv_iconst (v := 1) hx hb d_ThumbCore_moveStack_21 (by decide) ?_
  refine lv_icmp_ne (tgt := 30) hx hb d_ThumbCore_moveStack_22 (by decide) (fun g_22 => ?_) (fun g_22 => ?_)
  · have hq := hq.trans (if_pos g_22)
    refine lv_iload_n hx hb d_ThumbCore_moveStack_30 rfl (lv_at hl 0 rfl) ?_
    exact J_31 H locs ls c_registers (c_registers (13 : Int32).toNatClampNeg) v1 hP hD hS (lv_sub hl [] rfl) hq
  · have hq := hq.trans (if_neg (fun g => g g_22))
    refine lv_iload_n hx hb d_ThumbCore_moveStack_25 rfl (lv_at hl 0 rfl) ?_
    refine lv_ineg hx hb d_ThumbCore_moveStack_26 ?_
    refine lv_goto (tgt := 31) hx hb d_ThumbCore_moveStack_27 (by decide) ?_
    exact J_31 H locs ls c_registers (c_registers (13 : Int32).toNatClampNeg) (-v1) hP hD hS (lv_sub hl [] rfl) hq
abbrev rm_ThumbCore_extended : Room := { frames := 1, cells := 0, slots := 0, locals := 24 }
set_option maxHeartbeats 4000000 in
set_option maxRecDepth 100000 in
theorem c_ThumbCore_extended (l : Launch) (x1 : Int32) (x2 : Int32) : Met l y_ThumbCore_extended (.code y_ThumbCore_extended b_ThumbCore_extended 2 (some .int) :: tcb) rm_ThumbCore_extended (va_Pc ([.int x1, .int x2] : List Value) (fun _ => True)) (QcRead (f_ThumbCore_extended x1 x2)) 0 0 (fun _ => False) := by
  refine tc_st_i (by decide) (Nat.le_of_ble_eq_true rfl) ?_
  intro p e s m below meth c Q ls hx hb hml hts hown hl RET
  have hl : lv_has ls 2 [(0, .int x1), (1, .int x2)] := hl
  generalize hF : f_ThumbCore_extended x1 x2 = FF at RET
  have hq : FF = f_ThumbCore_extended x1 x2 := hF.symm
  refine lv_iload_n hx hb d_ThumbCore_extended_0 rfl (lv_at hl 0 rfl) ?_
  by_cases g_1_0 : x1 = 0
  · have hq := hq.trans (if_pos g_1_0)
    refine tc_tabIn (k := 0) (off := 27) (tgt := 28) hx hb d_ThumbCore_extended_1 g_1_0 (by decide) (by decide) (by decide +kernel) (by decide) ?_
    refine lv_iload_n hx hb d_ThumbCore_extended_28 rfl (lv_at hl 1 rfl) ?_
    refine lv_i2s (v := x2.toInt16.toInt32) hx hb d_ThumbCore_extended_29 rfl ?_
    exact RET ls 30 d_ThumbCore_extended_30 hq
  have hq := hq.trans (if_neg g_1_0)
  by_cases g_1_1 : x1 = 1
  · have hq := hq.trans (if_pos g_1_1)
    refine tc_tabIn (k := 1) (off := 30) (tgt := 31) hx hb d_ThumbCore_extended_1 g_1_1 (by decide) (by decide) (by decide +kernel) (by decide) ?_
    refine lv_iload_n hx hb d_ThumbCore_extended_31 rfl (lv_at hl 1 rfl) ?_
    refine lv_i2b (v := x2.toInt8.toInt32) hx hb d_ThumbCore_extended_32 rfl ?_
    exact RET ls 33 d_ThumbCore_extended_33 hq
  have hq := hq.trans (if_neg g_1_1)
  by_cases g_1_2 : x1 = 2
  · have hq := hq.trans (if_pos g_1_2)
    refine tc_tabIn (k := 2) (off := 33) (tgt := 34) hx hb d_ThumbCore_extended_1 g_1_2 (by decide) (by decide) (by decide +kernel) (by decide) ?_
    refine lv_iload_n hx hb d_ThumbCore_extended_34 rfl (lv_at hl 1 rfl) ?_
    refine lv_ldcw (v := 65535) hx hb hown (hts _ wk_ThumbCore_278) d_ThumbCore_extended_35 ?_
    refine lv_iand hx hb d_ThumbCore_extended_38 ?_
    exact RET ls 39 d_ThumbCore_extended_39 hq
  have hq := hq.trans (if_neg g_1_2)
  have DF : W p l e rm_ThumbCore_extended s m ([.int x1, .int x2] : List Value).toArray below meth c s.heap [] 0 0 Q (F0 m 40 ls []) := by
    refine lv_iload_n hx hb d_ThumbCore_extended_40 rfl (lv_at hl 1 rfl) ?_
    refine lv_sipush (v := 255) hx hb d_ThumbCore_extended_41 (by decide) ?_
    refine lv_iand hx hb d_ThumbCore_extended_44 ?_
    exact RET ls 45 d_ThumbCore_extended_45 hq
  exact lv_tableOut (x := x1) hx hb d_ThumbCore_extended_1 (by have n0 := tc_ne (j := 0) g_1_0 (by decide); have n1 := tc_ne (j := 1) g_1_1 (by decide); have n2 := tc_ne (j := 2) g_1_2 (by decide); omega) (by decide) DF
abbrev rm_ThumbCore_areThere : Room := { frames := 2, cells := 0, slots := 0, locals := 46 }
set_option maxHeartbeats 4000000 in
set_option maxRecDepth 100000 in
theorem c_ThumbCore_areThere (l : Launch) (D : va_G) (cI cB cZ : ClassId) (h h_memory h_memory_words h_registers h_flags h_exceptions h_exceptions_priorities h_counter sz : Nat) (q_memory_size : Int32) (n_memory_words : Nat) (c_asleep : Bool) (c_locked : Bool) (c_next : Int32) (c_memory_words : Nat → Int32) (c_registers : Nat → Int32) (c_flags_negative : Bool) (c_flags_zero : Bool) (c_flags_carry : Bool) (c_flags_overflow : Bool) (c_exceptions_pending : Int32) (c_exceptions_active : Int32) (c_exceptions_current : Int32) (c_exceptions_masked : Bool) (c_exceptions_priorities : Nat → Int32) (c_counter_number : Int32) (c_counter_reload : Int32) (c_counter_on : Bool) (x1 : Int32) (x2 : Int32) : Met l y_ThumbCore_areThere (.code y_ThumbCore_areThere b_ThumbCore_areThere 3 (some .boolean) :: tcb) rm_ThumbCore_areThere (tc_Pw D tcl (tys cI cB cZ) (wd_ThumbCore cI cB cZ h h_memory h_memory_words h_registers h_flags h_exceptions h_exceptions_priorities h_counter q_memory_size n_memory_words c_asleep c_locked c_next c_memory_words c_registers c_flags_negative c_flags_zero c_flags_carry c_flags_overflow c_exceptions_pending c_exceptions_active c_exceptions_current c_exceptions_masked c_exceptions_priorities c_counter_number c_counter_reload c_counter_on) sz ([.ref h, .int x1, .int x2] : List Value) none) (QcRead (bI (f_ThumbCore_areThere q_memory_size x1 x2))) 0 0 (fun _ => False) := by
  refine tc_rd_z (by decide) (Nat.le_of_ble_eq_true rfl) ?_
  intro p e s m below meth c Q ls hx hb hml hts hown hK hN hP hD hl RET
  have hl : lv_has ls 3 [(0, .ref h), (1, .int x1), (2, .int x2)] := hl
  generalize hF : f_ThumbCore_areThere q_memory_size x1 x2 = FF at RET
  have hq : FF = f_ThumbCore_areThere q_memory_size x1 x2 := hF.symm
  refine lv_iload_n hx hb d_ThumbCore_areThere_0 rfl (lv_at hl 1 rfl) ?_
  refine lv_if_eq (tgt := 23) hx hb d_ThumbCore_areThere_1 (by decide) (fun g_1 => ?_) (fun g_1 => ?_)
  · have hq := hq.trans (if_pos g_1)
    refine lv_iconst (v := 0) hx hb d_ThumbCore_areThere_23 (by decide) ?_
    exact RET ls 24 d_ThumbCore_areThere_24 hq
  · have hq := hq.trans (if_neg g_1)
    refine lv_aload_n hx hb d_ThumbCore_areThere_4 rfl (lv_at hl 0 rfl) ?_
    refine va_get (D := D) (ci := 4) (v := .ref h_memory) (C := R_ThumbCore) (T := F_ThumbCore) (N := 8) hx hb hts u_ThumbCore hown hK hP 0 rfl rfl 0 (by decide) (hts _ wf_ThumbCore_21) (fun _ h9 => h9) rfl d_ThumbCore_areThere_5 ?_
    refine lv_iload_n hx hb d_ThumbCore_areThere_8 rfl (lv_at hl 2 rfl) ?_
    refine lv_iload_n hx hb d_ThumbCore_areThere_9 rfl (lv_at hl 1 rfl) ?_
    refine tc_rd (va_runS (As := [.int x1]) (rest := [.int x2, .ref h_memory]) ⟨hx, hb, hml, hown, hts⟩ (c_Integer_bitCount l x1) (va_cwS 1 hts (tc_gS wl_ThumbCore_134 wt_Integer_bitCount wi_Integer wc_Integer_bitCount) rfl rfl rfl (by decide +kernel) ⟨Nat.le_of_ble_eq_true rfl, Nat.le_of_ble_eq_true rfl⟩) tc_preS rfl rfl hl.1 rfl (lv_room (Nat.le_of_ble_eq_true rfl)) d_ThumbCore_areThere_10 (by decide)) ?_
    refine lv_topi (fun v1 e_v1 => ?_)
    have hq := tc_nm hq e_v1
    refine tc_rd (va_runV (As := [.int x2, .int v1]) (rest := []) ⟨hx, hb, hml, hown, hts⟩ (c_Memory_areThere l D cI cB cZ h_memory h_memory_words s.heap.size q_memory_size n_memory_words c_memory_words x2 v1) (cwV 2 hts (tc_gV wl_ThumbCore_295 wm_Memory_areThere ws_Memory_areThere wi_Memory wc_Memory_areThere) rfl rfl rfl (by decide +kernel) ⟨Nat.le_of_ble_eq_true rfl, Nat.le_of_ble_eq_true rfl⟩) (tc_preV hK hN hP hD [1, 2] rfl (by decide) (q0 := 1) rfl rfl) rfl rfl hl.1 rfl (lv_room (Nat.le_of_ble_eq_true rfl)) d_ThumbCore_areThere_13 (by decide)) ?_
    refine tc_topb (fun v2 e_v2 => ?_)
    have hq := tc_nm hq e_v2
    refine lv_if_eq (tgt := 23) hx hb d_ThumbCore_areThere_16 (by decide) (fun g_16 => ?_) (fun g_16 => ?_)
    · have hq := hq.trans (if_pos g_16)
      refine lv_iconst (v := 0) hx hb d_ThumbCore_areThere_23 (by decide) ?_
      exact RET ls 24 d_ThumbCore_areThere_24 hq
    · have hq := hq.trans (if_neg g_16)
      refine lv_iconst (v := 1) hx hb d_ThumbCore_areThere_19 (by decide) ?_
      refine lv_goto (tgt := 24) hx hb d_ThumbCore_areThere_20 (by decide) ?_
      exact RET ls 24 d_ThumbCore_areThere_24 hq
abbrev rm_ThumbCore_writeList : Room := { frames := 2, cells := 0, slots := 0, locals := 46 }
set_option maxHeartbeats 4000000 in
set_option maxRecDepth 100000 in
theorem c_ThumbCore_writeList (l : Launch) (D : va_G) (cI cB cZ : ClassId) (h h_memory h_memory_words h_registers h_flags h_exceptions h_exceptions_priorities h_counter sz : Nat) (q_memory_size : Int32) (n_memory_words : Nat) (c_asleep : Bool) (c_locked : Bool) (c_next : Int32) (c_memory_words : Nat → Int32) (c_registers : Nat → Int32) (c_flags_negative : Bool) (c_flags_zero : Bool) (c_flags_carry : Bool) (c_flags_overflow : Bool) (c_exceptions_pending : Int32) (c_exceptions_active : Int32) (c_exceptions_current : Int32) (c_exceptions_masked : Bool) (c_exceptions_priorities : Nat → Int32) (c_counter_number : Int32) (c_counter_reload : Int32) (c_counter_on : Bool) (x1 : Int32) (x2 : Int32) (hm : tc_mem q_memory_size n_memory_words) (hL : tc_run q_memory_size x2 x1 0) : Met l y_ThumbCore_writeList (.code y_ThumbCore_writeList b_ThumbCore_writeList 5 none :: tcb) rm_ThumbCore_writeList (tc_Pw D tcl (tys cI cB cZ) (wd_ThumbCore cI cB cZ h h_memory h_memory_words h_registers h_flags h_exceptions h_exceptions_priorities h_counter q_memory_size n_memory_words c_asleep c_locked c_next c_memory_words c_registers c_flags_negative c_flags_zero c_flags_carry c_flags_overflow c_exceptions_pending c_exceptions_active c_exceptions_current c_exceptions_masked c_exceptions_priorities c_counter_number c_counter_reload c_counter_on) sz ([.ref h, .int x1, .int x2] : List Value) none) (tc_Qv D tcl (wd_ThumbCore cI cB cZ h h_memory h_memory_words h_registers h_flags h_exceptions h_exceptions_priorities h_counter q_memory_size n_memory_words c_asleep c_locked c_next c_memory_words c_registers c_flags_negative c_flags_zero c_flags_carry c_flags_overflow c_exceptions_pending c_exceptions_active c_exceptions_current c_exceptions_masked c_exceptions_priorities c_counter_number c_counter_reload c_counter_on) sz (fun u => (wd_ThumbCore cI cB cZ h h_memory h_memory_words h_registers h_flags h_exceptions h_exceptions_priorities h_counter q_memory_size n_memory_words c_asleep c_locked c_next u c_registers c_flags_negative c_flags_zero c_flags_carry c_flags_overflow c_exceptions_pending c_exceptions_active c_exceptions_current c_exceptions_masked c_exceptions_priorities c_counter_number c_counter_reload c_counter_on)) (f_ThumbCore_writeList c_registers c_memory_words x1 x2)) 0 0 (va_A (wd_ThumbCore cI cB cZ h h_memory h_memory_words h_registers h_flags h_exceptions h_exceptions_priorities h_counter q_memory_size n_memory_words c_asleep c_locked c_next c_memory_words c_registers c_flags_negative c_flags_zero c_flags_carry c_flags_overflow c_exceptions_pending c_exceptions_active c_exceptions_current c_exceptions_masked c_exceptions_priorities c_counter_number c_counter_reload c_counter_on) sz) := by
  refine tc_mu_v (by decide) (Nat.le_of_ble_eq_true rfl) ?_
  intro p e s m below meth c A Q ls hx hb hml hts hown hK hN hP hD hA hZ hl RET
  have hS : va_S A s.heap s.heap [] := va_S.rf
  have hl : lv_has ls 5 [(0, .ref h), (1, .int x1), (2, .int x2)] := hl
  generalize hF : f_ThumbCore_writeList c_registers c_memory_words x1 x2 = FF at RET
  have J_5 : ∀ n : Nat, ∀ (H : Heap) (locs : List Loc) (ls : Array Slot) (c_memory_words : Nat → Int32) (y1 : Int32) (y3 : Int32) (y4 : Int32), va_P D tcl (wd_ThumbCore cI cB cZ h h_memory h_memory_words h_registers h_flags h_exceptions h_exceptions_priorities h_counter q_memory_size n_memory_words c_asleep c_locked c_next c_memory_words c_registers c_flags_negative c_flags_zero c_flags_carry c_flags_overflow c_exceptions_pending c_exceptions_active c_exceptions_current c_exceptions_masked c_exceptions_priorities c_counter_number c_counter_reload c_counter_on) H → va_D A (wd_ThumbCore cI cB cZ h h_memory h_memory_words h_registers h_flags h_exceptions h_exceptions_priorities h_counter q_memory_size n_memory_words c_asleep c_locked c_next c_memory_words c_registers c_flags_negative c_flags_zero c_flags_carry c_flags_overflow c_exceptions_pending c_exceptions_active c_exceptions_current c_exceptions_masked c_exceptions_priorities c_counter_number c_counter_reload c_counter_on) → va_S A s.heap H locs → lv_has ls 5 [(0, .ref h), (1, .int y1), (3, .int y3), (4, .int y4)] → FF = k_ThumbCore_writeList_5 c_registers n c_memory_words y1 y3 y4 → (tc_lp y4 15 n) → (tc_run q_memory_size y3 y1 y4) → W p l e rm_ThumbCore_writeList s m ([.ref h, .int x1, .int x2] : List Value).toArray below meth c H locs 0 0 Q (F0 m 5 ls []) := by
    intro n
    induction n with
    | zero =>
      intro H locs ls c_memory_words y1 y3 y4 hP hD hS hl hq hinv hL
      exact (tc_lp0 hinv).elim
    | succ n_5 IH_5 =>
      have J_40 : ∀ (H : Heap) (locs : List Loc) (ls : Array Slot) (c_memory_words : Nat → Int32) (y1 : Int32) (y3 : Int32) (y4 : Int32), va_P D tcl (wd_ThumbCore cI cB cZ h h_memory h_memory_words h_registers h_flags h_exceptions h_exceptions_priorities h_counter q_memory_size n_memory_words c_asleep c_locked c_next c_memory_words c_registers c_flags_negative c_flags_zero c_flags_carry c_flags_overflow c_exceptions_pending c_exceptions_active c_exceptions_current c_exceptions_masked c_exceptions_priorities c_counter_number c_counter_reload c_counter_on) H → va_D A (wd_ThumbCore cI cB cZ h h_memory h_memory_words h_registers h_flags h_exceptions h_exceptions_priorities h_counter q_memory_size n_memory_words c_asleep c_locked c_next c_memory_words c_registers c_flags_negative c_flags_zero c_flags_carry c_flags_overflow c_exceptions_pending c_exceptions_active c_exceptions_current c_exceptions_masked c_exceptions_priorities c_counter_number c_counter_reload c_counter_on) → va_S A s.heap H locs → lv_has ls 5 [(0, .ref h), (1, .int y1), (3, .int y3), (4, .int y4)] → FF = k_ThumbCore_writeList_40 c_registers (k_ThumbCore_writeList_5 c_registers n_5) c_memory_words y1 y3 y4 → (tc_lp y4 15 (n_5 + 1)) → (y4.toInt < (15 : Nat)) → (tc_run q_memory_size y3 y1 (y4 + 1)) → W p l e rm_ThumbCore_writeList s m ([.ref h, .int x1, .int x2] : List Value).toArray below meth c H locs 0 0 Q (F0 m 40 ls []) := by
        intro H locs ls c_memory_words y1 y3 y4 hP hD hS hl hq hinv hgd hL2
        refine lv_iinc (k := 3) (v := (y4 + 1)) (lv' := [(4, .int (y4 + 1)), (0, .ref h), (1, .int y1), (3, .int y3)]) hx hb d_ThumbCore_writeList_40 hl rfl rfl (by decide) rfl (fun ls hl => ?_)
        refine lv_goto (tgt := 5) hx hb d_ThumbCore_writeList_43 (by decide) ?_
        exact IH_5 H locs ls c_memory_words y1 y3 (y4 + 1) hP hD hS (lv_sub hl [1, 2, 3, 0] rfl) hq (tc_lpS hinv hgd (by decide)) hL2
      intro H locs ls c_memory_words y1 y3 y4 hP hD hS hl hq hinv hL
      refine lv_iload hx hb d_ThumbCore_writeList_5 (lv_at hl 3 rfl) ?_
      refine lv_bipush (v := 15) hx hb d_ThumbCore_writeList_7 (by decide) ?_
      refine lv_icmp_ge (tgt := 46) hx hb d_ThumbCore_writeList_9 (by decide) (fun g_9 => ?_) (fun g_9 => ?_)
      · have hq := hq.trans (if_pos g_9)
        exact RET H locs ls 46 c_memory_words d_ThumbCore_writeList_46 hP hD hS hq
      · have hq := hq.trans (if_neg g_9)
        have hgd : y4.toInt < ((15 : Nat) : Int) := tc_gge g_9 (by decide)
        refine lv_iload_n hx hb d_ThumbCore_writeList_12 rfl (lv_at hl 1 rfl) ?_
        refine lv_iload hx hb d_ThumbCore_writeList_13 (lv_at hl 3 rfl) ?_
        refine lv_iushr (v := (o_iushr y1 y4)) hx hb d_ThumbCore_writeList_15 rfl ?_
        refine lv_iconst (v := 1) hx hb d_ThumbCore_writeList_16 (by decide) ?_
        refine lv_iand hx hb d_ThumbCore_writeList_17 ?_
        refine lv_iconst (v := 1) hx hb d_ThumbCore_writeList_18 (by decide) ?_
        refine lv_icmp_ne (tgt := 40) hx hb d_ThumbCore_writeList_19 (by decide) (fun g_19 => ?_) (fun g_19 => ?_)
        · have hq := hq.trans (if_pos g_19)
          exact J_40 H locs ls c_memory_words y1 y3 y4 hP hD hS (lv_sub hl [0, 1, 2, 3] rfl) hq (by assumption) (by assumption) (tc_run0 hL hinv hgd g_19)
        · have hq := hq.trans (if_neg (fun g => g g_19))
          refine lv_aload_n hx hb d_ThumbCore_writeList_22 rfl (lv_at hl 0 rfl) ?_
          refine va_get (D := D) (ci := 4) (v := .ref h_memory) (C := R_ThumbCore) (T := F_ThumbCore) (N := 8) hx hb hts u_ThumbCore hown hK hP 0 rfl rfl 0 (by decide) (hts _ wf_ThumbCore_21) (fun _ h9 => h9) rfl d_ThumbCore_writeList_23 ?_
          refine lv_iload_n hx hb d_ThumbCore_writeList_26 rfl (lv_at hl 2 rfl) ?_
          refine lv_aload_n hx hb d_ThumbCore_writeList_27 rfl (lv_at hl 0 rfl) ?_
          refine va_get (D := D) (ci := 4) (v := .ref h_registers) (C := R_ThumbCore) (T := F_ThumbCore) (N := 8) hx hb hts u_ThumbCore hown hK hP 0 rfl rfl 1 (by decide) (hts _ wf_ThumbCore_27) (fun _ h9 => h9) rfl d_ThumbCore_writeList_28 ?_
          refine lv_iload hx hb d_ThumbCore_writeList_31 (lv_at hl 3 rfl) ?_
          refine va_iald hx hb hK hP 3 0 rfl rfl (tc_lpI hinv hgd (by decide)) d_ThumbCore_writeList_33 ?_
          refine tc_mv (wo := fun u => (wd_ThumbCore cI cB cZ h h_memory h_memory_words h_registers h_flags h_exceptions h_exceptions_priorities h_counter q_memory_size n_memory_words c_asleep c_locked c_next u c_registers c_flags_negative c_flags_zero c_flags_carry c_flags_overflow c_exceptions_pending c_exceptions_active c_exceptions_current c_exceptions_masked c_exceptions_priorities c_counter_number c_counter_reload c_counter_on)) (va_runV (As := [.int y3, .int (c_registers y4.toNatClampNeg)]) (rest := []) ⟨hx, hb, hml, hown, hts⟩ (c_Memory_putWord l D cI cB cZ h_memory h_memory_words H.size q_memory_size n_memory_words c_memory_words y3 (c_registers y4.toNatClampNeg) hm (tc_runOk hm hL hinv hgd g_19)) (cwV 2 hts (tc_gV wl_ThumbCore_296 wm_Memory_putWord ws_Memory_putWord wi_Memory wc_Memory_putWord) rfl rfl rfl (by decide +kernel) ⟨Nat.le_of_ble_eq_true rfl, Nat.le_of_ble_eq_true rfl⟩) (tc_preV hK hN hP hD [1, 2] rfl (by decide) (q0 := 1) rfl rfl) rfl rfl hl.1 rfl (lv_room (Nat.le_of_ble_eq_true rfl)) d_ThumbCore_writeList_34 (by decide)) hP hD hS hA [1, 2] [0, 3, 4, 5, 6, 7] [0, 6, 7, 1, 2, 3, 4, 5] rfl rfl (by decide) (by decide) (by decide) (fun _ => rfl) (fun s1 H locs e_s1 hP hD hS => ?_)
          have hq := tc_nm hq e_s1
          have hP : va_P D tcl (wd_ThumbCore cI cB cZ h h_memory h_memory_words h_registers h_flags h_exceptions h_exceptions_priorities h_counter q_memory_size n_memory_words c_asleep c_locked c_next s1 c_registers c_flags_negative c_flags_zero c_flags_carry c_flags_overflow c_exceptions_pending c_exceptions_active c_exceptions_current c_exceptions_masked c_exceptions_priorities c_counter_number c_counter_reload c_counter_on) H := hP
          have hD : va_D A (wd_ThumbCore cI cB cZ h h_memory h_memory_words h_registers h_flags h_exceptions h_exceptions_priorities h_counter q_memory_size n_memory_words c_asleep c_locked c_next s1 c_registers c_flags_negative c_flags_zero c_flags_carry c_flags_overflow c_exceptions_pending c_exceptions_active c_exceptions_current c_exceptions_masked c_exceptions_priorities c_counter_number c_counter_reload c_counter_on) := hD
          refine lv_iinc (k := 2) (v := (y3 + 4)) (lv' := [(3, .int (y3 + 4)), (0, .ref h), (1, .int y1), (4, .int y4)]) hx hb d_ThumbCore_writeList_37 hl rfl rfl (by decide) rfl (fun ls hl => ?_)
          exact J_40 H locs ls s1 y1 (y3 + 4) y4 hP hD hS (lv_sub hl [1, 2, 0, 3] rfl) hq (by assumption) (by assumption) (tc_run1 hm hL hinv hgd g_19)
  have hq : FF = f_ThumbCore_writeList c_registers c_memory_words x1 x2 := hF.symm
  revert hP hD hS
  suffices G : ∀ (H : Heap) (locs : List Loc), va_P D tcl (wd_ThumbCore cI cB cZ h h_memory h_memory_words h_registers h_flags h_exceptions h_exceptions_priorities h_counter q_memory_size n_memory_words c_asleep c_locked c_next c_memory_words c_registers c_flags_negative c_flags_zero c_flags_carry c_flags_overflow c_exceptions_pending c_exceptions_active c_exceptions_current c_exceptions_masked c_exceptions_priorities c_counter_number c_counter_reload c_counter_on) H → va_D A (wd_ThumbCore cI cB cZ h h_memory h_memory_words h_registers h_flags h_exceptions h_exceptions_priorities h_counter q_memory_size n_memory_words c_asleep c_locked c_next c_memory_words c_registers c_flags_negative c_flags_zero c_flags_carry c_flags_overflow c_exceptions_pending c_exceptions_active c_exceptions_current c_exceptions_masked c_exceptions_priorities c_counter_number c_counter_reload c_counter_on) → va_S A s.heap H locs → W p l e rm_ThumbCore_writeList s m ([.ref h, .int x1, .int x2] : List Value).toArray below meth c H locs 0 0 Q (F0 m 0 ls []) from fun hP hD hS => G _ _ hP hD hS
  intro H locs hP hD hS
  refine lv_iload_n hx hb d_ThumbCore_writeList_0 rfl (lv_at hl 2 rfl) ?_
  refine lv_istore_n (lv' := [(3, .int x2), (0, .ref h), (1, .int x1), (2, .int x2)]) hx hb d_ThumbCore_writeList_1 rfl hl (by decide) rfl (fun ls hl => ?_)
  refine lv_iconst (v := 0) hx hb d_ThumbCore_writeList_2 (by decide) ?_
  refine lv_istore (lv' := [(4, .int 0), (3, .int x2), (0, .ref h), (1, .int x1), (2, .int x2)]) hx hb d_ThumbCore_writeList_3 hl (by decide) rfl (fun ls hl => ?_)
  exact J_5 (16) H locs ls c_memory_words x1 x2 0 hP hD hS (lv_sub hl [2, 3, 1, 0] rfl) hq (tc_lpE _) (by assumption)
abbrev rm_ThumbCore_push : Room := { frames := 3, cells := 0, slots := 0, locals := 70 }
set_option maxHeartbeats 4000000 in
set_option maxRecDepth 100000 in
theorem c_ThumbCore_push (l : Launch) (D : va_G) (cI cB cZ : ClassId) (h h_memory h_memory_words h_registers h_flags h_exceptions h_exceptions_priorities h_counter sz : Nat) (q_memory_size : Int32) (n_memory_words : Nat) (c_asleep : Bool) (c_locked : Bool) (c_next : Int32) (c_memory_words : Nat → Int32) (c_registers : Nat → Int32) (c_flags_negative : Bool) (c_flags_zero : Bool) (c_flags_carry : Bool) (c_flags_overflow : Bool) (c_exceptions_pending : Int32) (c_exceptions_active : Int32) (c_exceptions_current : Int32) (c_exceptions_masked : Bool) (c_exceptions_priorities : Nat → Int32) (c_counter_number : Int32) (c_counter_reload : Int32) (c_counter_on : Bool) (x1 : Int32) (hm : tc_mem q_memory_size n_memory_words) (hc : tc_cl x1) : Met l y_ThumbCore_push (.code y_ThumbCore_push b_ThumbCore_push 3 (some .boolean) :: tcb) rm_ThumbCore_push (tc_Pw D tcl (tys cI cB cZ) (wd_ThumbCore cI cB cZ h h_memory h_memory_words h_registers h_flags h_exceptions h_exceptions_priorities h_counter q_memory_size n_memory_words c_asleep c_locked c_next c_memory_words c_registers c_flags_negative c_flags_zero c_flags_carry c_flags_overflow c_exceptions_pending c_exceptions_active c_exceptions_current c_exceptions_masked c_exceptions_priorities c_counter_number c_counter_reload c_counter_on) sz ([.ref h, .int x1] : List Value) none) (tc_Qz D tcl (wd_ThumbCore cI cB cZ h h_memory h_memory_words h_registers h_flags h_exceptions h_exceptions_priorities h_counter q_memory_size n_memory_words c_asleep c_locked c_next c_memory_words c_registers c_flags_negative c_flags_zero c_flags_carry c_flags_overflow c_exceptions_pending c_exceptions_active c_exceptions_current c_exceptions_masked c_exceptions_priorities c_counter_number c_counter_reload c_counter_on) sz (fun u => (wd_ThumbCore cI cB cZ h h_memory h_memory_words h_registers h_flags h_exceptions h_exceptions_priorities h_counter q_memory_size n_memory_words c_asleep c_locked c_next u.2.1 u.2.2 c_flags_negative c_flags_zero c_flags_carry c_flags_overflow c_exceptions_pending c_exceptions_active c_exceptions_current c_exceptions_masked c_exceptions_priorities c_counter_number c_counter_reload c_counter_on)) (f_ThumbCore_push q_memory_size c_memory_words c_registers x1)) 0 0 (va_A (wd_ThumbCore cI cB cZ h h_memory h_memory_words h_registers h_flags h_exceptions h_exceptions_priorities h_counter q_memory_size n_memory_words c_asleep c_locked c_next c_memory_words c_registers c_flags_negative c_flags_zero c_flags_carry c_flags_overflow c_exceptions_pending c_exceptions_active c_exceptions_current c_exceptions_masked c_exceptions_priorities c_counter_number c_counter_reload c_counter_on) sz) := by
  refine tc_mu_z (by decide) (Nat.le_of_ble_eq_true rfl) ?_
  intro p e s m below meth c A Q ls hx hb hml hts hown hK hN hP hD hA hZ hl RET
  have hS : va_S A s.heap s.heap [] := va_S.rf
  have hl : lv_has ls 3 [(0, .ref h), (1, .int x1)] := hl
  generalize hF : f_ThumbCore_push q_memory_size c_memory_words c_registers x1 = FF at RET
  have hq : FF = f_ThumbCore_push q_memory_size c_memory_words c_registers x1 := hF.symm
  revert hP hD hS
  suffices G : ∀ (H : Heap) (locs : List Loc), va_P D tcl (wd_ThumbCore cI cB cZ h h_memory h_memory_words h_registers h_flags h_exceptions h_exceptions_priorities h_counter q_memory_size n_memory_words c_asleep c_locked c_next c_memory_words c_registers c_flags_negative c_flags_zero c_flags_carry c_flags_overflow c_exceptions_pending c_exceptions_active c_exceptions_current c_exceptions_masked c_exceptions_priorities c_counter_number c_counter_reload c_counter_on) H → va_D A (wd_ThumbCore cI cB cZ h h_memory h_memory_words h_registers h_flags h_exceptions h_exceptions_priorities h_counter q_memory_size n_memory_words c_asleep c_locked c_next c_memory_words c_registers c_flags_negative c_flags_zero c_flags_carry c_flags_overflow c_exceptions_pending c_exceptions_active c_exceptions_current c_exceptions_masked c_exceptions_priorities c_counter_number c_counter_reload c_counter_on) → va_S A s.heap H locs → W p l e rm_ThumbCore_push s m ([.ref h, .int x1] : List Value).toArray below meth c H locs 0 0 Q (F0 m 0 ls []) from fun hP hD hS => G _ _ hP hD hS
  intro H locs hP hD hS
  refine lv_aload_n hx hb d_ThumbCore_push_0 rfl (lv_at hl 0 rfl) ?_
  refine va_get (D := D) (ci := 4) (v := .ref h_registers) (C := R_ThumbCore) (T := F_ThumbCore) (N := 8) hx hb hts u_ThumbCore hown hK hP 0 rfl rfl 1 (by decide) (hts _ wf_ThumbCore_27) (fun _ h9 => h9) rfl d_ThumbCore_push_1 ?_
  refine lv_bipush (v := 13) hx hb d_ThumbCore_push_4 (by decide) ?_
  refine va_iald hx hb hK hP 3 0 rfl rfl (by show ¬ (_ ∨ _); decide) d_ThumbCore_push_6 ?_
  refine lv_iconst (v := 4) hx hb d_ThumbCore_push_7 (by decide) ?_
  refine lv_iload_n hx hb d_ThumbCore_push_8 rfl (lv_at hl 1 rfl) ?_
  refine tc_rd (va_runS (As := [.int x1]) (rest := [.int 4, .int (c_registers (13 : Int32).toNatClampNeg)]) ⟨hx, hb, hml, hown, hts⟩ (c_Integer_bitCount l x1) (va_cwS 1 hts (tc_gS wl_ThumbCore_134 wt_Integer_bitCount wi_Integer wc_Integer_bitCount) rfl rfl rfl (by decide +kernel) ⟨Nat.le_of_ble_eq_true rfl, Nat.le_of_ble_eq_true rfl⟩) tc_preS rfl rfl hl.1 rfl (lv_room (Nat.le_of_ble_eq_true rfl)) d_ThumbCore_push_9 (by decide)) ?_
  refine lv_topi (fun v1 e_v1 => ?_)
  have hq := tc_nm hq e_v1
  refine lv_imul hx hb d_ThumbCore_push_12 ?_
  refine lv_isub hx hb d_ThumbCore_push_13 ?_
  refine lv_topi (fun v2 e_v2 => ?_)
  have hq := tc_nm hq e_v2
  refine lv_istore_n (lv' := [(2, .int v2), (0, .ref h), (1, .int x1)]) hx hb d_ThumbCore_push_14 rfl hl (by decide) rfl (fun ls hl => ?_)
  refine lv_aload_n hx hb d_ThumbCore_push_15 rfl (lv_at hl 1 rfl) ?_
  refine lv_iload_n hx hb d_ThumbCore_push_16 rfl (lv_at hl 2 rfl) ?_
  refine lv_iload_n hx hb d_ThumbCore_push_17 rfl (lv_at hl 0 rfl) ?_
  refine tc_rd (va_runV (As := [.int x1, .int v2]) (rest := []) ⟨hx, hb, hml, hown, hts⟩ (c_ThumbCore_areThere l D cI cB cZ h h_memory h_memory_words h_registers h_flags h_exceptions h_exceptions_priorities h_counter H.size q_memory_size n_memory_words c_asleep c_locked c_next c_memory_words c_registers c_flags_negative c_flags_zero c_flags_carry c_flags_overflow c_exceptions_pending c_exceptions_active c_exceptions_current c_exceptions_masked c_exceptions_priorities c_counter_number c_counter_reload c_counter_on x1 v2) (cwV 2 hts (tc_gV wl_ThumbCore_283 wm_ThumbCore_areThere ws_ThumbCore_areThere wi_ThumbCore wc_ThumbCore_areThere) rfl rfl rfl (by decide +kernel) ⟨Nat.le_of_ble_eq_true rfl, Nat.le_of_ble_eq_true rfl⟩) (tc_preV hK hN hP hD [0, 1, 2, 3, 4, 5, 6, 7] rfl (by decide) (q0 := 0) rfl rfl) rfl rfl hl.1 rfl (lv_room (Nat.le_of_ble_eq_true rfl)) d_ThumbCore_push_18 (by decide)) ?_
  refine tc_topb (fun v3 e_v3 => ?_)
  have hq := tc_nm hq e_v3
  refine lv_if_ne (tgt := 26) hx hb d_ThumbCore_push_21 (by decide) (fun g_21 => ?_) (fun g_21 => ?_)
  · have hq := hq.trans (if_pos g_21)
    refine lv_aload_n hx hb d_ThumbCore_push_26 rfl (lv_at hl 1 rfl) ?_
    refine lv_iload_n hx hb d_ThumbCore_push_27 rfl (lv_at hl 2 rfl) ?_
    refine lv_iload_n hx hb d_ThumbCore_push_28 rfl (lv_at hl 0 rfl) ?_
    refine tc_mv (wo := fun u => (wd_ThumbCore cI cB cZ h h_memory h_memory_words h_registers h_flags h_exceptions h_exceptions_priorities h_counter q_memory_size n_memory_words c_asleep c_locked c_next u c_registers c_flags_negative c_flags_zero c_flags_carry c_flags_overflow c_exceptions_pending c_exceptions_active c_exceptions_current c_exceptions_masked c_exceptions_priorities c_counter_number c_counter_reload c_counter_on)) (va_runV (As := [.int x1, .int v2]) (rest := []) ⟨hx, hb, hml, hown, hts⟩ (c_ThumbCore_writeList l D cI cB cZ h h_memory h_memory_words h_registers h_flags h_exceptions h_exceptions_priorities h_counter H.size q_memory_size n_memory_words c_asleep c_locked c_next c_memory_words c_registers c_flags_negative c_flags_zero c_flags_carry c_flags_overflow c_exceptions_pending c_exceptions_active c_exceptions_current c_exceptions_masked c_exceptions_priorities c_counter_number c_counter_reload c_counter_on x1 v2 hm (tc_lT hm hc (tc_bT e_v3 g_21))) (cwV 2 hts (tc_gV wl_ThumbCore_286 wm_ThumbCore_writeList ws_ThumbCore_writeList wi_ThumbCore wc_ThumbCore_writeList) rfl rfl rfl (by decide +kernel) ⟨Nat.le_of_ble_eq_true rfl, Nat.le_of_ble_eq_true rfl⟩) (tc_preV hK hN hP hD [0, 1, 2, 3, 4, 5, 6, 7] rfl (by decide) (q0 := 0) rfl rfl) rfl rfl hl.1 rfl (lv_room (Nat.le_of_ble_eq_true rfl)) d_ThumbCore_push_29 (by decide)) hP hD hS hA [0, 1, 2, 3, 4, 5, 6, 7] [] [0, 1, 2, 3, 4, 5, 6, 7] rfl rfl (by decide) (by decide) (by decide) (fun _ => rfl) (fun s4 H locs e_s4 hP hD hS => ?_)
    have hq := tc_nm hq e_s4
    have hP : va_P D tcl (wd_ThumbCore cI cB cZ h h_memory h_memory_words h_registers h_flags h_exceptions h_exceptions_priorities h_counter q_memory_size n_memory_words c_asleep c_locked c_next s4 c_registers c_flags_negative c_flags_zero c_flags_carry c_flags_overflow c_exceptions_pending c_exceptions_active c_exceptions_current c_exceptions_masked c_exceptions_priorities c_counter_number c_counter_reload c_counter_on) H := hP
    have hD : va_D A (wd_ThumbCore cI cB cZ h h_memory h_memory_words h_registers h_flags h_exceptions h_exceptions_priorities h_counter q_memory_size n_memory_words c_asleep c_locked c_next s4 c_registers c_flags_negative c_flags_zero c_flags_carry c_flags_overflow c_exceptions_pending c_exceptions_active c_exceptions_current c_exceptions_masked c_exceptions_priorities c_counter_number c_counter_reload c_counter_on) := hD
    refine lv_aload_n hx hb d_ThumbCore_push_32 rfl (lv_at hl 1 rfl) ?_
    refine va_get (D := D) (ci := 4) (v := .ref h_registers) (C := R_ThumbCore) (T := F_ThumbCore) (N := 8) hx hb hts u_ThumbCore hown hK hP 0 rfl rfl 1 (by decide) (hts _ wf_ThumbCore_27) (fun _ h9 => h9) rfl d_ThumbCore_push_33 ?_
    refine lv_bipush (v := 13) hx hb d_ThumbCore_push_36 (by decide) ?_
    refine lv_iload_n hx hb d_ThumbCore_push_38 rfl (lv_at hl 0 rfl) ?_
    refine va_iast hx hb hK hP hD hS 3 0 rfl rfl (by show ¬ (_ ∨ _); decide) d_ThumbCore_push_39 (fun H locs hP hD hS => ?_)
    have hP : va_P D tcl (wd_ThumbCore cI cB cZ h h_memory h_memory_words h_registers h_flags h_exceptions h_exceptions_priorities h_counter q_memory_size n_memory_words c_asleep c_locked c_next s4 (upd c_registers (13 : Int32).toNatClampNeg v2) c_flags_negative c_flags_zero c_flags_carry c_flags_overflow c_exceptions_pending c_exceptions_active c_exceptions_current c_exceptions_masked c_exceptions_priorities c_counter_number c_counter_reload c_counter_on) H := hP
    have hD : va_D A (wd_ThumbCore cI cB cZ h h_memory h_memory_words h_registers h_flags h_exceptions h_exceptions_priorities h_counter q_memory_size n_memory_words c_asleep c_locked c_next s4 (upd c_registers (13 : Int32).toNatClampNeg v2) c_flags_negative c_flags_zero c_flags_carry c_flags_overflow c_exceptions_pending c_exceptions_active c_exceptions_current c_exceptions_masked c_exceptions_priorities c_counter_number c_counter_reload c_counter_on) := hD
    refine lv_iconst (v := 1) hx hb d_ThumbCore_push_40 (by decide) ?_
    exact RET H locs ls 41 (true, s4, (upd c_registers (13 : Int32).toNatClampNeg v2)) d_ThumbCore_push_41 hP hD hS hq
  · have hq := hq.trans (if_neg (fun g => g g_21))
    refine lv_iconst (v := 0) hx hb d_ThumbCore_push_24 (by decide) ?_
    exact RET H locs ls 25 (false, c_memory_words, c_registers) d_ThumbCore_push_25 hP hD hS hq
abbrev rm_ThumbCore_changeMask : Room := { frames := 1, cells := 0, slots := 0, locals := 24 }
set_option maxHeartbeats 4000000 in
set_option maxRecDepth 100000 in
theorem c_ThumbCore_changeMask (l : Launch) (D : va_G) (cI cB cZ : ClassId) (h h_memory h_memory_words h_registers h_flags h_exceptions h_exceptions_priorities h_counter sz : Nat) (q_memory_size : Int32) (n_memory_words : Nat) (c_asleep : Bool) (c_locked : Bool) (c_next : Int32) (c_memory_words : Nat → Int32) (c_registers : Nat → Int32) (c_flags_negative : Bool) (c_flags_zero : Bool) (c_flags_carry : Bool) (c_flags_overflow : Bool) (c_exceptions_pending : Int32) (c_exceptions_active : Int32) (c_exceptions_current : Int32) (c_exceptions_masked : Bool) (c_exceptions_priorities : Nat → Int32) (c_counter_number : Int32) (c_counter_reload : Int32) (c_counter_on : Bool) (x1 : Int32) : Met l y_ThumbCore_changeMask (.code y_ThumbCore_changeMask b_ThumbCore_changeMask 2 (some .boolean) :: tcb) rm_ThumbCore_changeMask (tc_Pw D tcl (tys cI cB cZ) (wd_ThumbCore cI cB cZ h h_memory h_memory_words h_registers h_flags h_exceptions h_exceptions_priorities h_counter q_memory_size n_memory_words c_asleep c_locked c_next c_memory_words c_registers c_flags_negative c_flags_zero c_flags_carry c_flags_overflow c_exceptions_pending c_exceptions_active c_exceptions_current c_exceptions_masked c_exceptions_priorities c_counter_number c_counter_reload c_counter_on) sz ([.ref h, .int x1] : List Value) none) (tc_Qz D tcl (wd_ThumbCore cI cB cZ h h_memory h_memory_words h_registers h_flags h_exceptions h_exceptions_priorities h_counter q_memory_size n_memory_words c_asleep c_locked c_next c_memory_words c_registers c_flags_negative c_flags_zero c_flags_carry c_flags_overflow c_exceptions_pending c_exceptions_active c_exceptions_current c_exceptions_masked c_exceptions_priorities c_counter_number c_counter_reload c_counter_on) sz (fun u => (wd_ThumbCore cI cB cZ h h_memory h_memory_words h_registers h_flags h_exceptions h_exceptions_priorities h_counter q_memory_size n_memory_words c_asleep c_locked c_next c_memory_words c_registers c_flags_negative c_flags_zero c_flags_carry c_flags_overflow c_exceptions_pending c_exceptions_active c_exceptions_current u.2 c_exceptions_priorities c_counter_number c_counter_reload c_counter_on)) (f_ThumbCore_changeMask c_exceptions_masked x1)) 0 0 (va_A (wd_ThumbCore cI cB cZ h h_memory h_memory_words h_registers h_flags h_exceptions h_exceptions_priorities h_counter q_memory_size n_memory_words c_asleep c_locked c_next c_memory_words c_registers c_flags_negative c_flags_zero c_flags_carry c_flags_overflow c_exceptions_pending c_exceptions_active c_exceptions_current c_exceptions_masked c_exceptions_priorities c_counter_number c_counter_reload c_counter_on) sz) := by
  refine tc_mu_z (by decide) (Nat.le_of_ble_eq_true rfl) ?_
  intro p e s m below meth c A Q ls hx hb hml hts hown hK hN hP hD hA hZ hl RET
  have hS : va_S A s.heap s.heap [] := va_S.rf
  have hl : lv_has ls 2 [(0, .ref h), (1, .int x1)] := hl
  generalize hF : f_ThumbCore_changeMask c_exceptions_masked x1 = FF at RET
  have J_32 : ∀ (H : Heap) (locs : List Loc) (ls : Array Slot) (c_exceptions_masked : Bool) (z1 : Bool), va_P D tcl (wd_ThumbCore cI cB cZ h h_memory h_memory_words h_registers h_flags h_exceptions h_exceptions_priorities h_counter q_memory_size n_memory_words c_asleep c_locked c_next c_memory_words c_registers c_flags_negative c_flags_zero c_flags_carry c_flags_overflow c_exceptions_pending c_exceptions_active c_exceptions_current c_exceptions_masked c_exceptions_priorities c_counter_number c_counter_reload c_counter_on) H → va_D A (wd_ThumbCore cI cB cZ h h_memory h_memory_words h_registers h_flags h_exceptions h_exceptions_priorities h_counter q_memory_size n_memory_words c_asleep c_locked c_next c_memory_words c_registers c_flags_negative c_flags_zero c_flags_carry c_flags_overflow c_exceptions_pending c_exceptions_active c_exceptions_current c_exceptions_masked c_exceptions_priorities c_counter_number c_counter_reload c_counter_on) → va_S A s.heap H locs → lv_has ls 2 [] → FF = k_ThumbCore_changeMask_32 c_exceptions_masked z1 → W p l e rm_ThumbCore_changeMask s m ([.ref h, .int x1] : List Value).toArray below meth c H locs 0 0 Q (F0 m 32 ls [.int (bI z1), .ref h_exceptions]) := by
    intro H locs ls c_exceptions_masked z1 hP hD hS hl hq
    refine va_putN (D := D) (ci := 1) (v := .int (bI z1)) (ty := .boolean) (C := R_Exceptions) (T := F_Exceptions) (N := 5) hx hb hts u_Exceptions t_Exceptions t_Exceptions_ok n_Exceptions hown hK hP hD hS 5 rfl rfl 4 (by decide) (va_Nw.use rfl (hN _ wf_ThumbCore_139)) (fun _ h9 => h9) rfl (by decide +kernel) (tc_nb z1) (tc_fb z1) (Nat.le_of_ble_eq_true rfl) d_ThumbCore_changeMask_32 (fun H locs hP hD hS => ?_)
    have hP : va_P D tcl (wd_ThumbCore cI cB cZ h h_memory h_memory_words h_registers h_flags h_exceptions h_exceptions_priorities h_counter q_memory_size n_memory_words c_asleep c_locked c_next c_memory_words c_registers c_flags_negative c_flags_zero c_flags_carry c_flags_overflow c_exceptions_pending c_exceptions_active c_exceptions_current z1 c_exceptions_priorities c_counter_number c_counter_reload c_counter_on) H := hP
    have hD : va_D A (wd_ThumbCore cI cB cZ h h_memory h_memory_words h_registers h_flags h_exceptions h_exceptions_priorities h_counter q_memory_size n_memory_words c_asleep c_locked c_next c_memory_words c_registers c_flags_negative c_flags_zero c_flags_carry c_flags_overflow c_exceptions_pending c_exceptions_active c_exceptions_current z1 c_exceptions_priorities c_counter_number c_counter_reload c_counter_on) := hD
    refine lv_iconst (v := 1) hx hb d_ThumbCore_changeMask_35 (by decide) ?_
    exact RET H locs ls 36 (true, z1) d_ThumbCore_changeMask_36 hP hD hS hq
  have J_16 : ∀ (H : Heap) (locs : List Loc) (ls : Array Slot) (c_exceptions_masked : Bool) (y1 : Int32), va_P D tcl (wd_ThumbCore cI cB cZ h h_memory h_memory_words h_registers h_flags h_exceptions h_exceptions_priorities h_counter q_memory_size n_memory_words c_asleep c_locked c_next c_memory_words c_registers c_flags_negative c_flags_zero c_flags_carry c_flags_overflow c_exceptions_pending c_exceptions_active c_exceptions_current c_exceptions_masked c_exceptions_priorities c_counter_number c_counter_reload c_counter_on) H → va_D A (wd_ThumbCore cI cB cZ h h_memory h_memory_words h_registers h_flags h_exceptions h_exceptions_priorities h_counter q_memory_size n_memory_words c_asleep c_locked c_next c_memory_words c_registers c_flags_negative c_flags_zero c_flags_carry c_flags_overflow c_exceptions_pending c_exceptions_active c_exceptions_current c_exceptions_masked c_exceptions_priorities c_counter_number c_counter_reload c_counter_on) → va_S A s.heap H locs → lv_has ls 2 [(0, .ref h), (1, .int y1)] → FF = k_ThumbCore_changeMask_16 c_exceptions_masked y1 → W p l e rm_ThumbCore_changeMask s m ([.ref h, .int x1] : List Value).toArray below meth c H locs 0 0 Q (F0 m 16 ls []) := by
    intro H locs ls c_exceptions_masked y1 hP hD hS hl hq
    refine lv_aload_n hx hb d_ThumbCore_changeMask_16 rfl (lv_at hl 0 rfl) ?_
    refine va_get (D := D) (ci := 4) (v := .ref h_exceptions) (C := R_ThumbCore) (T := F_ThumbCore) (N := 8) hx hb hts u_ThumbCore hown hK hP 0 rfl rfl 3 (by decide) (hts _ wf_ThumbCore_41) (fun _ h9 => h9) rfl d_ThumbCore_changeMask_17 ?_
    refine lv_iload_n hx hb d_ThumbCore_changeMask_20 rfl (lv_at hl 1 rfl) ?_
    refine lv_ldcw (v := 46706) hx hb hown (hts _ wk_ThumbCore_280) d_ThumbCore_changeMask_21 ?_
    refine lv_icmp_ne (tgt := 31) hx hb d_ThumbCore_changeMask_24 (by decide) (fun g_24 => ?_) (fun g_24 => ?_)
    · have hq := hq.trans (if_pos g_24)
      refine lv_iconst (v := 0) hx hb d_ThumbCore_changeMask_31 (by decide) ?_
      exact J_32 H locs ls c_exceptions_masked false hP hD hS (lv_sub hl [] rfl) hq
    · have hq := hq.trans (if_neg (fun g => g g_24))
      refine lv_iconst (v := 1) hx hb d_ThumbCore_changeMask_27 (by decide) ?_
      refine lv_goto (tgt := 32) hx hb d_ThumbCore_changeMask_28 (by decide) ?_
      exact J_32 H locs ls c_exceptions_masked true hP hD hS (lv_sub hl [] rfl) hq
  have hq : FF = f_ThumbCore_changeMask c_exceptions_masked x1 := hF.symm
  revert hP hD hS
  suffices G : ∀ (H : Heap) (locs : List Loc), va_P D tcl (wd_ThumbCore cI cB cZ h h_memory h_memory_words h_registers h_flags h_exceptions h_exceptions_priorities h_counter q_memory_size n_memory_words c_asleep c_locked c_next c_memory_words c_registers c_flags_negative c_flags_zero c_flags_carry c_flags_overflow c_exceptions_pending c_exceptions_active c_exceptions_current c_exceptions_masked c_exceptions_priorities c_counter_number c_counter_reload c_counter_on) H → va_D A (wd_ThumbCore cI cB cZ h h_memory h_memory_words h_registers h_flags h_exceptions h_exceptions_priorities h_counter q_memory_size n_memory_words c_asleep c_locked c_next c_memory_words c_registers c_flags_negative c_flags_zero c_flags_carry c_flags_overflow c_exceptions_pending c_exceptions_active c_exceptions_current c_exceptions_masked c_exceptions_priorities c_counter_number c_counter_reload c_counter_on) → va_S A s.heap H locs → W p l e rm_ThumbCore_changeMask s m ([.ref h, .int x1] : List Value).toArray below meth c H locs 0 0 Q (F0 m 0 ls []) from fun hP hD hS => G _ _ hP hD hS
  intro H locs hP hD hS
  refine lv_iload_n hx hb d_ThumbCore_changeMask_0 rfl (lv_at hl 1 rfl) ?_
  refine lv_ldcw (v := 46690) hx hb hown (hts _ wk_ThumbCore_279) d_ThumbCore_changeMask_1 ?_
  refine lv_icmp_eq (tgt := 16) hx hb d_ThumbCore_changeMask_4 (by decide) (fun g_4 => ?_) (fun g_4 => ?_)
  · have hq := hq.trans (if_pos g_4)
    exact J_16 H locs ls c_exceptions_masked x1 hP hD hS (lv_sub hl [0, 1] rfl) hq
  · have hq := hq.trans (if_neg g_4)
    refine lv_iload_n hx hb d_ThumbCore_changeMask_7 rfl (lv_at hl 1 rfl) ?_
    refine lv_ldcw (v := 46706) hx hb hown (hts _ wk_ThumbCore_280) d_ThumbCore_changeMask_8 ?_
    refine lv_icmp_eq (tgt := 16) hx hb d_ThumbCore_changeMask_11 (by decide) (fun g_11 => ?_) (fun g_11 => ?_)
    · have hq := hq.trans (if_pos g_11)
      exact J_16 H locs ls c_exceptions_masked x1 hP hD hS (lv_sub hl [0, 1] rfl) hq
    · have hq := hq.trans (if_neg g_11)
      refine lv_iconst (v := 0) hx hb d_ThumbCore_changeMask_14 (by decide) ?_
      exact RET H locs ls 15 (false, c_exceptions_masked) d_ThumbCore_changeMask_15 hP hD hS hq

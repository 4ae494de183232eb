abbrev rm_ThumbCore_withByte : Room := { frames := 3, cells := 0, slots := 0, locals := 73 }
set_option maxHeartbeats 4000000 in
set_option maxRecDepth 100000 in
theorem c_ThumbCore_withByte (l : Launch) (D : va_G) (cI cB cZ : ClassId) (h h_memory h_memory_words h_registers h_flags h_exceptions h_exceptions_priorities h_counter sz : Nat) (q_memory_size : Int32) (n_memory_words : Nat) (c_asleep : Bool) (c_locked : Bool) (c_next : Int32) (c_memory_words : Nat → Int32) (c_registers : Nat → Int32) (c_flags_negative : Bool) (c_flags_zero : Bool) (c_flags_carry : Bool) (c_flags_overflow : Bool) (c_exceptions_pending : Int32) (c_exceptions_active : Int32) (c_exceptions_current : Int32) (c_exceptions_masked : Bool) (c_exceptions_priorities : Nat → Int32) (c_counter_number : Int32) (c_counter_reload : Int32) (c_counter_on : Bool) (x1 : Int32) : Met l y_ThumbCore_withByte (.code y_ThumbCore_withByte b_ThumbCore_withByte 4 (some .boolean) :: tcb) rm_ThumbCore_withByte (tc_Pw D tcl (tys cI cB cZ) (wd_ThumbCore cI cB cZ h h_memory h_memory_words h_registers h_flags h_exceptions h_exceptions_priorities h_counter q_memory_size n_memory_words c_asleep c_locked c_next c_memory_words c_registers c_flags_negative c_flags_zero c_flags_carry c_flags_overflow c_exceptions_pending c_exceptions_active c_exceptions_current c_exceptions_masked c_exceptions_priorities c_counter_number c_counter_reload c_counter_on) sz ([.ref h, .int x1] : List Value) none) (tc_Qz D tcl (wd_ThumbCore cI cB cZ h h_memory h_memory_words h_registers h_flags h_exceptions h_exceptions_priorities h_counter q_memory_size n_memory_words c_asleep c_locked c_next c_memory_words c_registers c_flags_negative c_flags_zero c_flags_carry c_flags_overflow c_exceptions_pending c_exceptions_active c_exceptions_current c_exceptions_masked c_exceptions_priorities c_counter_number c_counter_reload c_counter_on) sz (fun u => (wd_ThumbCore cI cB cZ h h_memory h_memory_words h_registers h_flags h_exceptions h_exceptions_priorities h_counter q_memory_size n_memory_words c_asleep c_locked c_next c_memory_words u.2.1 u.2.2.1 u.2.2.2.1 u.2.2.2.2.1 u.2.2.2.2.2 c_exceptions_pending c_exceptions_active c_exceptions_current c_exceptions_masked c_exceptions_priorities c_counter_number c_counter_reload c_counter_on)) (f_ThumbCore_withByte c_registers c_flags_negative c_flags_zero c_flags_carry c_flags_overflow x1)) 0 0 (va_A (wd_ThumbCore cI cB cZ h h_memory h_memory_words h_registers h_flags h_exceptions h_exceptions_priorities h_counter q_memory_size n_memory_words c_asleep c_locked c_next c_memory_words c_registers c_flags_negative c_flags_zero c_flags_carry c_flags_overflow c_exceptions_pending c_exceptions_active c_exceptions_current c_exceptions_masked c_exceptions_priorities c_counter_number c_counter_reload c_counter_on) sz) := by
  refine tc_mu_z (by decide) (Nat.le_of_ble_eq_true rfl) ?_
  intro p e s m below meth c A Q ls hx hb hml hts hown hK hN hP hD hA hZ hl RET
  have hS : va_S A s.heap s.heap [] := va_S.rf
  have hl : lv_has ls 4 [(0, .ref h), (1, .int x1)] := hl
  generalize hF : f_ThumbCore_withByte c_registers c_flags_negative c_flags_zero c_flags_carry c_flags_overflow x1 = FF at RET
  have hq : FF = f_ThumbCore_withByte c_registers c_flags_negative c_flags_zero c_flags_carry c_flags_overflow x1 := hF.symm
  revert hP hD hS
  suffices G : ∀ (H : Heap) (locs : List Loc), va_P D tcl (wd_ThumbCore cI cB cZ h h_memory h_memory_words h_registers h_flags h_exceptions h_exceptions_priorities h_counter q_memory_size n_memory_words c_asleep c_locked c_next c_memory_words c_registers c_flags_negative c_flags_zero c_flags_carry c_flags_overflow c_exceptions_pending c_exceptions_active c_exceptions_current c_exceptions_masked c_exceptions_priorities c_counter_number c_counter_reload c_counter_on) H → va_D A (wd_ThumbCore cI cB cZ h h_memory h_memory_words h_registers h_flags h_exceptions h_exceptions_priorities h_counter q_memory_size n_memory_words c_asleep c_locked c_next c_memory_words c_registers c_flags_negative c_flags_zero c_flags_carry c_flags_overflow c_exceptions_pending c_exceptions_active c_exceptions_current c_exceptions_masked c_exceptions_priorities c_counter_number c_counter_reload c_counter_on) → va_S A s.heap H locs → W p l e rm_ThumbCore_withByte s m ([.ref h, .int x1] : List Value).toArray below meth c H locs 0 0 Q (F0 m 0 ls []) from fun hP hD hS => G _ _ hP hD hS
  intro H locs hP hD hS
  refine lv_iload_n hx hb d_ThumbCore_withByte_0 rfl (lv_at hl 1 rfl) ?_
  refine lv_bipush (v := 8) hx hb d_ThumbCore_withByte_1 (by decide) ?_
  refine lv_iushr (v := (o_iushr x1 8)) hx hb d_ThumbCore_withByte_3 rfl ?_
  refine lv_bipush (v := 7) hx hb d_ThumbCore_withByte_4 (by decide) ?_
  refine lv_iand hx hb d_ThumbCore_withByte_6 ?_
  refine lv_topi (fun v1 e_v1 => ?_)
  have hq := tc_nm hq e_v1
  refine lv_istore_n (lv' := [(2, .int v1), (0, .ref h), (1, .int x1)]) hx hb d_ThumbCore_withByte_7 rfl hl (by decide) rfl (fun ls hl => ?_)
  refine lv_iload_n hx hb d_ThumbCore_withByte_8 rfl (lv_at hl 2 rfl) ?_
  refine lv_sipush (v := 255) hx hb d_ThumbCore_withByte_9 (by decide) ?_
  refine lv_iand hx hb d_ThumbCore_withByte_12 ?_
  refine lv_topi (fun v2 e_v2 => ?_)
  have hq := tc_nm hq e_v2
  refine lv_istore_n (lv' := [(3, .int v2), (2, .int v1), (0, .ref h), (1, .int x1)]) hx hb d_ThumbCore_withByte_13 rfl hl (by decide) rfl (fun ls hl => ?_)
  refine lv_iload_n hx hb d_ThumbCore_withByte_14 rfl (lv_at hl 3 rfl) ?_
  refine lv_bipush (v := 11) hx hb d_ThumbCore_withByte_15 (by decide) ?_
  refine lv_iushr (v := (o_iushr x1 11)) hx hb d_ThumbCore_withByte_17 rfl ?_
  by_cases g_18_4 : (o_iushr x1 11) = 4
  · have hq := hq.trans (if_pos g_18_4)
    refine tc_tabIn (k := 4) (off := 26) (tgt := 44) hx hb d_ThumbCore_withByte_18 g_18_4 (by decide) (by decide) (by decide +kernel) (by decide) ?_
    refine lv_aload_n hx hb d_ThumbCore_withByte_44 rfl (lv_at hl 2 rfl) ?_
    refine va_get (D := D) (ci := 4) (v := .ref h_registers) (C := R_ThumbCore) (T := F_ThumbCore) (N := 8) hx hb hts u_ThumbCore hown hK hP 0 rfl rfl 1 (by decide) (hts _ wf_ThumbCore_27) (fun _ h9 => h9) rfl d_ThumbCore_withByte_45 ?_
    refine lv_iload_n hx hb d_ThumbCore_withByte_48 rfl (lv_at hl 1 rfl) ?_
    refine lv_aload_n hx hb d_ThumbCore_withByte_49 rfl (lv_at hl 2 rfl) ?_
    refine va_get (D := D) (ci := 4) (v := .ref h_flags) (C := R_ThumbCore) (T := F_ThumbCore) (N := 8) hx hb hts u_ThumbCore hown hK hP 0 rfl rfl 2 (by decide) (hts _ wf_ThumbCore_34) (fun _ h9 => h9) rfl d_ThumbCore_withByte_50 ?_
    refine lv_iload_n hx hb d_ThumbCore_withByte_53 rfl (lv_at hl 0 rfl) ?_
    refine tc_mi (wo := fun u => (wd_ThumbCore cI cB cZ h h_memory h_memory_words h_registers h_flags h_exceptions h_exceptions_priorities h_counter q_memory_size n_memory_words c_asleep c_locked c_next c_memory_words c_registers u.2.1 u.2.2 c_flags_carry c_flags_overflow c_exceptions_pending c_exceptions_active c_exceptions_current c_exceptions_masked c_exceptions_priorities c_counter_number c_counter_reload c_counter_on)) (va_runV (As := [.int v2]) (rest := [.int v1, .ref h_registers]) ⟨hx, hb, hml, hown, hts⟩ (c_Flags_mark l D cI cB cZ h_flags H.size c_flags_negative c_flags_zero c_flags_carry c_flags_overflow v2) (cwV 1 hts (tc_gV wl_ThumbCore_213 wm_Flags_mark ws_Flags_mark wi_Flags wc_Flags_mark) rfl rfl rfl (by decide +kernel) ⟨Nat.le_of_ble_eq_true rfl, Nat.le_of_ble_eq_true rfl⟩) (tc_preV hK hN hP hD [4] rfl (by decide) (q0 := 4) rfl rfl) rfl rfl hl.1 rfl (lv_room (Nat.le_of_ble_eq_true rfl)) d_ThumbCore_withByte_54 (by decide)) hP hD hS hA [4] [0, 1, 2, 3, 5, 6, 7] [0, 1, 2, 3, 7, 4, 5, 6] rfl rfl (by decide) (by decide) (by decide) (fun _ => rfl) (fun u H locs hu hP hD hS => ?_)
    obtain ⟨r3, s4, s5⟩ := u
    have hq := hq.trans (un3_eq hu _)
    have e_r3 := hu
    have hP : va_P D tcl (wd_ThumbCore cI cB cZ h h_memory h_memory_words h_registers h_flags h_exceptions h_exceptions_priorities h_counter q_memory_size n_memory_words c_asleep c_locked c_next c_memory_words c_registers s4 s5 c_flags_carry c_flags_overflow c_exceptions_pending c_exceptions_active c_exceptions_current c_exceptions_masked c_exceptions_priorities c_counter_number c_counter_reload c_counter_on) H := hP
    have hD : va_D A (wd_ThumbCore cI cB cZ h h_memory h_memory_words h_registers h_flags h_exceptions h_exceptions_priorities h_counter q_memory_size n_memory_words c_asleep c_locked c_next c_memory_words c_registers s4 s5 c_flags_carry c_flags_overflow c_exceptions_pending c_exceptions_active c_exceptions_current c_exceptions_masked c_exceptions_priorities c_counter_number c_counter_reload c_counter_on) := hD
    refine W.eq (g2 := F0 m 57 ls [.int r3, .int v1, .ref h_registers]) rfl ?_
    refine va_iast hx hb hK hP hD hS 3 0 rfl rfl (tc_en7 e_v1) d_ThumbCore_withByte_57 (fun H locs hP hD hS => ?_)
    have hP : va_P D tcl (wd_ThumbCore cI cB cZ h h_memory h_memory_words h_registers h_flags h_exceptions h_exceptions_priorities h_counter q_memory_size n_memory_words c_asleep c_locked c_next c_memory_words (upd c_registers v1.toNatClampNeg r3) s4 s5 c_flags_carry c_flags_overflow c_exceptions_pending c_exceptions_active c_exceptions_current c_exceptions_masked c_exceptions_priorities c_counter_number c_counter_reload c_counter_on) H := hP
    have hD : va_D A (wd_ThumbCore cI cB cZ h h_memory h_memory_words h_registers h_flags h_exceptions h_exceptions_priorities h_counter q_memory_size n_memory_words c_asleep c_locked c_next c_memory_words (upd c_registers v1.toNatClampNeg r3) s4 s5 c_flags_carry c_flags_overflow c_exceptions_pending c_exceptions_active c_exceptions_current c_exceptions_masked c_exceptions_priorities c_counter_number c_counter_reload c_counter_on) := hD
    refine lv_iconst (v := 1) hx hb d_ThumbCore_withByte_58 (by decide) ?_
    exact RET H locs ls 59 (true, (upd c_registers v1.toNatClampNeg r3), s4, s5, c_flags_carry, c_flags_overflow) d_ThumbCore_withByte_59 hP hD hS hq
  have hq := hq.trans (if_neg g_18_4)
  by_cases g_18_5 : (o_iushr x1 11) = 5
  · have hq := hq.trans (if_pos g_18_5)
    refine tc_tabIn (k := 5) (off := 42) (tgt := 60) hx hb d_ThumbCore_withByte_18 g_18_5 (by decide) (by decide) (by decide +kernel) (by decide) ?_
    refine lv_aload_n hx hb d_ThumbCore_withByte_60 rfl (lv_at hl 2 rfl) ?_
    refine va_get (D := D) (ci := 4) (v := .ref h_flags) (C := R_ThumbCore) (T := F_ThumbCore) (N := 8) hx hb hts u_ThumbCore hown hK hP 0 rfl rfl 2 (by decide) (hts _ wf_ThumbCore_34) (fun _ h9 => h9) rfl d_ThumbCore_withByte_61 ?_
    refine lv_aload_n hx hb d_ThumbCore_withByte_64 rfl (lv_at hl 2 rfl) ?_
    refine va_get (D := D) (ci := 4) (v := .ref h_registers) (C := R_ThumbCore) (T := F_ThumbCore) (N := 8) hx hb hts u_ThumbCore hown hK hP 0 rfl rfl 1 (by decide) (hts _ wf_ThumbCore_27) (fun _ h9 => h9) rfl d_ThumbCore_withByte_65 ?_
    refine lv_iload_n hx hb d_ThumbCore_withByte_68 rfl (lv_at hl 1 rfl) ?_
    refine va_iald hx hb hK hP 3 0 rfl rfl (tc_en7 e_v1) d_ThumbCore_withByte_69 ?_
    refine lv_iload_n hx hb d_ThumbCore_withByte_70 rfl (lv_at hl 0 rfl) ?_
    refine lv_iconst (v := (-1)) hx hb d_ThumbCore_withByte_71 (by decide) ?_
    refine lv_ixor hx hb d_ThumbCore_withByte_72 ?_
    refine lv_iconst (v := 1) hx hb d_ThumbCore_withByte_73 (by decide) ?_
    refine tc_mi (wo := fun u => (wd_ThumbCore cI cB cZ h h_memory h_memory_words h_registers h_flags h_exceptions h_exceptions_priorities h_counter q_memory_size n_memory_words c_asleep c_locked c_next c_memory_words c_registers u.2.1 u.2.2.1 u.2.2.2.1 u.2.2.2.2 c_exceptions_pending c_exceptions_active c_exceptions_current c_exceptions_masked c_exceptions_priorities c_counter_number c_counter_reload c_counter_on)) (va_runV (As := [.int (c_registers v1.toNatClampNeg), .int (v2 ^^^ (-1)), .int 1]) (rest := []) ⟨hx, hb, hml, hown, hts⟩ (c_Flags_add l D cI cB cZ h_flags H.size c_flags_negative c_flags_zero c_flags_carry c_flags_overflow (c_registers v1.toNatClampNeg) (v2 ^^^ (-1)) 1) (cwV 3 hts (tc_gV wl_ThumbCore_209 wm_Flags_add ws_Flags_add wi_Flags wc_Flags_add) rfl rfl rfl (by decide +kernel) ⟨Nat.le_of_ble_eq_true rfl, Nat.le_of_ble_eq_true rfl⟩) (tc_preV hK hN hP hD [4] rfl (by decide) (q0 := 4) rfl rfl) rfl rfl hl.1 rfl (lv_room (Nat.le_of_ble_eq_true rfl)) d_ThumbCore_withByte_74 (by decide)) hP hD hS hA [4] [0, 1, 2, 3, 5, 6, 7] [0, 1, 2, 3, 7, 4, 5, 6] rfl rfl (by decide) (by decide) (by decide) (fun _ => rfl) (fun u H locs hu hP hD hS => ?_)
    obtain ⟨r6, s7, s8, s9, s10⟩ := u
    have hq := hq.trans (un5_eq hu _)
    have e_r6 := hu
    have hP : va_P D tcl (wd_ThumbCore cI cB cZ h h_memory h_memory_words h_registers h_flags h_exceptions h_exceptions_priorities h_counter q_memory_size n_memory_words c_asleep c_locked c_next c_memory_words c_registers s7 s8 s9 s10 c_exceptions_pending c_exceptions_active c_exceptions_current c_exceptions_masked c_exceptions_priorities c_counter_number c_counter_reload c_counter_on) H := hP
    have hD : va_D A (wd_ThumbCore cI cB cZ h h_memory h_memory_words h_registers h_flags h_exceptions h_exceptions_priorities h_counter q_memory_size n_memory_words c_asleep c_locked c_next c_memory_words c_registers s7 s8 s9 s10 c_exceptions_pending c_exceptions_active c_exceptions_current c_exceptions_masked c_exceptions_priorities c_counter_number c_counter_reload c_counter_on) := hD
    refine W.eq (g2 := F0 m 77 ls [.int r6]) rfl ?_
    refine lv_pop hx hb d_ThumbCore_withByte_77 rfl ?_
    refine lv_iconst (v := 1) hx hb d_ThumbCore_withByte_78 (by decide) ?_
    exact RET H locs ls 79 (true, c_registers, s7, s8, s9, s10) d_ThumbCore_withByte_79 hP hD hS hq
  have hq := hq.trans (if_neg g_18_5)
  by_cases g_18_6 : (o_iushr x1 11) = 6
  · have hq := hq.trans (if_pos g_18_6)
    refine tc_tabIn (k := 6) (off := 62) (tgt := 80) hx hb d_ThumbCore_withByte_18 g_18_6 (by decide) (by decide) (by decide +kernel) (by decide) ?_
    refine lv_aload_n hx hb d_ThumbCore_withByte_80 rfl (lv_at hl 2 rfl) ?_
    refine va_get (D := D) (ci := 4) (v := .ref h_registers) (C := R_ThumbCore) (T := F_ThumbCore) (N := 8) hx hb hts u_ThumbCore hown hK hP 0 rfl rfl 1 (by decide) (hts _ wf_ThumbCore_27) (fun _ h9 => h9) rfl d_ThumbCore_withByte_81 ?_
    refine lv_iload_n hx hb d_ThumbCore_withByte_84 rfl (lv_at hl 1 rfl) ?_
    refine lv_aload_n hx hb d_ThumbCore_withByte_85 rfl (lv_at hl 2 rfl) ?_
    refine va_get (D := D) (ci := 4) (v := .ref h_flags) (C := R_ThumbCore) (T := F_ThumbCore) (N := 8) hx hb hts u_ThumbCore hown hK hP 0 rfl rfl 2 (by decide) (hts _ wf_ThumbCore_34) (fun _ h9 => h9) rfl d_ThumbCore_withByte_86 ?_
    refine lv_aload_n hx hb d_ThumbCore_withByte_89 rfl (lv_at hl 2 rfl) ?_
    refine va_get (D := D) (ci := 4) (v := .ref h_registers) (C := R_ThumbCore) (T := F_ThumbCore) (N := 8) hx hb hts u_ThumbCore hown hK hP 0 rfl rfl 1 (by decide) (hts _ wf_ThumbCore_27) (fun _ h9 => h9) rfl d_ThumbCore_withByte_90 ?_
    refine lv_iload_n hx hb d_ThumbCore_withByte_93 rfl (lv_at hl 1 rfl) ?_
    refine va_iald hx hb hK hP 3 0 rfl rfl (tc_en7 e_v1) d_ThumbCore_withByte_94 ?_
    refine lv_iload_n hx hb d_ThumbCore_withByte_95 rfl (lv_at hl 0 rfl) ?_
    refine lv_iconst (v := 0) hx hb d_ThumbCore_withByte_96 (by decide) ?_
    refine tc_mi (wo := fun u => (wd_ThumbCore cI cB cZ h h_memory h_memory_words h_registers h_flags h_exceptions h_exceptions_priorities h_counter q_memory_size n_memory_words c_asleep c_locked c_next c_memory_words c_registers u.2.1 u.2.2.1 u.2.2.2.1 u.2.2.2.2 c_exceptions_pending c_exceptions_active c_exceptions_current c_exceptions_masked c_exceptions_priorities c_counter_number c_counter_reload c_counter_on)) (va_runV (As := [.int (c_registers v1.toNatClampNeg), .int v2, .int 0]) (rest := [.int v1, .ref h_registers]) ⟨hx, hb, hml, hown, hts⟩ (c_Flags_add l D cI cB cZ h_flags H.size c_flags_negative c_flags_zero c_flags_carry c_flags_overflow (c_registers v1.toNatClampNeg) v2 0) (cwV 3 hts (tc_gV wl_ThumbCore_209 wm_Flags_add ws_Flags_add wi_Flags wc_Flags_add) rfl rfl rfl (by decide +kernel) ⟨Nat.le_of_ble_eq_true rfl, Nat.le_of_ble_eq_true rfl⟩) (tc_preV hK hN hP hD [4] rfl (by decide) (q0 := 4) rfl rfl) rfl rfl hl.1 rfl (lv_room (Nat.le_of_ble_eq_true rfl)) d_ThumbCore_withByte_97 (by decide)) hP hD hS hA [4] [0, 1, 2, 3, 5, 6, 7] [0, 1, 2, 3, 7, 4, 5, 6] rfl rfl (by decide) (by decide) (by decide) (fun _ => rfl) (fun u H locs hu hP hD hS => ?_)
    obtain ⟨r11, s12, s13, s14, s15⟩ := u
    have hq := hq.trans (un5_eq hu _)
    have e_r11 := hu
    have hP : va_P D tcl (wd_ThumbCore cI cB cZ h h_memory h_memory_words h_registers h_flags h_exceptions h_exceptions_priorities h_counter q_memory_size n_memory_words c_asleep c_locked c_next c_memory_words c_registers s12 s13 s14 s15 c_exceptions_pending c_exceptions_active c_exceptions_current c_exceptions_masked c_exceptions_priorities c_counter_number c_counter_reload c_counter_on) H := hP
    have hD : va_D A (wd_ThumbCore cI cB cZ h h_memory h_memory_words h_registers h_flags h_exceptions h_exceptions_priorities h_counter q_memory_size n_memory_words c_asleep c_locked c_next c_memory_words c_registers s12 s13 s14 s15 c_exceptions_pending c_exceptions_active c_exceptions_current c_exceptions_masked c_exceptions_priorities c_counter_number c_counter_reload c_counter_on) := hD
    refine W.eq (g2 := F0 m 100 ls [.int r11, .int v1, .ref h_registers]) rfl ?_
    refine va_iast hx hb hK hP hD hS 3 0 rfl rfl (tc_en7 e_v1) d_ThumbCore_withByte_100 (fun H locs hP hD hS => ?_)
    have hP : va_P D tcl (wd_ThumbCore cI cB cZ h h_memory h_memory_words h_registers h_flags h_exceptions h_exceptions_priorities h_counter q_memory_size n_memory_words c_asleep c_locked c_next c_memory_words (upd c_registers v1.toNatClampNeg r11) s12 s13 s14 s15 c_exceptions_pending c_exceptions_active c_exceptions_current c_exceptions_masked c_exceptions_priorities c_counter_number c_counter_reload c_counter_on) H := hP
    have hD : va_D A (wd_ThumbCore cI cB cZ h h_memory h_memory_words h_registers h_flags h_exceptions h_exceptions_priorities h_counter q_memory_size n_memory_words c_asleep c_locked c_next c_memory_words (upd c_registers v1.toNatClampNeg r11) s12 s13 s14 s15 c_exceptions_pending c_exceptions_active c_exceptions_current c_exceptions_masked c_exceptions_priorities c_counter_number c_counter_reload c_counter_on) := hD
    refine lv_iconst (v := 1) hx hb d_ThumbCore_withByte_101 (by decide) ?_
    exact RET H locs ls 102 (true, (upd c_registers v1.toNatClampNeg r11), s12, s13, s14, s15) d_ThumbCore_withByte_102 hP hD hS hq
  have hq := hq.trans (if_neg g_18_6)
  have DF : W p l e rm_ThumbCore_withByte s m ([.ref h, .int x1] : List Value).toArray below meth c H locs 0 0 Q (F0 m 103 ls []) := by
    refine lv_aload_n hx hb d_ThumbCore_withByte_103 rfl (lv_at hl 2 rfl) ?_
    refine va_get (D := D) (ci := 4) (v := .ref h_registers) (C := R_ThumbCore) (T := F_ThumbCore) (N := 8) hx hb hts u_ThumbCore hown hK hP 0 rfl rfl 1 (by decide) (hts _ wf_ThumbCore_27) (fun _ h9 => h9) rfl d_ThumbCore_withByte_104 ?_
    refine lv_iload_n hx hb d_ThumbCore_withByte_107 rfl (lv_at hl 1 rfl) ?_
    refine lv_aload_n hx hb d_ThumbCore_withByte_108 rfl (lv_at hl 2 rfl) ?_
    refine va_get (D := D) (ci := 4) (v := .ref h_flags) (C := R_ThumbCore) (T := F_ThumbCore) (N := 8) hx hb hts u_ThumbCore hown hK hP 0 rfl rfl 2 (by decide) (hts _ wf_ThumbCore_34) (fun _ h9 => h9) rfl d_ThumbCore_withByte_109 ?_
    refine lv_aload_n hx hb d_ThumbCore_withByte_112 rfl (lv_at hl 2 rfl) ?_
    refine va_get (D := D) (ci := 4) (v := .ref h_registers) (C := R_ThumbCore) (T := F_ThumbCore) (N := 8) hx hb hts u_ThumbCore hown hK hP 0 rfl rfl 1 (by decide) (hts _ wf_ThumbCore_27) (fun _ h9 => h9) rfl d_ThumbCore_withByte_113 ?_
    refine lv_iload_n hx hb d_ThumbCore_withByte_116 rfl (lv_at hl 1 rfl) ?_
    refine va_iald hx hb hK hP 3 0 rfl rfl (tc_en7 e_v1) d_ThumbCore_withByte_117 ?_
    refine lv_iload_n hx hb d_ThumbCore_withByte_118 rfl (lv_at hl 0 rfl) ?_
    refine lv_iconst (v := (-1)) hx hb d_ThumbCore_withByte_119 (by decide) ?_
    refine lv_ixor hx hb d_ThumbCore_withByte_120 ?_
    refine lv_iconst (v := 1) hx hb d_ThumbCore_withByte_121 (by decide) ?_
    refine tc_mi (wo := fun u => (wd_ThumbCore cI cB cZ h h_memory h_memory_words h_registers h_flags h_exceptions h_exceptions_priorities h_counter q_memory_size n_memory_words c_asleep c_locked c_next c_memory_words c_registers u.2.1 u.2.2.1 u.2.2.2.1 u.2.2.2.2 c_exceptions_pending c_exceptions_active c_exceptions_current c_exceptions_masked c_exceptions_priorities c_counter_number c_counter_reload c_counter_on)) (va_runV (As := [.int (c_registers v1.toNatClampNeg), .int (v2 ^^^ (-1)), .int 1]) (rest := [.int v1, .ref h_registers]) ⟨hx, hb, hml, hown, hts⟩ (c_Flags_add l D cI cB cZ h_flags H.size c_flags_negative c_flags_zero c_flags_carry c_flags_overflow (c_registers v1.toNatClampNeg) (v2 ^^^ (-1)) 1) (cwV 3 hts (tc_gV wl_ThumbCore_209 wm_Flags_add ws_Flags_add wi_Flags wc_Flags_add) rfl rfl rfl (by decide +kernel) ⟨Nat.le_of_ble_eq_true rfl, Nat.le_of_ble_eq_true rfl⟩) (tc_preV hK hN hP hD [4] rfl (by decide) (q0 := 4) rfl rfl) rfl rfl hl.1 rfl (lv_room (Nat.le_of_ble_eq_true rfl)) d_ThumbCore_withByte_122 (by decide)) hP hD hS hA [4] [0, 1, 2, 3, 5, 6, 7] [0, 1, 2, 3, 7, 4, 5, 6] rfl rfl (by decide) (by decide) (by decide) (fun _ => rfl) (fun u H locs hu hP hD hS => ?_)
    obtain ⟨r16, s17, s18, s19, s20⟩ := u
    have hq := hq.trans (un5_eq hu _)
    have e_r16 := hu
    have hP : va_P D tcl (wd_ThumbCore cI cB cZ h h_memory h_memory_words h_registers h_flags h_exceptions h_exceptions_priorities h_counter q_memory_size n_memory_words c_asleep c_locked c_next c_memory_words c_registers s17 s18 s19 s20 c_exceptions_pending c_exceptions_active c_exceptions_current c_exceptions_masked c_exceptions_priorities c_counter_number c_counter_reload c_counter_on) H := hP
    have hD : va_D A (wd_ThumbCore cI cB cZ h h_memory h_memory_words h_registers h_flags h_exceptions h_exceptions_priorities h_counter q_memory_size n_memory_words c_asleep c_locked c_next c_memory_words c_registers s17 s18 s19 s20 c_exceptions_pending c_exceptions_active c_exceptions_current c_exceptions_masked c_exceptions_priorities c_counter_number c_counter_reload c_counter_on) := hD
    refine W.eq (g2 := F0 m 125 ls [.int r16, .int v1, .ref h_registers]) rfl ?_
    refine va_iast hx hb hK hP hD hS 3 0 rfl rfl (tc_en7 e_v1) d_ThumbCore_withByte_125 (fun H locs hP hD hS => ?_)
    have hP : va_P D tcl (wd_ThumbCore cI cB cZ h h_memory h_memory_words h_registers h_flags h_exceptions h_exceptions_priorities h_counter q_memory_size n_memory_words c_asleep c_locked c_next c_memory_words (upd c_registers v1.toNatClampNeg r16) s17 s18 s19 s20 c_exceptions_pending c_exceptions_active c_exceptions_current c_exceptions_masked c_exceptions_priorities c_counter_number c_counter_reload c_counter_on) H := hP
    have hD : va_D A (wd_ThumbCore cI cB cZ h h_memory h_memory_words h_registers h_flags h_exceptions h_exceptions_priorities h_counter q_memory_size n_memory_words c_asleep c_locked c_next c_memory_words (upd c_registers v1.toNatClampNeg r16) s17 s18 s19 s20 c_exceptions_pending c_exceptions_active c_exceptions_current c_exceptions_masked c_exceptions_priorities c_counter_number c_counter_reload c_counter_on) := hD
    refine lv_iconst (v := 1) hx hb d_ThumbCore_withByte_126 (by decide) ?_
    exact RET H locs ls 127 (true, (upd c_registers v1.toNatClampNeg r16), s17, s18, s19, s20) d_ThumbCore_withByte_127 hP hD hS hq
  exact lv_tableOut (x := (o_iushr x1 11)) hx hb d_ThumbCore_withByte_18 (by have n4 := tc_ne (j := 4) g_18_4 (by decide); have n5 := tc_ne (j := 5) g_18_5 (by decide); have n6 := tc_ne (j := 6) g_18_6 (by decide); omega) (by decide) DF
abbrev rm_ThumbCore_combined : Room := { frames := 3, cells := 0, slots := 0, locals := 73 }
set_option maxHeartbeats 4000000 in
set_option maxRecDepth 100000 in
theorem c_ThumbCore_combined (l : Launch) (D : va_G) (cI cB cZ : ClassId) (h h_memory h_memory_words h_registers h_flags h_exceptions h_exceptions_priorities h_counter sz : Nat) (q_memory_size : Int32) (n_memory_words : Nat) (c_asleep : Bool) (c_locked : Bool) (c_next : Int32) (c_memory_words : Nat → Int32) (c_registers : Nat → Int32) (c_flags_negative : Bool) (c_flags_zero : Bool) (c_flags_carry : Bool) (c_flags_overflow : Bool) (c_exceptions_pending : Int32) (c_exceptions_active : Int32) (c_exceptions_current : Int32) (c_exceptions_masked : Bool) (c_exceptions_priorities : Nat → Int32) (c_counter_number : Int32) (c_counter_reload : Int32) (c_counter_on : Bool) (x1 : Int32) (x2 : Int32) (x3 : Int32) : Met l y_ThumbCore_combined (.code y_ThumbCore_combined b_ThumbCore_combined 4 (some .int) :: tcb) rm_ThumbCore_combined (tc_Pw D tcl (tys cI cB cZ) (wd_ThumbCore cI cB cZ h h_memory h_memory_words h_registers h_flags h_exceptions h_exceptions_priorities h_counter q_memory_size n_memory_words c_asleep c_locked c_next c_memory_words c_registers c_flags_negative c_flags_zero c_flags_carry c_flags_overflow c_exceptions_pending c_exceptions_active c_exceptions_current c_exceptions_masked c_exceptions_priorities c_counter_number c_counter_reload c_counter_on) sz ([.ref h, .int x1, .int x2, .int x3] : List Value) none) (tc_Qi D tcl (wd_ThumbCore cI cB cZ h h_memory h_memory_words h_registers h_flags h_exceptions h_exceptions_priorities h_counter q_memory_size n_memory_words c_asleep c_locked c_next c_memory_words c_registers c_flags_negative c_flags_zero c_flags_carry c_flags_overflow c_exceptions_pending c_exceptions_active c_exceptions_current c_exceptions_masked c_exceptions_priorities c_counter_number c_counter_reload c_counter_on) sz (fun u => (wd_ThumbCore cI cB cZ h h_memory h_memory_words h_registers h_flags h_exceptions h_exceptions_priorities h_counter q_memory_size n_memory_words c_asleep c_locked c_next c_memory_words c_registers u.2.1 u.2.2.1 u.2.2.2.1 u.2.2.2.2 c_exceptions_pending c_exceptions_active c_exceptions_current c_exceptions_masked c_exceptions_priorities c_counter_number c_counter_reload c_counter_on)) (f_ThumbCore_combined c_flags_negative c_flags_zero c_flags_carry c_flags_overflow x1 x2 x3)) 0 0 (va_A (wd_ThumbCore cI cB cZ h h_memory h_memory_words h_registers h_flags h_exceptions h_exceptions_priorities h_counter q_memory_size n_memory_words c_asleep c_locked c_next c_memory_words c_registers c_flags_negative c_flags_zero c_flags_carry c_flags_overflow c_exceptions_pending c_exceptions_active c_exceptions_current c_exceptions_masked c_exceptions_priorities c_counter_number c_counter_reload c_counter_on) sz) := by
  refine tc_mu_i (by decide) (Nat.le_of_ble_eq_true rfl) ?_
  intro p e s m below meth c A Q ls hx hb hml hts hown hK hN hP hD hA hZ hl RET
  have hS : va_S A s.heap s.heap [] := va_S.rf
  have hl : lv_has ls 4 [(0, .ref h), (1, .int x1), (2, .int x2), (3, .int x3)] := hl
  generalize hF : f_ThumbCore_combined c_flags_negative c_flags_zero c_flags_carry c_flags_overflow x1 x2 x3 = FF at RET
  have J_161 : ∀ (H : Heap) (locs : List Loc) (ls : Array Slot) (c_flags_negative : Bool) (c_flags_zero : Bool) (c_flags_carry : Bool) (c_flags_overflow : Bool) (z1 : Int32) (z2 : Int32) (z3 : Bool), va_P D tcl (wd_ThumbCore cI cB cZ h h_memory h_memory_words h_registers h_flags h_exceptions h_exceptions_priorities h_counter q_memory_size n_memory_words c_asleep c_locked c_next c_memory_words c_registers c_flags_negative c_flags_zero c_flags_carry c_flags_overflow c_exceptions_pending c_exceptions_active c_exceptions_current c_exceptions_masked c_exceptions_priorities c_counter_number c_counter_reload c_counter_on) H → va_D A (wd_ThumbCore cI cB cZ h h_memory h_memory_words h_registers h_flags h_exceptions h_exceptions_priorities h_counter q_memory_size n_memory_words c_asleep c_locked c_next c_memory_words c_registers c_flags_negative c_flags_zero c_flags_carry c_flags_overflow c_exceptions_pending c_exceptions_active c_exceptions_current c_exceptions_masked c_exceptions_priorities c_counter_number c_counter_reload c_counter_on) → va_S A s.heap H locs → lv_has ls 4 [] → FF = k_ThumbCore_combined_161 c_flags_negative c_flags_zero c_flags_carry c_flags_overflow z1 z2 z3 → W p l e rm_ThumbCore_combined s m ([.ref h, .int x1, .int x2, .int x3] : List Value).toArray below meth c H locs 0 0 Q (F0 m 161 ls [.int (bI z3), .int z2, .int z1, .ref h_flags]) := by
    intro H locs ls c_flags_negative c_flags_zero c_flags_carry c_flags_overflow z1 z2 z3 hP hD hS hl hq
    refine tc_mi (wo := fun u => (wd_ThumbCore cI cB cZ h h_memory h_memory_words h_registers h_flags h_exceptions h_exceptions_priorities h_counter q_memory_size n_memory_words c_asleep c_locked c_next c_memory_words c_registers u.2.1 u.2.2.1 u.2.2.2.1 u.2.2.2.2 c_exceptions_pending c_exceptions_active c_exceptions_current c_exceptions_masked c_exceptions_priorities c_counter_number c_counter_reload c_counter_on)) (va_runV (As := [.int z1, .int z2, .int (bI z3)]) (rest := []) ⟨hx, hb, hml, hown, hts⟩ (c_Flags_add l D cI cB cZ h_flags H.size c_flags_negative c_flags_zero c_flags_carry c_flags_overflow z1 z2 (bI z3)) (cwV 3 hts (tc_gV wl_ThumbCore_209 wm_Flags_add ws_Flags_add wi_Flags wc_Flags_add) rfl rfl rfl (by decide +kernel) ⟨Nat.le_of_ble_eq_true rfl, Nat.le_of_ble_eq_true rfl⟩) (tc_preV hK hN hP hD [4] rfl (by decide) (q0 := 4) rfl rfl) rfl rfl hl.1 rfl (lv_room (Nat.le_of_ble_eq_true rfl)) d_ThumbCore_combined_161 (by decide)) hP hD hS hA [4] [0, 1, 2, 3, 5, 6, 7] [0, 1, 2, 3, 7, 4, 5, 6] rfl rfl (by decide) (by decide) (by decide) (fun _ => rfl) (fun u H locs hu hP hD hS => ?_)
    obtain ⟨r1, s2, s3, s4, s5⟩ := u
    have hq := hq.trans (un5_eq hu _)
    have e_r1 := hu
    have hP : va_P D tcl (wd_ThumbCore cI cB cZ h h_memory h_memory_words h_registers h_flags h_exceptions h_exceptions_priorities h_counter q_memory_size n_memory_words c_asleep c_locked c_next c_memory_words c_registers s2 s3 s4 s5 c_exceptions_pending c_exceptions_active c_exceptions_current c_exceptions_masked c_exceptions_priorities c_counter_number c_counter_reload c_counter_on) H := hP
    have hD : va_D A (wd_ThumbCore cI cB cZ h h_memory h_memory_words h_registers h_flags h_exceptions h_exceptions_priorities h_counter q_memory_size n_memory_words c_asleep c_locked c_next c_memory_words c_registers s2 s3 s4 s5 c_exceptions_pending c_exceptions_active c_exceptions_current c_exceptions_masked c_exceptions_priorities c_counter_number c_counter_reload c_counter_on) := hD
    refine W.eq (g2 := F0 m 164 ls [.int r1]) rfl ?_
    exact RET H locs ls 164 (r1, s2, s3, s4, s5) d_ThumbCore_combined_164 hP hD hS hq
  have J_188 : ∀ (H : Heap) (locs : List Loc) (ls : Array Slot) (c_flags_negative : Bool) (c_flags_zero : Bool) (c_flags_carry : Bool) (c_flags_overflow : Bool) (z1 : Int32) (z2 : Int32) (z3 : Bool), va_P D tcl (wd_ThumbCore cI cB cZ h h_memory h_memory_words h_registers h_flags h_exceptions h_exceptions_priorities h_counter q_memory_size n_memory_words c_asleep c_locked c_next c_memory_words c_registers c_flags_negative c_flags_zero c_flags_carry c_flags_overflow c_exceptions_pending c_exceptions_active c_exceptions_current c_exceptions_masked c_exceptions_priorities c_counter_number c_counter_reload c_counter_on) H → va_D A (wd_ThumbCore cI cB cZ h h_memory h_memory_words h_registers h_flags h_exceptions h_exceptions_priorities h_counter q_memory_size n_memory_words c_asleep c_locked c_next c_memory_words c_registers c_flags_negative c_flags_zero c_flags_carry c_flags_overflow c_exceptions_pending c_exceptions_active c_exceptions_current c_exceptions_masked c_exceptions_priorities c_counter_number c_counter_reload c_counter_on) → va_S A s.heap H locs → lv_has ls 4 [] → FF = k_ThumbCore_combined_188 c_flags_negative c_flags_zero c_flags_carry c_flags_overflow z1 z2 z3 → W p l e rm_ThumbCore_combined s m ([.ref h, .int x1, .int x2, .int x3] : List Value).toArray below meth c H locs 0 0 Q (F0 m 188 ls [.int (bI z3), .int z2, .int z1, .ref h_flags]) := by
    intro H locs ls c_flags_negative c_flags_zero c_flags_carry c_flags_overflow z1 z2 z3 hP hD hS hl hq
    refine tc_mi (wo := fun u => (wd_ThumbCore cI cB cZ h h_memory h_memory_words h_registers h_flags h_exceptions h_exceptions_priorities h_counter q_memory_size n_memory_words c_asleep c_locked c_next c_memory_words c_registers u.2.1 u.2.2.1 u.2.2.2.1 u.2.2.2.2 c_exceptions_pending c_exceptions_active c_exceptions_current c_exceptions_masked c_exceptions_priorities c_counter_number c_counter_reload c_counter_on)) (va_runV (As := [.int z1, .int z2, .int (bI z3)]) (rest := []) ⟨hx, hb, hml, hown, hts⟩ (c_Flags_add l D cI cB cZ h_flags H.size c_flags_negative c_flags_zero c_flags_carry c_flags_overflow z1 z2 (bI z3)) (cwV 3 hts (tc_gV wl_ThumbCore_209 wm_Flags_add ws_Flags_add wi_Flags wc_Flags_add) rfl rfl rfl (by decide +kernel) ⟨Nat.le_of_ble_eq_true rfl, Nat.le_of_ble_eq_true rfl⟩) (tc_preV hK hN hP hD [4] rfl (by decide) (q0 := 4) rfl rfl) rfl rfl hl.1 rfl (lv_room (Nat.le_of_ble_eq_true rfl)) d_ThumbCore_combined_188 (by decide)) hP hD hS hA [4] [0, 1, 2, 3, 5, 6, 7] [0, 1, 2, 3, 7, 4, 5, 6] rfl rfl (by decide) (by decide) (by decide) (fun _ => rfl) (fun u H locs hu hP hD hS => ?_)
    obtain ⟨r1, s2, s3, s4, s5⟩ := u
    have hq := hq.trans (un5_eq hu _)
    have e_r1 := hu
    have hP : va_P D tcl (wd_ThumbCore cI cB cZ h h_memory h_memory_words h_registers h_flags h_exceptions h_exceptions_priorities h_counter q_memory_size n_memory_words c_asleep c_locked c_next c_memory_words c_registers s2 s3 s4 s5 c_exceptions_pending c_exceptions_active c_exceptions_current c_exceptions_masked c_exceptions_priorities c_counter_number c_counter_reload c_counter_on) H := hP
    have hD : va_D A (wd_ThumbCore cI cB cZ h h_memory h_memory_words h_registers h_flags h_exceptions h_exceptions_priorities h_counter q_memory_size n_memory_words c_asleep c_locked c_next c_memory_words c_registers s2 s3 s4 s5 c_exceptions_pending c_exceptions_active c_exceptions_current c_exceptions_masked c_exceptions_priorities c_counter_number c_counter_reload c_counter_on) := hD
    refine W.eq (g2 := F0 m 191 ls [.int r1]) rfl ?_
    exact RET H locs ls 191 (r1, s2, s3, s4, s5) d_ThumbCore_combined_191 hP hD hS hq
  have hq : FF = f_ThumbCore_combined c_flags_negative c_flags_zero c_flags_carry c_flags_overflow x1 x2 x3 := hF.symm
  revert hP hD hS
  suffices G : ∀ (H : Heap) (locs : List Loc), va_P D tcl (wd_ThumbCore cI cB cZ h h_memory h_memory_words h_registers h_flags h_exceptions h_exceptions_priorities h_counter q_memory_size n_memory_words c_asleep c_locked c_next c_memory_words c_registers c_flags_negative c_flags_zero c_flags_carry c_flags_overflow c_exceptions_pending c_exceptions_active c_exceptions_current c_exceptions_masked c_exceptions_priorities c_counter_number c_counter_reload c_counter_on) H → va_D A (wd_ThumbCore cI cB cZ h h_memory h_memory_words h_registers h_flags h_exceptions h_exceptions_priorities h_counter q_memory_size n_memory_words c_asleep c_locked c_next c_memory_words c_registers c_flags_negative c_flags_zero c_flags_carry c_flags_overflow c_exceptions_pending c_exceptions_active c_exceptions_current c_exceptions_masked c_exceptions_priorities c_counter_number c_counter_reload c_counter_on) → va_S A s.heap H locs → W p l e rm_ThumbCore_combined s m ([.ref h, .int x1, .int x2, .int x3] : List Value).toArray below meth c H locs 0 0 Q (F0 m 0 ls []) from fun hP hD hS => G _ _ hP hD hS
  intro H locs hP hD hS
  refine lv_iload_n hx hb d_ThumbCore_combined_0 rfl (lv_at hl 1 rfl) ?_
  by_cases g_1_0 : x1 = 0
  · have hq := hq.trans (if_pos g_1_0)
    refine tc_tabIn (k := 0) (off := 75) (tgt := 76) hx hb d_ThumbCore_combined_1 g_1_0 (by decide) (by decide) (by decide +kernel) (by decide) ?_
    refine lv_aload_n hx hb d_ThumbCore_combined_76 rfl (lv_at hl 0 rfl) ?_
    refine va_get (D := D) (ci := 4) (v := .ref h_flags) (C := R_ThumbCore) (T := F_ThumbCore) (N := 8) hx hb hts u_ThumbCore hown hK hP 0 rfl rfl 2 (by decide) (hts _ wf_ThumbCore_34) (fun _ h9 => h9) rfl d_ThumbCore_combined_77 ?_
    refine lv_iload_n hx hb d_ThumbCore_combined_80 rfl (lv_at hl 2 rfl) ?_
    refine lv_iload_n hx hb d_ThumbCore_combined_81 rfl (lv_at hl 3 rfl) ?_
    refine lv_iand hx hb d_ThumbCore_combined_82 ?_
    refine tc_mi (wo := fun u => (wd_ThumbCore cI cB cZ h h_memory h_memory_words h_registers h_flags h_exceptions h_exceptions_priorities h_counter q_memory_size n_memory_words c_asleep c_locked c_next c_memory_words c_registers u.2.1 u.2.2 c_flags_carry c_flags_overflow c_exceptions_pending c_exceptions_active c_exceptions_current c_exceptions_masked c_exceptions_priorities c_counter_number c_counter_reload c_counter_on)) (va_runV (As := [.int (x2 &&& x3)]) (rest := []) ⟨hx, hb, hml, hown, hts⟩ (c_Flags_mark l D cI cB cZ h_flags H.size c_flags_negative c_flags_zero c_flags_carry c_flags_overflow (x2 &&& x3)) (cwV 1 hts (tc_gV wl_ThumbCore_213 wm_Flags_mark ws_Flags_mark wi_Flags wc_Flags_mark) rfl rfl rfl (by decide +kernel) ⟨Nat.le_of_ble_eq_true rfl, Nat.le_of_ble_eq_true rfl⟩) (tc_preV hK hN hP hD [4] rfl (by decide) (q0 := 4) rfl rfl) rfl rfl hl.1 rfl (lv_room (Nat.le_of_ble_eq_true rfl)) d_ThumbCore_combined_83 (by decide)) hP hD hS hA [4] [0, 1, 2, 3, 5, 6, 7] [0, 1, 2, 3, 7, 4, 5, 6] rfl rfl (by decide) (by decide) (by decide) (fun _ => rfl) (fun u H locs hu hP hD hS => ?_)
    obtain ⟨r1, s2, s3⟩ := u
    have hq := hq.trans (un3_eq hu _)
    have e_r1 := hu
    have hP : va_P D tcl (wd_ThumbCore cI cB cZ h h_memory h_memory_words h_registers h_flags h_exceptions h_exceptions_priorities h_counter q_memory_size n_memory_words c_asleep c_locked c_next c_memory_words c_registers s2 s3 c_flags_carry c_flags_overflow c_exceptions_pending c_exceptions_active c_exceptions_current c_exceptions_masked c_exceptions_priorities c_counter_number c_counter_reload c_counter_on) H := hP
    have hD : va_D A (wd_ThumbCore cI cB cZ h h_memory h_memory_words h_registers h_flags h_exceptions h_exceptions_priorities h_counter q_memory_size n_memory_words c_asleep c_locked c_next c_memory_words c_registers s2 s3 c_flags_carry c_flags_overflow c_exceptions_pending c_exceptions_active c_exceptions_current c_exceptions_masked c_exceptions_priorities c_counter_number c_counter_reload c_counter_on) := hD
    refine W.eq (g2 := F0 m 86 ls [.int r1]) rfl ?_
    exact RET H locs ls 86 (r1, s2, s3, c_flags_carry, c_flags_overflow) d_ThumbCore_combined_86 hP hD hS hq
  have hq := hq.trans (if_neg g_1_0)
  by_cases g_1_1 : x1 = 1
  · have hq := hq.trans (if_pos g_1_1)
    refine tc_tabIn (k := 1) (off := 86) (tgt := 87) hx hb d_ThumbCore_combined_1 g_1_1 (by decide) (by decide) (by decide +kernel) (by decide) ?_
    refine lv_aload_n hx hb d_ThumbCore_combined_87 rfl (lv_at hl 0 rfl) ?_
    refine va_get (D := D) (ci := 4) (v := .ref h_flags) (C := R_ThumbCore) (T := F_ThumbCore) (N := 8) hx hb hts u_ThumbCore hown hK hP 0 rfl rfl 2 (by decide) (hts _ wf_ThumbCore_34) (fun _ h9 => h9) rfl d_ThumbCore_combined_88 ?_
    refine lv_iload_n hx hb d_ThumbCore_combined_91 rfl (lv_at hl 2 rfl) ?_
    refine lv_iload_n hx hb d_ThumbCore_combined_92 rfl (lv_at hl 3 rfl) ?_
    refine lv_ixor hx hb d_ThumbCore_combined_93 ?_
    refine tc_mi (wo := fun u => (wd_ThumbCore cI cB cZ h h_memory h_memory_words h_registers h_flags h_exceptions h_exceptions_priorities h_counter q_memory_size n_memory_words c_asleep c_locked c_next c_memory_words c_registers u.2.1 u.2.2 c_flags_carry c_flags_overflow c_exceptions_pending c_exceptions_active c_exceptions_current c_exceptions_masked c_exceptions_priorities c_counter_number c_counter_reload c_counter_on)) (va_runV (As := [.int (x2 ^^^ x3)]) (rest := []) ⟨hx, hb, hml, hown, hts⟩ (c_Flags_mark l D cI cB cZ h_flags H.size c_flags_negative c_flags_zero c_flags_carry c_flags_overflow (x2 ^^^ x3)) (cwV 1 hts (tc_gV wl_ThumbCore_213 wm_Flags_mark ws_Flags_mark wi_Flags wc_Flags_mark) rfl rfl rfl (by decide +kernel) ⟨Nat.le_of_ble_eq_true rfl, Nat.le_of_ble_eq_true rfl⟩) (tc_preV hK hN hP hD [4] rfl (by decide) (q0 := 4) rfl rfl) rfl rfl hl.1 rfl (lv_room (Nat.le_of_ble_eq_true rfl)) d_ThumbCore_combined_94 (by decide)) hP hD hS hA [4] [0, 1, 2, 3, 5, 6, 7] [0, 1, 2, 3, 7, 4, 5, 6] rfl rfl (by decide) (by decide) (by decide) (fun _ => rfl) (fun u H locs hu hP hD hS => ?_)
    obtain ⟨r4, s5, s6⟩ := u
    have hq := hq.trans (un3_eq hu _)
    have e_r4 := hu
    have hP : va_P D tcl (wd_ThumbCore cI cB cZ h h_memory h_memory_words h_registers h_flags h_exceptions h_exceptions_priorities h_counter q_memory_size n_memory_words c_asleep c_locked c_next c_memory_words c_registers s5 s6 c_flags_carry c_flags_overflow c_exceptions_pending c_exceptions_active c_exceptions_current c_exceptions_masked c_exceptions_priorities c_counter_number c_counter_reload c_counter_on) H := hP
    have hD : va_D A (wd_ThumbCore cI cB cZ h h_memory h_memory_words h_registers h_flags h_exceptions h_exceptions_priorities h_counter q_memory_size n_memory_words c_asleep c_locked c_next c_memory_words c_registers s5 s6 c_flags_carry c_flags_overflow c_exceptions_pending c_exceptions_active c_exceptions_current c_exceptions_masked c_exceptions_priorities c_counter_number c_counter_reload c_counter_on) := hD
    refine W.eq (g2 := F0 m 97 ls [.int r4]) rfl ?_
    exact RET H locs ls 97 (r4, s5, s6, c_flags_carry, c_flags_overflow) d_ThumbCore_combined_97 hP hD hS hq
  have hq := hq.trans (if_neg g_1_1)
  by_cases g_1_2 : x1 = 2
  · have hq := hq.trans (if_pos g_1_2)
    refine tc_tabIn (k := 2) (off := 97) (tgt := 98) hx hb d_ThumbCore_combined_1 g_1_2 (by decide) (by decide) (by decide +kernel) (by decide) ?_
    refine lv_aload_n hx hb d_ThumbCore_combined_98 rfl (lv_at hl 0 rfl) ?_
    refine va_get (D := D) (ci := 4) (v := .ref h_flags) (C := R_ThumbCore) (T := F_ThumbCore) (N := 8) hx hb hts u_ThumbCore hown hK hP 0 rfl rfl 2 (by decide) (hts _ wf_ThumbCore_34) (fun _ h9 => h9) rfl d_ThumbCore_combined_99 ?_
    refine lv_iload_n hx hb d_ThumbCore_combined_102 rfl (lv_at hl 2 rfl) ?_
    refine lv_iload_n hx hb d_ThumbCore_combined_103 rfl (lv_at hl 3 rfl) ?_
    refine lv_sipush (v := 255) hx hb d_ThumbCore_combined_104 (by decide) ?_
    refine lv_iand hx hb d_ThumbCore_combined_107 ?_
    refine tc_mi (wo := fun u => (wd_ThumbCore cI cB cZ h h_memory h_memory_words h_registers h_flags h_exceptions h_exceptions_priorities h_counter q_memory_size n_memory_words c_asleep c_locked c_next c_memory_words c_registers u.2.1 u.2.2.1 u.2.2.2 c_flags_overflow c_exceptions_pending c_exceptions_active c_exceptions_current c_exceptions_masked c_exceptions_priorities c_counter_number c_counter_reload c_counter_on)) (va_runV (As := [.int x2, .int (x3 &&& 255)]) (rest := []) ⟨hx, hb, hml, hown, hts⟩ (c_Flags_moveUp l D cI cB cZ h_flags H.size c_flags_negative c_flags_zero c_flags_carry c_flags_overflow x2 (x3 &&& 255)) (cwV 2 hts (tc_gV wl_ThumbCore_200 wm_Flags_moveUp ws_Flags_moveUp wi_Flags wc_Flags_moveUp) rfl rfl rfl (by decide +kernel) ⟨Nat.le_of_ble_eq_true rfl, Nat.le_of_ble_eq_true rfl⟩) (tc_preV hK hN hP hD [4] rfl (by decide) (q0 := 4) rfl rfl) rfl rfl hl.1 rfl (lv_room (Nat.le_of_ble_eq_true rfl)) d_ThumbCore_combined_108 (by decide)) hP hD hS hA [4] [0, 1, 2, 3, 5, 6, 7] [0, 1, 2, 3, 7, 4, 5, 6] rfl rfl (by decide) (by decide) (by decide) (fun _ => rfl) (fun u H locs hu hP hD hS => ?_)
    obtain ⟨r7, s8, s9, s10⟩ := u
    have hq := hq.trans (un4_eq hu _)
    have e_r7 := hu
    have hP : va_P D tcl (wd_ThumbCore cI cB cZ h h_memory h_memory_words h_registers h_flags h_exceptions h_exceptions_priorities h_counter q_memory_size n_memory_words c_asleep c_locked c_next c_memory_words c_registers s8 s9 s10 c_flags_overflow c_exceptions_pending c_exceptions_active c_exceptions_current c_exceptions_masked c_exceptions_priorities c_counter_number c_counter_reload c_counter_on) H := hP
    have hD : va_D A (wd_ThumbCore cI cB cZ h h_memory h_memory_words h_registers h_flags h_exceptions h_exceptions_priorities h_counter q_memory_size n_memory_words c_asleep c_locked c_next c_memory_words c_registers s8 s9 s10 c_flags_overflow c_exceptions_pending c_exceptions_active c_exceptions_current c_exceptions_masked c_exceptions_priorities c_counter_number c_counter_reload c_counter_on) := hD
    refine W.eq (g2 := F0 m 111 ls [.int r7]) rfl ?_
    exact RET H locs ls 111 (r7, s8, s9, s10, c_flags_overflow) d_ThumbCore_combined_111 hP hD hS hq
  have hq := hq.trans (if_neg g_1_2)
  by_cases g_1_3 : x1 = 3
  · have hq := hq.trans (if_pos g_1_3)
    refine tc_tabIn (k := 3) (off := 111) (tgt := 112) hx hb d_ThumbCore_combined_1 g_1_3 (by decide) (by decide) (by decide +kernel) (by decide) ?_
    refine lv_aload_n hx hb d_ThumbCore_combined_112 rfl (lv_at hl 0 rfl) ?_
    refine va_get (D := D) (ci := 4) (v := .ref h_flags) (C := R_ThumbCore) (T := F_ThumbCore) (N := 8) hx hb hts u_ThumbCore hown hK hP 0 rfl rfl 2 (by decide) (hts _ wf_ThumbCore_34) (fun _ h9 => h9) rfl d_ThumbCore_combined_113 ?_
    refine lv_iload_n hx hb d_ThumbCore_combined_116 rfl (lv_at hl 2 rfl) ?_
    refine lv_iload_n hx hb d_ThumbCore_combined_117 rfl (lv_at hl 3 rfl) ?_
    refine lv_sipush (v := 255) hx hb d_ThumbCore_combined_118 (by decide) ?_
    refine lv_iand hx hb d_ThumbCore_combined_121 ?_
    refine tc_mi (wo := fun u => (wd_ThumbCore cI cB cZ h h_memory h_memory_words h_registers h_flags h_exceptions h_exceptions_priorities h_counter q_memory_size n_memory_words c_asleep c_locked c_next c_memory_words c_registers u.2.1 u.2.2.1 u.2.2.2 c_flags_overflow c_exceptions_pending c_exceptions_active c_exceptions_current c_exceptions_masked c_exceptions_priorities c_counter_number c_counter_reload c_counter_on)) (va_runV (As := [.int x2, .int (x3 &&& 255)]) (rest := []) ⟨hx, hb, hml, hown, hts⟩ (c_Flags_moveDown l D cI cB cZ h_flags H.size c_flags_negative c_flags_zero c_flags_carry c_flags_overflow x2 (x3 &&& 255)) (cwV 2 hts (tc_gV wl_ThumbCore_203 wm_Flags_moveDown ws_Flags_moveDown wi_Flags wc_Flags_moveDown) rfl rfl rfl (by decide +kernel) ⟨Nat.le_of_ble_eq_true rfl, Nat.le_of_ble_eq_true rfl⟩) (tc_preV hK hN hP hD [4] rfl (by decide) (q0 := 4) rfl rfl) rfl rfl hl.1 rfl (lv_room (Nat.le_of_ble_eq_true rfl)) d_ThumbCore_combined_122 (by decide)) hP hD hS hA [4] [0, 1, 2, 3, 5, 6, 7] [0, 1, 2, 3, 7, 4, 5, 6] rfl rfl (by decide) (by decide) (by decide) (fun _ => rfl) (fun u H locs hu hP hD hS => ?_)
    obtain ⟨r11, s12, s13, s14⟩ := u
    have hq := hq.trans (un4_eq hu _)
    have e_r11 := hu
    have hP : va_P D tcl (wd_ThumbCore cI cB cZ h h_memory h_memory_words h_registers h_flags h_exceptions h_exceptions_priorities h_counter q_memory_size n_memory_words c_asleep c_locked c_next c_memory_words c_registers s12 s13 s14 c_flags_overflow c_exceptions_pending c_exceptions_active c_exceptions_current c_exceptions_masked c_exceptions_priorities c_counter_number c_counter_reload c_counter_on) H := hP
    have hD : va_D A (wd_ThumbCore cI cB cZ h h_memory h_memory_words h_registers h_flags h_exceptions h_exceptions_priorities h_counter q_memory_size n_memory_words c_asleep c_locked c_next c_memory_words c_registers s12 s13 s14 c_flags_overflow c_exceptions_pending c_exceptions_active c_exceptions_current c_exceptions_masked c_exceptions_priorities c_counter_number c_counter_reload c_counter_on) := hD
    refine W.eq (g2 := F0 m 125 ls [.int r11]) rfl ?_
    exact RET H locs ls 125 (r11, s12, s13, s14, c_flags_overflow) d_ThumbCore_combined_125 hP hD hS hq
  have hq := hq.trans (if_neg g_1_3)
  by_cases g_1_4 : x1 = 4
  · have hq := hq.trans (if_pos g_1_4)
    refine tc_tabIn (k := 4) (off := 125) (tgt := 126) hx hb d_ThumbCore_combined_1 g_1_4 (by decide) (by decide) (by decide +kernel) (by decide) ?_
    refine lv_aload_n hx hb d_ThumbCore_combined_126 rfl (lv_at hl 0 rfl) ?_
    refine va_get (D := D) (ci := 4) (v := .ref h_flags) (C := R_ThumbCore) (T := F_ThumbCore) (N := 8) hx hb hts u_ThumbCore hown hK hP 0 rfl rfl 2 (by decide) (hts _ wf_ThumbCore_34) (fun _ h9 => h9) rfl d_ThumbCore_combined_127 ?_
    refine lv_iload_n hx hb d_ThumbCore_combined_130 rfl (lv_at hl 2 rfl) ?_
    refine lv_iload_n hx hb d_ThumbCore_combined_131 rfl (lv_at hl 3 rfl) ?_
    refine lv_sipush (v := 255) hx hb d_ThumbCore_combined_132 (by decide) ?_
    refine lv_iand hx hb d_ThumbCore_combined_135 ?_
    refine tc_mi (wo := fun u => (wd_ThumbCore cI cB cZ h h_memory h_memory_words h_registers h_flags h_exceptions h_exceptions_priorities h_counter q_memory_size n_memory_words c_asleep c_locked c_next c_memory_words c_registers u.2.1 u.2.2.1 u.2.2.2 c_flags_overflow c_exceptions_pending c_exceptions_active c_exceptions_current c_exceptions_masked c_exceptions_priorities c_counter_number c_counter_reload c_counter_on)) (va_runV (As := [.int x2, .int (x3 &&& 255)]) (rest := []) ⟨hx, hb, hml, hown, hts⟩ (c_Flags_moveDownSigned l D cI cB cZ h_flags H.size c_flags_negative c_flags_zero c_flags_carry c_flags_overflow x2 (x3 &&& 255)) (cwV 2 hts (tc_gV wl_ThumbCore_206 wm_Flags_moveDownSigned ws_Flags_moveDownSigned wi_Flags wc_Flags_moveDownSigned) rfl rfl rfl (by decide +kernel) ⟨Nat.le_of_ble_eq_true rfl, Nat.le_of_ble_eq_true rfl⟩) (tc_preV hK hN hP hD [4] rfl (by decide) (q0 := 4) rfl rfl) rfl rfl hl.1 rfl (lv_room (Nat.le_of_ble_eq_true rfl)) d_ThumbCore_combined_136 (by decide)) hP hD hS hA [4] [0, 1, 2, 3, 5, 6, 7] [0, 1, 2, 3, 7, 4, 5, 6] rfl rfl (by decide) (by decide) (by decide) (fun _ => rfl) (fun u H locs hu hP hD hS => ?_)
    obtain ⟨r15, s16, s17, s18⟩ := u
    have hq := hq.trans (un4_eq hu _)
    have e_r15 := hu
    have hP : va_P D tcl (wd_ThumbCore cI cB cZ h h_memory h_memory_words h_registers h_flags h_exceptions h_exceptions_priorities h_counter q_memory_size n_memory_words c_asleep c_locked c_next c_memory_words c_registers s16 s17 s18 c_flags_overflow c_exceptions_pending c_exceptions_active c_exceptions_current c_exceptions_masked c_exceptions_priorities c_counter_number c_counter_reload c_counter_on) H := hP
    have hD : va_D A (wd_ThumbCore cI cB cZ h h_memory h_memory_words h_registers h_flags h_exceptions h_exceptions_priorities h_counter q_memory_size n_memory_words c_asleep c_locked c_next c_memory_words c_registers s16 s17 s18 c_flags_overflow c_exceptions_pending c_exceptions_active c_exceptions_current c_exceptions_masked c_exceptions_priorities c_counter_number c_counter_reload c_counter_on) := hD
    refine W.eq (g2 := F0 m 139 ls [.int r15]) rfl ?_
    exact RET H locs ls 139 (r15, s16, s17, s18, c_flags_overflow) d_ThumbCore_combined_139 hP hD hS hq
  have hq := hq.trans (if_neg g_1_4)
  by_cases g_1_5 : x1 = 5
  · have hq := hq.trans (if_pos g_1_5)
    refine tc_tabIn (k := 5) (off := 139) (tgt := 140) hx hb d_ThumbCore_combined_1 g_1_5 (by decide) (by decide) (by decide +kernel) (by decide) ?_
    refine lv_aload_n hx hb d_ThumbCore_combined_140 rfl (lv_at hl 0 rfl) ?_
    refine va_get (D := D) (ci := 4) (v := .ref h_flags) (C := R_ThumbCore) (T := F_ThumbCore) (N := 8) hx hb hts u_ThumbCore hown hK hP 0 rfl rfl 2 (by decide) (hts _ wf_ThumbCore_34) (fun _ h9 => h9) rfl d_ThumbCore_combined_141 ?_
    refine lv_iload_n hx hb d_ThumbCore_combined_144 rfl (lv_at hl 2 rfl) ?_
    refine lv_iload_n hx hb d_ThumbCore_combined_145 rfl (lv_at hl 3 rfl) ?_
    refine lv_aload_n hx hb d_ThumbCore_combined_146 rfl (lv_at hl 0 rfl) ?_
    refine va_get (D := D) (ci := 4) (v := .ref h_flags) (C := R_ThumbCore) (T := F_ThumbCore) (N := 8) hx hb hts u_ThumbCore hown hK hP 0 rfl rfl 2 (by decide) (hts _ wf_ThumbCore_34) (fun _ h9 => h9) rfl d_ThumbCore_combined_147 ?_
    refine va_getN (D := D) (ci := 2) (v := .int (bI c_flags_carry)) (C := R_Flags) (T := F_Flags) (N := 4) hx hb hts u_Flags hown hK hP 4 rfl rfl 2 (by decide) (va_Nw.use rfl (hN _ wf_ThumbCore_219)) (fun _ h9 => h9) rfl d_ThumbCore_combined_150 ?_
    refine lv_if_eq (tgt := 160) hx hb d_ThumbCore_combined_153 (by decide) (fun g_153 => ?_) (fun g_153 => ?_)
    · have hq := hq.trans (if_pos g_153)
      refine lv_iconst (v := 0) hx hb d_ThumbCore_combined_160 (by decide) ?_
      exact J_161 H locs ls c_flags_negative c_flags_zero c_flags_carry c_flags_overflow x2 x3 false hP hD hS (lv_sub hl [] rfl) hq
    · have hq := hq.trans (if_neg g_153)
      refine lv_iconst (v := 1) hx hb d_ThumbCore_combined_156 (by decide) ?_
      refine lv_goto (tgt := 161) hx hb d_ThumbCore_combined_157 (by decide) ?_
      exact J_161 H locs ls c_flags_negative c_flags_zero c_flags_carry c_flags_overflow x2 x3 true hP hD hS (lv_sub hl [] rfl) hq
  have hq := hq.trans (if_neg g_1_5)
  by_cases g_1_6 : x1 = 6
  · have hq := hq.trans (if_pos g_1_6)
    refine tc_tabIn (k := 6) (off := 164) (tgt := 165) hx hb d_ThumbCore_combined_1 g_1_6 (by decide) (by decide) (by decide +kernel) (by decide) ?_
    refine lv_aload_n hx hb d_ThumbCore_combined_165 rfl (lv_at hl 0 rfl) ?_
    refine va_get (D := D) (ci := 4) (v := .ref h_flags) (C := R_ThumbCore) (T := F_ThumbCore) (N := 8) hx hb hts u_ThumbCore hown hK hP 0 rfl rfl 2 (by decide) (hts _ wf_ThumbCore_34) (fun _ h9 => h9) rfl d_ThumbCore_combined_166 ?_
    refine lv_iload_n hx hb d_ThumbCore_combined_169 rfl (lv_at hl 2 rfl) ?_
    refine lv_iload_n hx hb d_ThumbCore_combined_170 rfl (lv_at hl 3 rfl) ?_
    refine lv_iconst (v := (-1)) hx hb d_ThumbCore_combined_171 (by decide) ?_
    refine lv_ixor hx hb d_ThumbCore_combined_172 ?_
    refine lv_aload_n hx hb d_ThumbCore_combined_173 rfl (lv_at hl 0 rfl) ?_
    refine va_get (D := D) (ci := 4) (v := .ref h_flags) (C := R_ThumbCore) (T := F_ThumbCore) (N := 8) hx hb hts u_ThumbCore hown hK hP 0 rfl rfl 2 (by decide) (hts _ wf_ThumbCore_34) (fun _ h9 => h9) rfl d_ThumbCore_combined_174 ?_
    refine va_getN (D := D) (ci := 2) (v := .int (bI c_flags_carry)) (C := R_Flags) (T := F_Flags) (N := 4) hx hb hts u_Flags hown hK hP 4 rfl rfl 2 (by decide) (va_Nw.use rfl (hN _ wf_ThumbCore_219)) (fun _ h9 => h9) rfl d_ThumbCore_combined_177 ?_
    refine lv_if_eq (tgt := 187) hx hb d_ThumbCore_combined_180 (by decide) (fun g_180 => ?_) (fun g_180 => ?_)
    · have hq := hq.trans (if_pos g_180)
      refine lv_iconst (v := 0) hx hb d_ThumbCore_combined_187 (by decide) ?_
      exact J_188 H locs ls c_flags_negative c_flags_zero c_flags_carry c_flags_overflow x2 (x3 ^^^ (-1)) false hP hD hS (lv_sub hl [] rfl) hq
    · have hq := hq.trans (if_neg g_180)
      refine lv_iconst (v := 1) hx hb d_ThumbCore_combined_183 (by decide) ?_
      refine lv_goto (tgt := 188) hx hb d_ThumbCore_combined_184 (by decide) ?_
      exact J_188 H locs ls c_flags_negative c_flags_zero c_flags_carry c_flags_overflow x2 (x3 ^^^ (-1)) true hP hD hS (lv_sub hl [] rfl) hq
  have hq := hq.trans (if_neg g_1_6)
  by_cases g_1_7 : x1 = 7
  · have hq := hq.trans (if_pos g_1_7)
    refine tc_tabIn (k := 7) (off := 191) (tgt := 192) hx hb d_ThumbCore_combined_1 g_1_7 (by decide) (by decide) (by decide +kernel) (by decide) ?_
    refine lv_aload_n hx hb d_ThumbCore_combined_192 rfl (lv_at hl 0 rfl) ?_
    refine va_get (D := D) (ci := 4) (v := .ref h_flags) (C := R_ThumbCore) (T := F_ThumbCore) (N := 8) hx hb hts u_ThumbCore hown hK hP 0 rfl rfl 2 (by decide) (hts _ wf_ThumbCore_34) (fun _ h9 => h9) rfl d_ThumbCore_combined_193 ?_
    refine lv_iload_n hx hb d_ThumbCore_combined_196 rfl (lv_at hl 2 rfl) ?_
    refine lv_iload_n hx hb d_ThumbCore_combined_197 rfl (lv_at hl 3 rfl) ?_
    refine lv_sipush (v := 255) hx hb d_ThumbCore_combined_198 (by decide) ?_
    refine lv_iand hx hb d_ThumbCore_combined_201 ?_
    refine tc_mi (wo := fun u => (wd_ThumbCore cI cB cZ h h_memory h_memory_words h_registers h_flags h_exceptions h_exceptions_priorities h_counter q_memory_size n_memory_words c_asleep c_locked c_next c_memory_words c_registers u.2.1 u.2.2.1 u.2.2.2 c_flags_overflow c_exceptions_pending c_exceptions_active c_exceptions_current c_exceptions_masked c_exceptions_priorities c_counter_number c_counter_reload c_counter_on)) (va_runV (As := [.int x2, .int (x3 &&& 255)]) (rest := []) ⟨hx, hb, hml, hown, hts⟩ (c_Flags_turnRound l D cI cB cZ h_flags H.size c_flags_negative c_flags_zero c_flags_carry c_flags_overflow x2 (x3 &&& 255)) (cwV 2 hts (tc_gV wl_ThumbCore_222 wm_Flags_turnRound ws_Flags_turnRound wi_Flags wc_Flags_turnRound) rfl rfl rfl (by decide +kernel) ⟨Nat.le_of_ble_eq_true rfl, Nat.le_of_ble_eq_true rfl⟩) (tc_preV hK hN hP hD [4] rfl (by decide) (q0 := 4) rfl rfl) rfl rfl hl.1 rfl (lv_room (Nat.le_of_ble_eq_true rfl)) d_ThumbCore_combined_202 (by decide)) hP hD hS hA [4] [0, 1, 2, 3, 5, 6, 7] [0, 1, 2, 3, 7, 4, 5, 6] rfl rfl (by decide) (by decide) (by decide) (fun _ => rfl) (fun u H locs hu hP hD hS => ?_)
    obtain ⟨r19, s20, s21, s22⟩ := u
    have hq := hq.trans (un4_eq hu _)
    have e_r19 := hu
    have hP : va_P D tcl (wd_ThumbCore cI cB cZ h h_memory h_memory_words h_registers h_flags h_exceptions h_exceptions_priorities h_counter q_memory_size n_memory_words c_asleep c_locked c_next c_memory_words c_registers s20 s21 s22 c_flags_overflow c_exceptions_pending c_exceptions_active c_exceptions_current c_exceptions_masked c_exceptions_priorities c_counter_number c_counter_reload c_counter_on) H := hP
    have hD : va_D A (wd_ThumbCore cI cB cZ h h_memory h_memory_words h_registers h_flags h_exceptions h_exceptions_priorities h_counter q_memory_size n_memory_words c_asleep c_locked c_next c_memory_words c_registers s20 s21 s22 c_flags_overflow c_exceptions_pending c_exceptions_active c_exceptions_current c_exceptions_masked c_exceptions_priorities c_counter_number c_counter_reload c_counter_on) := hD
    refine W.eq (g2 := F0 m 205 ls [.int r19]) rfl ?_
    exact RET H locs ls 205 (r19, s20, s21, s22, c_flags_overflow) d_ThumbCore_combined_205 hP hD hS hq
  have hq := hq.trans (if_neg g_1_7)
  by_cases g_1_8 : x1 = 8
  · have hq := hq.trans (if_pos g_1_8)
    refine tc_tabIn (k := 8) (off := 75) (tgt := 76) hx hb d_ThumbCore_combined_1 g_1_8 (by decide) (by decide) (by decide +kernel) (by decide) ?_
    refine lv_aload_n hx hb d_ThumbCore_combined_76 rfl (lv_at hl 0 rfl) ?_
    refine va_get (D := D) (ci := 4) (v := .ref h_flags) (C := R_ThumbCore) (T := F_ThumbCore) (N := 8) hx hb hts u_ThumbCore hown hK hP 0 rfl rfl 2 (by decide) (hts _ wf_ThumbCore_34) (fun _ h9 => h9) rfl d_ThumbCore_combined_77 ?_
    refine lv_iload_n hx hb d_ThumbCore_combined_80 rfl (lv_at hl 2 rfl) ?_
    refine lv_iload_n hx hb d_ThumbCore_combined_81 rfl (lv_at hl 3 rfl) ?_
    refine lv_iand hx hb d_ThumbCore_combined_82 ?_
    refine tc_mi (wo := fun u => (wd_ThumbCore cI cB cZ h h_memory h_memory_words h_registers h_flags h_exceptions h_exceptions_priorities h_counter q_memory_size n_memory_words c_asleep c_locked c_next c_memory_words c_registers u.2.1 u.2.2 c_flags_carry c_flags_overflow c_exceptions_pending c_exceptions_active c_exceptions_current c_exceptions_masked c_exceptions_priorities c_counter_number c_counter_reload c_counter_on)) (va_runV (As := [.int (x2 &&& x3)]) (rest := []) ⟨hx, hb, hml, hown, hts⟩ (c_Flags_mark l D cI cB cZ h_flags H.size c_flags_negative c_flags_zero c_flags_carry c_flags_overflow (x2 &&& x3)) (cwV 1 hts (tc_gV wl_ThumbCore_213 wm_Flags_mark ws_Flags_mark wi_Flags wc_Flags_mark) rfl rfl rfl (by decide +kernel) ⟨Nat.le_of_ble_eq_true rfl, Nat.le_of_ble_eq_true rfl⟩) (tc_preV hK hN hP hD [4] rfl (by decide) (q0 := 4) rfl rfl) rfl rfl hl.1 rfl (lv_room (Nat.le_of_ble_eq_true rfl)) d_ThumbCore_combined_83 (by decide)) hP hD hS hA [4] [0, 1, 2, 3, 5, 6, 7] [0, 1, 2, 3, 7, 4, 5, 6] rfl rfl (by decide) (by decide) (by decide) (fun _ => rfl) (fun u H locs hu hP hD hS => ?_)
    obtain ⟨r23, s24, s25⟩ := u
    have hq := hq.trans (un3_eq hu _)
    have e_r23 := hu
    have hP : va_P D tcl (wd_ThumbCore cI cB cZ h h_memory h_memory_words h_registers h_flags h_exceptions h_exceptions_priorities h_counter q_memory_size n_memory_words c_asleep c_locked c_next c_memory_words c_registers s24 s25 c_flags_carry c_flags_overflow c_exceptions_pending c_exceptions_active c_exceptions_current c_exceptions_masked c_exceptions_priorities c_counter_number c_counter_reload c_counter_on) H := hP
    have hD : va_D A (wd_ThumbCore cI cB cZ h h_memory h_memory_words h_registers h_flags h_exceptions h_exceptions_priorities h_counter q_memory_size n_memory_words c_asleep c_locked c_next c_memory_words c_registers s24 s25 c_flags_carry c_flags_overflow c_exceptions_pending c_exceptions_active c_exceptions_current c_exceptions_masked c_exceptions_priorities c_counter_number c_counter_reload c_counter_on) := hD
    refine W.eq (g2 := F0 m 86 ls [.int r23]) rfl ?_
    exact RET H locs ls 86 (r23, s24, s25, c_flags_carry, c_flags_overflow) d_ThumbCore_combined_86 hP hD hS hq
  have hq := hq.trans (if_neg g_1_8)
  by_cases g_1_9 : x1 = 9
  · have hq := hq.trans (if_pos g_1_9)
    refine tc_tabIn (k := 9) (off := 205) (tgt := 206) hx hb d_ThumbCore_combined_1 g_1_9 (by decide) (by decide) (by decide +kernel) (by decide) ?_
    refine lv_aload_n hx hb d_ThumbCore_combined_206 rfl (lv_at hl 0 rfl) ?_
    refine va_get (D := D) (ci := 4) (v := .ref h_flags) (C := R_ThumbCore) (T := F_ThumbCore) (N := 8) hx hb hts u_ThumbCore hown hK hP 0 rfl rfl 2 (by decide) (hts _ wf_ThumbCore_34) (fun _ h9 => h9) rfl d_ThumbCore_combined_207 ?_
    refine lv_iload_n hx hb d_ThumbCore_combined_210 rfl (lv_at hl 3 rfl) ?_
    refine lv_iconst (v := (-1)) hx hb d_ThumbCore_combined_211 (by decide) ?_
    refine lv_ixor hx hb d_ThumbCore_combined_212 ?_
    refine lv_iconst (v := 0) hx hb d_ThumbCore_combined_213 (by decide) ?_
    refine lv_iconst (v := 1) hx hb d_ThumbCore_combined_214 (by decide) ?_
    refine tc_mi (wo := fun u => (wd_ThumbCore cI cB cZ h h_memory h_memory_words h_registers h_flags h_exceptions h_exceptions_priorities h_counter q_memory_size n_memory_words c_asleep c_locked c_next c_memory_words c_registers u.2.1 u.2.2.1 u.2.2.2.1 u.2.2.2.2 c_exceptions_pending c_exceptions_active c_exceptions_current c_exceptions_masked c_exceptions_priorities c_counter_number c_counter_reload c_counter_on)) (va_runV (As := [.int (x3 ^^^ (-1)), .int 0, .int 1]) (rest := []) ⟨hx, hb, hml, hown, hts⟩ (c_Flags_add l D cI cB cZ h_flags H.size c_flags_negative c_flags_zero c_flags_carry c_flags_overflow (x3 ^^^ (-1)) 0 1) (cwV 3 hts (tc_gV wl_ThumbCore_209 wm_Flags_add ws_Flags_add wi_Flags wc_Flags_add) rfl rfl rfl (by decide +kernel) ⟨Nat.le_of_ble_eq_true rfl, Nat.le_of_ble_eq_true rfl⟩) (tc_preV hK hN hP hD [4] rfl (by decide) (q0 := 4) rfl rfl) rfl rfl hl.1 rfl (lv_room (Nat.le_of_ble_eq_true rfl)) d_ThumbCore_combined_215 (by decide)) hP hD hS hA [4] [0, 1, 2, 3, 5, 6, 7] [0, 1, 2, 3, 7, 4, 5, 6] rfl rfl (by decide) (by decide) (by decide) (fun _ => rfl) (fun u H locs hu hP hD hS => ?_)
    obtain ⟨r26, s27, s28, s29, s30⟩ := u
    have hq := hq.trans (un5_eq hu _)
    have e_r26 := hu
    have hP : va_P D tcl (wd_ThumbCore cI cB cZ h h_memory h_memory_words h_registers h_flags h_exceptions h_exceptions_priorities h_counter q_memory_size n_memory_words c_asleep c_locked c_next c_memory_words c_registers s27 s28 s29 s30 c_exceptions_pending c_exceptions_active c_exceptions_current c_exceptions_masked c_exceptions_priorities c_counter_number c_counter_reload c_counter_on) H := hP
    have hD : va_D A (wd_ThumbCore cI cB cZ h h_memory h_memory_words h_registers h_flags h_exceptions h_exceptions_priorities h_counter q_memory_size n_memory_words c_asleep c_locked c_next c_memory_words c_registers s27 s28 s29 s30 c_exceptions_pending c_exceptions_active c_exceptions_current c_exceptions_masked c_exceptions_priorities c_counter_number c_counter_reload c_counter_on) := hD
    refine W.eq (g2 := F0 m 218 ls [.int r26]) rfl ?_
    exact RET H locs ls 218 (r26, s27, s28, s29, s30) d_ThumbCore_combined_218 hP hD hS hq
  have hq := hq.trans (if_neg g_1_9)
  by_cases g_1_10 : x1 = 10
  · have hq := hq.trans (if_pos g_1_10)
    refine tc_tabIn (k := 10) (off := 218) (tgt := 219) hx hb d_ThumbCore_combined_1 g_1_10 (by decide) (by decide) (by decide +kernel) (by decide) ?_
    refine lv_aload_n hx hb d_ThumbCore_combined_219 rfl (lv_at hl 0 rfl) ?_
    refine va_get (D := D) (ci := 4) (v := .ref h_flags) (C := R_ThumbCore) (T := F_ThumbCore) (N := 8) hx hb hts u_ThumbCore hown hK hP 0 rfl rfl 2 (by decide) (hts _ wf_ThumbCore_34) (fun _ h9 => h9) rfl d_ThumbCore_combined_220 ?_
    refine lv_iload_n hx hb d_ThumbCore_combined_223 rfl (lv_at hl 2 rfl) ?_
    refine lv_iload_n hx hb d_ThumbCore_combined_224 rfl (lv_at hl 3 rfl) ?_
    refine lv_iconst (v := (-1)) hx hb d_ThumbCore_combined_225 (by decide) ?_
    refine lv_ixor hx hb d_ThumbCore_combined_226 ?_
    refine lv_iconst (v := 1) hx hb d_ThumbCore_combined_227 (by decide) ?_
    refine tc_mi (wo := fun u => (wd_ThumbCore cI cB cZ h h_memory h_memory_words h_registers h_flags h_exceptions h_exceptions_priorities h_counter q_memory_size n_memory_words c_asleep c_locked c_next c_memory_words c_registers u.2.1 u.2.2.1 u.2.2.2.1 u.2.2.2.2 c_exceptions_pending c_exceptions_active c_exceptions_current c_exceptions_masked c_exceptions_priorities c_counter_number c_counter_reload c_counter_on)) (va_runV (As := [.int x2, .int (x3 ^^^ (-1)), .int 1]) (rest := []) ⟨hx, hb, hml, hown, hts⟩ (c_Flags_add l D cI cB cZ h_flags H.size c_flags_negative c_flags_zero c_flags_carry c_flags_overflow x2 (x3 ^^^ (-1)) 1) (cwV 3 hts (tc_gV wl_ThumbCore_209 wm_Flags_add ws_Flags_add wi_Flags wc_Flags_add) rfl rfl rfl (by decide +kernel) ⟨Nat.le_of_ble_eq_true rfl, Nat.le_of_ble_eq_true rfl⟩) (tc_preV hK hN hP hD [4] rfl (by decide) (q0 := 4) rfl rfl) rfl rfl hl.1 rfl (lv_room (Nat.le_of_ble_eq_true rfl)) d_ThumbCore_combined_228 (by decide)) hP hD hS hA [4] [0, 1, 2, 3, 5, 6, 7] [0, 1, 2, 3, 7, 4, 5, 6] rfl rfl (by decide) (by decide) (by decide) (fun _ => rfl) (fun u H locs hu hP hD hS => ?_)
    obtain ⟨r31, s32, s33, s34, s35⟩ := u
    have hq := hq.trans (un5_eq hu _)
    have e_r31 := hu
    have hP : va_P D tcl (wd_ThumbCore cI cB cZ h h_memory h_memory_words h_registers h_flags h_exceptions h_exceptions_priorities h_counter q_memory_size n_memory_words c_asleep c_locked c_next c_memory_words c_registers s32 s33 s34 s35 c_exceptions_pending c_exceptions_active c_exceptions_current c_exceptions_masked c_exceptions_priorities c_counter_number c_counter_reload c_counter_on) H := hP
    have hD : va_D A (wd_ThumbCore cI cB cZ h h_memory h_memory_words h_registers h_flags h_exceptions h_exceptions_priorities h_counter q_memory_size n_memory_words c_asleep c_locked c_next c_memory_words c_registers s32 s33 s34 s35 c_exceptions_pending c_exceptions_active c_exceptions_current c_exceptions_masked c_exceptions_priorities c_counter_number c_counter_reload c_counter_on) := hD
    refine W.eq (g2 := F0 m 231 ls [.int r31]) rfl ?_
    exact RET H locs ls 231 (r31, s32, s33, s34, s35) d_ThumbCore_combined_231 hP hD hS hq
  have hq := hq.trans (if_neg g_1_10)
  by_cases g_1_11 : x1 = 11
  · have hq := hq.trans (if_pos g_1_11)
    refine tc_tabIn (k := 11) (off := 231) (tgt := 232) hx hb d_ThumbCore_combined_1 g_1_11 (by decide) (by decide) (by decide +kernel) (by decide) ?_
    refine lv_aload_n hx hb d_ThumbCore_combined_232 rfl (lv_at hl 0 rfl) ?_
    refine va_get (D := D) (ci := 4) (v := .ref h_flags) (C := R_ThumbCore) (T := F_ThumbCore) (N := 8) hx hb hts u_ThumbCore hown hK hP 0 rfl rfl 2 (by decide) (hts _ wf_ThumbCore_34) (fun _ h9 => h9) rfl d_ThumbCore_combined_233 ?_
    refine lv_iload_n hx hb d_ThumbCore_combined_236 rfl (lv_at hl 2 rfl) ?_
    refine lv_iload_n hx hb d_ThumbCore_combined_237 rfl (lv_at hl 3 rfl) ?_
    refine lv_iconst (v := 0) hx hb d_ThumbCore_combined_238 (by decide) ?_
    refine tc_mi (wo := fun u => (wd_ThumbCore cI cB cZ h h_memory h_memory_words h_registers h_flags h_exceptions h_exceptions_priorities h_counter q_memory_size n_memory_words c_asleep c_locked c_next c_memory_words c_registers u.2.1 u.2.2.1 u.2.2.2.1 u.2.2.2.2 c_exceptions_pending c_exceptions_active c_exceptions_current c_exceptions_masked c_exceptions_priorities c_counter_number c_counter_reload c_counter_on)) (va_runV (As := [.int x2, .int x3, .int 0]) (rest := []) ⟨hx, hb, hml, hown, hts⟩ (c_Flags_add l D cI cB cZ h_flags H.size c_flags_negative c_flags_zero c_flags_carry c_flags_overflow x2 x3 0) (cwV 3 hts (tc_gV wl_ThumbCore_209 wm_Flags_add ws_Flags_add wi_Flags wc_Flags_add) rfl rfl rfl (by decide +kernel) ⟨Nat.le_of_ble_eq_true rfl, Nat.le_of_ble_eq_true rfl⟩) (tc_preV hK hN hP hD [4] rfl (by decide) (q0 := 4) rfl rfl) rfl rfl hl.1 rfl (lv_room (Nat.le_of_ble_eq_true rfl)) d_ThumbCore_combined_239 (by decide)) hP hD hS hA [4] [0, 1, 2, 3, 5, 6, 7] [0, 1, 2, 3, 7, 4, 5, 6] rfl rfl (by decide) (by decide) (by decide) (fun _ => rfl) (fun u H locs hu hP hD hS => ?_)
    obtain ⟨r36, s37, s38, s39, s40⟩ := u
    have hq := hq.trans (un5_eq hu _)
    have e_r36 := hu
    have hP : va_P D tcl (wd_ThumbCore cI cB cZ h h_memory h_memory_words h_registers h_flags h_exceptions h_exceptions_priorities h_counter q_memory_size n_memory_words c_asleep c_locked c_next c_memory_words c_registers s37 s38 s39 s40 c_exceptions_pending c_exceptions_active c_exceptions_current c_exceptions_masked c_exceptions_priorities c_counter_number c_counter_reload c_counter_on) H := hP
    have hD : va_D A (wd_ThumbCore cI cB cZ h h_memory h_memory_words h_registers h_flags h_exceptions h_exceptions_priorities h_counter q_memory_size n_memory_words c_asleep c_locked c_next c_memory_words c_registers s37 s38 s39 s40 c_exceptions_pending c_exceptions_active c_exceptions_current c_exceptions_masked c_exceptions_priorities c_counter_number c_counter_reload c_counter_on) := hD
    refine W.eq (g2 := F0 m 242 ls [.int r36]) rfl ?_
    exact RET H locs ls 242 (r36, s37, s38, s39, s40) d_ThumbCore_combined_242 hP hD hS hq
  have hq := hq.trans (if_neg g_1_11)
  by_cases g_1_12 : x1 = 12
  · have hq := hq.trans (if_pos g_1_12)
    refine tc_tabIn (k := 12) (off := 242) (tgt := 243) hx hb d_ThumbCore_combined_1 g_1_12 (by decide) (by decide) (by decide +kernel) (by decide) ?_
    refine lv_aload_n hx hb d_ThumbCore_combined_243 rfl (lv_at hl 0 rfl) ?_
    refine va_get (D := D) (ci := 4) (v := .ref h_flags) (C := R_ThumbCore) (T := F_ThumbCore) (N := 8) hx hb hts u_ThumbCore hown hK hP 0 rfl rfl 2 (by decide) (hts _ wf_ThumbCore_34) (fun _ h9 => h9) rfl d_ThumbCore_combined_244 ?_
    refine lv_iload_n hx hb d_ThumbCore_combined_247 rfl (lv_at hl 2 rfl) ?_
    refine lv_iload_n hx hb d_ThumbCore_combined_248 rfl (lv_at hl 3 rfl) ?_
    refine lv_ior hx hb d_ThumbCore_combined_249 ?_
    refine tc_mi (wo := fun u => (wd_ThumbCore cI cB cZ h h_memory h_memory_words h_registers h_flags h_exceptions h_exceptions_priorities h_counter q_memory_size n_memory_words c_asleep c_locked c_next c_memory_words c_registers u.2.1 u.2.2 c_flags_carry c_flags_overflow c_exceptions_pending c_exceptions_active c_exceptions_current c_exceptions_masked c_exceptions_priorities c_counter_number c_counter_reload c_counter_on)) (va_runV (As := [.int (x2 ||| x3)]) (rest := []) ⟨hx, hb, hml, hown, hts⟩ (c_Flags_mark l D cI cB cZ h_flags H.size c_flags_negative c_flags_zero c_flags_carry c_flags_overflow (x2 ||| x3)) (cwV 1 hts (tc_gV wl_ThumbCore_213 wm_Flags_mark ws_Flags_mark wi_Flags wc_Flags_mark) rfl rfl rfl (by decide +kernel) ⟨Nat.le_of_ble_eq_true rfl, Nat.le_of_ble_eq_true rfl⟩) (tc_preV hK hN hP hD [4] rfl (by decide) (q0 := 4) rfl rfl) rfl rfl hl.1 rfl (lv_room (Nat.le_of_ble_eq_true rfl)) d_ThumbCore_combined_250 (by decide)) hP hD hS hA [4] [0, 1, 2, 3, 5, 6, 7] [0, 1, 2, 3, 7, 4, 5, 6] rfl rfl (by decide) (by decide) (by decide) (fun _ => rfl) (fun u H locs hu hP hD hS => ?_)
    obtain ⟨r41, s42, s43⟩ := u
    have hq := hq.trans (un3_eq hu _)
    have e_r41 := hu
    have hP : va_P D tcl (wd_ThumbCore cI cB cZ h h_memory h_memory_words h_registers h_flags h_exceptions h_exceptions_priorities h_counter q_memory_size n_memory_words c_asleep c_locked c_next c_memory_words c_registers s42 s43 c_flags_carry c_flags_overflow c_exceptions_pending c_exceptions_active c_exceptions_current c_exceptions_masked c_exceptions_priorities c_counter_number c_counter_reload c_counter_on) H := hP
    have hD : va_D A (wd_ThumbCore cI cB cZ h h_memory h_memory_words h_registers h_flags h_exceptions h_exceptions_priorities h_counter q_memory_size n_memory_words c_asleep c_locked c_next c_memory_words c_registers s42 s43 c_flags_carry c_flags_overflow c_exceptions_pending c_exceptions_active c_exceptions_current c_exceptions_masked c_exceptions_priorities c_counter_number c_counter_reload c_counter_on) := hD
    refine W.eq (g2 := F0 m 253 ls [.int r41]) rfl ?_
    exact RET H locs ls 253 (r41, s42, s43, c_flags_carry, c_flags_overflow) d_ThumbCore_combined_253 hP hD hS hq
  have hq := hq.trans (if_neg g_1_12)
  by_cases g_1_13 : x1 = 13
  · have hq := hq.trans (if_pos g_1_13)
    refine tc_tabIn (k := 13) (off := 253) (tgt := 254) hx hb d_ThumbCore_combined_1 g_1_13 (by decide) (by decide) (by decide +kernel) (by decide) ?_
    refine lv_aload_n hx hb d_ThumbCore_combined_254 rfl (lv_at hl 0 rfl) ?_
    refine va_get (D := D) (ci := 4) (v := .ref h_flags) (C := R_ThumbCore) (T := F_ThumbCore) (N := 8) hx hb hts u_ThumbCore hown hK hP 0 rfl rfl 2 (by decide) (hts _ wf_ThumbCore_34) (fun _ h9 => h9) rfl d_ThumbCore_combined_255 ?_
    refine lv_iload_n hx hb d_ThumbCore_combined_258 rfl (lv_at hl 2 rfl) ?_
    refine lv_iload_n hx hb d_ThumbCore_combined_259 rfl (lv_at hl 3 rfl) ?_
    refine lv_imul hx hb d_ThumbCore_combined_260 ?_
    refine tc_mi (wo := fun u => (wd_ThumbCore cI cB cZ h h_memory h_memory_words h_registers h_flags h_exceptions h_exceptions_priorities h_counter q_memory_size n_memory_words c_asleep c_locked c_next c_memory_words c_registers u.2.1 u.2.2 c_flags_carry c_flags_overflow c_exceptions_pending c_exceptions_active c_exceptions_current c_exceptions_masked c_exceptions_priorities c_counter_number c_counter_reload c_counter_on)) (va_runV (As := [.int (x2 * x3)]) (rest := []) ⟨hx, hb, hml, hown, hts⟩ (c_Flags_mark l D cI cB cZ h_flags H.size c_flags_negative c_flags_zero c_flags_carry c_flags_overflow (x2 * x3)) (cwV 1 hts (tc_gV wl_ThumbCore_213 wm_Flags_mark ws_Flags_mark wi_Flags wc_Flags_mark) rfl rfl rfl (by decide +kernel) ⟨Nat.le_of_ble_eq_true rfl, Nat.le_of_ble_eq_true rfl⟩) (tc_preV hK hN hP hD [4] rfl (by decide) (q0 := 4) rfl rfl) rfl rfl hl.1 rfl (lv_room (Nat.le_of_ble_eq_true rfl)) d_ThumbCore_combined_261 (by decide)) hP hD hS hA [4] [0, 1, 2, 3, 5, 6, 7] [0, 1, 2, 3, 7, 4, 5, 6] rfl rfl (by decide) (by decide) (by decide) (fun _ => rfl) (fun u H locs hu hP hD hS => ?_)
    obtain ⟨r44, s45, s46⟩ := u
    have hq := hq.trans (un3_eq hu _)
    have e_r44 := hu
    have hP : va_P D tcl (wd_ThumbCore cI cB cZ h h_memory h_memory_words h_registers h_flags h_exceptions h_exceptions_priorities h_counter q_memory_size n_memory_words c_asleep c_locked c_next c_memory_words c_registers s45 s46 c_flags_carry c_flags_overflow c_exceptions_pending c_exceptions_active c_exceptions_current c_exceptions_masked c_exceptions_priorities c_counter_number c_counter_reload c_counter_on) H := hP
    have hD : va_D A (wd_ThumbCore cI cB cZ h h_memory h_memory_words h_registers h_flags h_exceptions h_exceptions_priorities h_counter q_memory_size n_memory_words c_asleep c_locked c_next c_memory_words c_registers s45 s46 c_flags_carry c_flags_overflow c_exceptions_pending c_exceptions_active c_exceptions_current c_exceptions_masked c_exceptions_priorities c_counter_number c_counter_reload c_counter_on) := hD
    refine W.eq (g2 := F0 m 264 ls [.int r44]) rfl ?_
    exact RET H locs ls 264 (r44, s45, s46, c_flags_carry, c_flags_overflow) d_ThumbCore_combined_264 hP hD hS hq
  have hq := hq.trans (if_neg g_1_13)
  by_cases g_1_14 : x1 = 14
  · have hq := hq.trans (if_pos g_1_14)
    refine tc_tabIn (k := 14) (off := 264) (tgt := 265) hx hb d_ThumbCore_combined_1 g_1_14 (by decide) (by decide) (by decide +kernel) (by decide) ?_
    refine lv_aload_n hx hb d_ThumbCore_combined_265 rfl (lv_at hl 0 rfl) ?_
    refine va_get (D := D) (ci := 4) (v := .ref h_flags) (C := R_ThumbCore) (T := F_ThumbCore) (N := 8) hx hb hts u_ThumbCore hown hK hP 0 rfl rfl 2 (by decide) (hts _ wf_ThumbCore_34) (fun _ h9 => h9) rfl d_ThumbCore_combined_266 ?_
    refine lv_iload_n hx hb d_ThumbCore_combined_269 rfl (lv_at hl 2 rfl) ?_
    refine lv_iload_n hx hb d_ThumbCore_combined_270 rfl (lv_at hl 3 rfl) ?_
    refine lv_iconst (v := (-1)) hx hb d_ThumbCore_combined_271 (by decide) ?_
    refine lv_ixor hx hb d_ThumbCore_combined_272 ?_
    refine lv_iand hx hb d_ThumbCore_combined_273 ?_
    refine tc_mi (wo := fun u => (wd_ThumbCore cI cB cZ h h_memory h_memory_words h_registers h_flags h_exceptions h_exceptions_priorities h_counter q_memory_size n_memory_words c_asleep c_locked c_next c_memory_words c_registers u.2.1 u.2.2 c_flags_carry c_flags_overflow c_exceptions_pending c_exceptions_active c_exceptions_current c_exceptions_masked c_exceptions_priorities c_counter_number c_counter_reload c_counter_on)) (va_runV (As := [.int (x2 &&& (x3 ^^^ (-1)))]) (rest := []) ⟨hx, hb, hml, hown, hts⟩ (c_Flags_mark l D cI cB cZ h_flags H.size c_flags_negative c_flags_zero c_flags_carry c_flags_overflow (x2 &&& (x3 ^^^ (-1)))) (cwV 1 hts (tc_gV wl_ThumbCore_213 wm_Flags_mark ws_Flags_mark wi_Flags wc_Flags_mark) rfl rfl rfl (by decide +kernel) ⟨Nat.le_of_ble_eq_true rfl, Nat.le_of_ble_eq_true rfl⟩) (tc_preV hK hN hP hD [4] rfl (by decide) (q0 := 4) rfl rfl) rfl rfl hl.1 rfl (lv_room (Nat.le_of_ble_eq_true rfl)) d_ThumbCore_combined_274 (by decide)) hP hD hS hA [4] [0, 1, 2, 3, 5, 6, 7] [0, 1, 2, 3, 7, 4, 5, 6] rfl rfl (by decide) (by decide) (by decide) (fun _ => rfl) (fun u H locs hu hP hD hS => ?_)
    obtain ⟨r47, s48, s49⟩ := u
    have hq := hq.trans (un3_eq hu _)
    have e_r47 := hu
    have hP : va_P D tcl (wd_ThumbCore cI cB cZ h h_memory h_memory_words h_registers h_flags h_exceptions h_exceptions_priorities h_counter q_memory_size n_memory_words c_asleep c_locked c_next c_memory_words c_registers s48 s49 c_flags_carry c_flags_overflow c_exceptions_pending c_exceptions_active c_exceptions_current c_exceptions_masked c_exceptions_priorities c_counter_number c_counter_reload c_counter_on) H := hP
    have hD : va_D A (wd_ThumbCore cI cB cZ h h_memory h_memory_words h_registers h_flags h_exceptions h_exceptions_priorities h_counter q_memory_size n_memory_words c_asleep c_locked c_next c_memory_words c_registers s48 s49 c_flags_carry c_flags_overflow c_exceptions_pending c_exceptions_active c_exceptions_current c_exceptions_masked c_exceptions_priorities c_counter_number c_counter_reload c_counter_on) := hD
    refine W.eq (g2 := F0 m 277 ls [.int r47]) rfl ?_
    exact RET H locs ls 277 (r47, s48, s49, c_flags_carry, c_flags_overflow) d_ThumbCore_combined_277 hP hD hS hq
  have hq := hq.trans (if_neg g_1_14)
  have DF : W p l e rm_ThumbCore_combined s m ([.ref h, .int x1, .int x2, .int x3] : List Value).toArray below meth c H locs 0 0 Q (F0 m 278 ls []) := by
    refine lv_aload_n hx hb d_ThumbCore_combined_278 rfl (lv_at hl 0 rfl) ?_
    refine va_get (D := D) (ci := 4) (v := .ref h_flags) (C := R_ThumbCore) (T := F_ThumbCore) (N := 8) hx hb hts u_ThumbCore hown hK hP 0 rfl rfl 2 (by decide) (hts _ wf_ThumbCore_34) (fun _ h9 => h9) rfl d_ThumbCore_combined_279 ?_
    refine lv_iload_n hx hb d_ThumbCore_combined_282 rfl (lv_at hl 3 rfl) ?_
    refine lv_iconst (v := (-1)) hx hb d_ThumbCore_combined_283 (by decide) ?_
    refine lv_ixor hx hb d_ThumbCore_combined_284 ?_
    refine tc_mi (wo := fun u => (wd_ThumbCore cI cB cZ h h_memory h_memory_words h_registers h_flags h_exceptions h_exceptions_priorities h_counter q_memory_size n_memory_words c_asleep c_locked c_next c_memory_words c_registers u.2.1 u.2.2 c_flags_carry c_flags_overflow c_exceptions_pending c_exceptions_active c_exceptions_current c_exceptions_masked c_exceptions_priorities c_counter_number c_counter_reload c_counter_on)) (va_runV (As := [.int (x3 ^^^ (-1))]) (rest := []) ⟨hx, hb, hml, hown, hts⟩ (c_Flags_mark l D cI cB cZ h_flags H.size c_flags_negative c_flags_zero c_flags_carry c_flags_overflow (x3 ^^^ (-1))) (cwV 1 hts (tc_gV wl_ThumbCore_213 wm_Flags_mark ws_Flags_mark wi_Flags wc_Flags_mark) rfl rfl rfl (by decide +kernel) ⟨Nat.le_of_ble_eq_true rfl, Nat.le_of_ble_eq_true rfl⟩) (tc_preV hK hN hP hD [4] rfl (by decide) (q0 := 4) rfl rfl) rfl rfl hl.1 rfl (lv_room (Nat.le_of_ble_eq_true rfl)) d_ThumbCore_combined_285 (by decide)) hP hD hS hA [4] [0, 1, 2, 3, 5, 6, 7] [0, 1, 2, 3, 7, 4, 5, 6] rfl rfl (by decide) (by decide) (by decide) (fun _ => rfl) (fun u H locs hu hP hD hS => ?_)
    obtain ⟨r50, s51, s52⟩ := u
    have hq := hq.trans (un3_eq hu _)
    have e_r50 := hu
    have hP : va_P D tcl (wd_ThumbCore cI cB cZ h h_memory h_memory_words h_registers h_flags h_exceptions h_exceptions_priorities h_counter q_memory_size n_memory_words c_asleep c_locked c_next c_memory_words c_registers s51 s52 c_flags_carry c_flags_overflow c_exceptions_pending c_exceptions_active c_exceptions_current c_exceptions_masked c_exceptions_priorities c_counter_number c_counter_reload c_counter_on) H := hP
    have hD : va_D A (wd_ThumbCore cI cB cZ h h_memory h_memory_words h_registers h_flags h_exceptions h_exceptions_priorities h_counter q_memory_size n_memory_words c_asleep c_locked c_next c_memory_words c_registers s51 s52 c_flags_carry c_flags_overflow c_exceptions_pending c_exceptions_active c_exceptions_current c_exceptions_masked c_exceptions_priorities c_counter_number c_counter_reload c_counter_on) := hD
    refine W.eq (g2 := F0 m 288 ls [.int r50]) rfl ?_
    exact RET H locs ls 288 (r50, s51, s52, c_flags_carry, c_flags_overflow) d_ThumbCore_combined_288 hP hD hS hq
  exact lv_tableOut (x := x1) hx hb d_ThumbCore_combined_1 (by have n0 := tc_ne (j := 0) g_1_0 (by decide); have n1 := tc_ne (j := 1) g_1_1 (by decide); have n2 := tc_ne (j := 2) g_1_2 (by decide); have n3 := tc_ne (j := 3) g_1_3 (by decide); have n4 := tc_ne (j := 4) g_1_4 (by decide); have n5 := tc_ne (j := 5) g_1_5 (by decide); have n6 := tc_ne (j := 6) g_1_6 (by decide); have n7 := tc_ne (j := 7) g_1_7 (by decide); have n8 := tc_ne (j := 8) g_1_8 (by decide); have n9 := tc_ne (j := 9) g_1_9 (by decide); have n10 := tc_ne (j := 10) g_1_10 (by decide); have n11 := tc_ne (j := 11) g_1_11 (by decide); have n12 := tc_ne (j := 12) g_1_12 (by decide); have n13 := tc_ne (j := 13) g_1_13 (by decide); have n14 := tc_ne (j := 14) g_1_14 (by decide); omega) (by decide) DF
abbrev rm_ThumbCore_combine : Room := { frames := 4, cells := 0, slots := 0, locals := 96 }
set_option maxHeartbeats 4000000 in
set_option maxRecDepth 100000 in
theorem c_ThumbCore_combine (l : Launch) (D : va_G) (cI cB cZ : ClassId) (h h_memory h_memory_words h_registers h_flags h_exceptions h_exceptions_priorities h_counter sz : Nat) (q_memory_size : Int32) (n_memory_words : Nat) (c_asleep : Bool) (c_locked : Bool) (c_next : Int32) (c_memory_words : Nat → Int32) (c_registers : Nat → Int32) (c_flags_negative : Bool) (c_flags_zero : Bool) (c_flags_carry : Bool) (c_flags_overflow : Bool) (c_exceptions_pending : Int32) (c_exceptions_active : Int32) (c_exceptions_current : Int32) (c_exceptions_masked : Bool) (c_exceptions_priorities : Nat → Int32) (c_counter_number : Int32) (c_counter_reload : Int32) (c_counter_on : Bool) (x1 : Int32) : Met l y_ThumbCore_combine (.code y_ThumbCore_combine b_ThumbCore_combine 6 (some .boolean) :: tcb) rm_ThumbCore_combine (tc_Pw D tcl (tys cI cB cZ) (wd_ThumbCore cI cB cZ h h_memory h_memory_words h_registers h_flags h_exceptions h_exceptions_priorities h_counter q_memory_size n_memory_words c_asleep c_locked c_next c_memory_words c_registers c_flags_negative c_flags_zero c_flags_carry c_flags_overflow c_exceptions_pending c_exceptions_active c_exceptions_current c_exceptions_masked c_exceptions_priorities c_counter_number c_counter_reload c_counter_on) sz ([.ref h, .int x1] : List Value) none) (tc_Qz D tcl (wd_ThumbCore cI cB cZ h h_memory h_memory_words h_registers h_flags h_exceptions h_exceptions_priorities h_counter q_memory_size n_memory_words c_asleep c_locked c_next c_memory_words c_registers c_flags_negative c_flags_zero c_flags_carry c_flags_overflow c_exceptions_pending c_exceptions_active c_exceptions_current c_exceptions_masked c_exceptions_priorities c_counter_number c_counter_reload c_counter_on) sz (fun u => (wd_ThumbCore cI cB cZ h h_memory h_memory_words h_registers h_flags h_exceptions h_exceptions_priorities h_counter q_memory_size n_memory_words c_asleep c_locked c_next c_memory_words u.2.1 u.2.2.1 u.2.2.2.1 u.2.2.2.2.1 u.2.2.2.2.2 c_exceptions_pending c_exceptions_active c_exceptions_current c_exceptions_masked c_exceptions_priorities c_counter_number c_counter_reload c_counter_on)) (f_ThumbCore_combine c_registers c_flags_negative c_flags_zero c_flags_carry c_flags_overflow x1)) 0 0 (va_A (wd_ThumbCore cI cB cZ h h_memory h_memory_words h_registers h_flags h_exceptions h_exceptions_priorities h_counter q_memory_size n_memory_words c_asleep c_locked c_next c_memory_words c_registers c_flags_negative c_flags_zero c_flags_carry c_flags_overflow c_exceptions_pending c_exceptions_active c_exceptions_current c_exceptions_masked c_exceptions_priorities c_counter_number c_counter_reload c_counter_on) sz) := by
  refine tc_mu_z (by decide) (Nat.le_of_ble_eq_true rfl) ?_
  intro p e s m below meth c A Q ls hx hb hml hts hown hK hN hP hD hA hZ hl RET
  have hS : va_S A s.heap s.heap [] := va_S.rf
  have hl : lv_has ls 6 [(0, .ref h), (1, .int x1)] := hl
  generalize hF : f_ThumbCore_combine c_registers c_flags_negative c_flags_zero c_flags_carry c_flags_overflow x1 = FF at RET
  have J_60 : ∀ (H : Heap) (locs : List Loc) (ls : Array Slot) (c_registers : Nat → Int32) (c_flags_negative : Bool) (c_flags_zero : Bool) (c_flags_carry : Bool) (c_flags_overflow : Bool) (y2 : Int32) (y4 : Int32) (z0 : Bool), va_P D tcl (wd_ThumbCore cI cB cZ h h_memory h_memory_words h_registers h_flags h_exceptions h_exceptions_priorities h_counter q_memory_size n_memory_words c_asleep c_locked c_next c_memory_words c_registers c_flags_negative c_flags_zero c_flags_carry c_flags_overflow c_exceptions_pending c_exceptions_active c_exceptions_current c_exceptions_masked c_exceptions_priorities c_counter_number c_counter_reload c_counter_on) H → va_D A (wd_ThumbCore cI cB cZ h h_memory h_memory_words h_registers h_flags h_exceptions h_exceptions_priorities h_counter q_memory_size n_memory_words c_asleep c_locked c_next c_memory_words c_registers c_flags_negative c_flags_zero c_flags_carry c_flags_overflow c_exceptions_pending c_exceptions_active c_exceptions_current c_exceptions_masked c_exceptions_priorities c_counter_number c_counter_reload c_counter_on) → va_S A s.heap H locs → lv_has ls 6 [(0, .ref h), (2, .int y2), (4, .int y4)] → FF = k_ThumbCore_combine_60 c_registers c_flags_negative c_flags_zero c_flags_carry c_flags_overflow y2 y4 z0 → (vp_in y2 16) → W p l e rm_ThumbCore_combine s m ([.ref h, .int x1] : List Value).toArray below meth c H locs 0 0 Q (F0 m 60 ls [.int (bI z0)]) := by
    intro H locs ls c_registers c_flags_negative c_flags_zero c_flags_carry c_flags_overflow y2 y4 z0 hP hD hS hl hq hi_y2
    refine lv_istore (lv' := [(5, .int (bI z0)), (0, .ref h), (2, .int y2), (4, .int y4)]) hx hb d_ThumbCore_combine_60 hl (by decide) rfl (fun ls hl => ?_)
    refine lv_iload hx hb d_ThumbCore_combine_62 (lv_at hl 0 rfl) ?_
    refine lv_if_ne (tgt := 75) hx hb d_ThumbCore_combine_64 (by decide) (fun g_64 => ?_) (fun g_64 => ?_)
    · have hq := hq.trans (if_pos g_64)
      refine lv_iconst (v := 1) hx hb d_ThumbCore_combine_75 (by decide) ?_
      exact RET H locs ls 76 (true, c_registers, c_flags_negative, c_flags_zero, c_flags_carry, c_flags_overflow) d_ThumbCore_combine_76 hP hD hS hq
    · have hq := hq.trans (if_neg (fun g => g g_64))
      refine lv_aload_n hx hb d_ThumbCore_combine_67 rfl (lv_at hl 1 rfl) ?_
      refine va_get (D := D) (ci := 4) (v := .ref h_registers) (C := R_ThumbCore) (T := F_ThumbCore) (N := 8) hx hb hts u_ThumbCore hown hK hP 0 rfl rfl 1 (by decide) (hts _ wf_ThumbCore_27) (fun _ h9 => h9) rfl d_ThumbCore_combine_68 ?_
      refine lv_iload_n hx hb d_ThumbCore_combine_71 rfl (lv_at hl 2 rfl) ?_
      refine lv_iload hx hb d_ThumbCore_combine_72 (lv_at hl 3 rfl) ?_
      refine va_iast hx hb hK hP hD hS 3 0 rfl rfl hi_y2 d_ThumbCore_combine_74 (fun H locs hP hD hS => ?_)
      have hP : va_P D tcl (wd_ThumbCore cI cB cZ h h_memory h_memory_words h_registers h_flags h_exceptions h_exceptions_priorities h_counter q_memory_size n_memory_words c_asleep c_locked c_next c_memory_words (upd c_registers y2.toNatClampNeg y4) c_flags_negative c_flags_zero c_flags_carry c_flags_overflow c_exceptions_pending c_exceptions_active c_exceptions_current c_exceptions_masked c_exceptions_priorities c_counter_number c_counter_reload c_counter_on) H := hP
      have hD : va_D A (wd_ThumbCore cI cB cZ h h_memory h_memory_words h_registers h_flags h_exceptions h_exceptions_priorities h_counter q_memory_size n_memory_words c_asleep c_locked c_next c_memory_words (upd c_registers y2.toNatClampNeg y4) c_flags_negative c_flags_zero c_flags_carry c_flags_overflow c_exceptions_pending c_exceptions_active c_exceptions_current c_exceptions_masked c_exceptions_priorities c_counter_number c_counter_reload c_counter_on) := hD
      refine lv_iconst (v := 1) hx hb d_ThumbCore_combine_75 (by decide) ?_
      exact RET H locs ls 76 (true, (upd c_registers y2.toNatClampNeg y4), c_flags_negative, c_flags_zero, c_flags_carry, c_flags_overflow) d_ThumbCore_combine_76 hP hD hS hq
  have J_55 : ∀ (H : Heap) (locs : List Loc) (ls : Array Slot) (c_registers : Nat → Int32) (c_flags_negative : Bool) (c_flags_zero : Bool) (c_flags_carry : Bool) (c_flags_overflow : Bool) (y2 : Int32) (y4 : Int32), va_P D tcl (wd_ThumbCore cI cB cZ h h_memory h_memory_words h_registers h_flags h_exceptions h_exceptions_priorities h_counter q_memory_size n_memory_words c_asleep c_locked c_next c_memory_words c_registers c_flags_negative c_flags_zero c_flags_carry c_flags_overflow c_exceptions_pending c_exceptions_active c_exceptions_current c_exceptions_masked c_exceptions_priorities c_counter_number c_counter_reload c_counter_on) H → va_D A (wd_ThumbCore cI cB cZ h h_memory h_memory_words h_registers h_flags h_exceptions h_exceptions_priorities h_counter q_memory_size n_memory_words c_asleep c_locked c_next c_memory_words c_registers c_flags_negative c_flags_zero c_flags_carry c_flags_overflow c_exceptions_pending c_exceptions_active c_exceptions_current c_exceptions_masked c_exceptions_priorities c_counter_number c_counter_reload c_counter_on) → va_S A s.heap H locs → lv_has ls 6 [(0, .ref h), (2, .int y2), (4, .int y4)] → FF = k_ThumbCore_combine_55 c_registers c_flags_negative c_flags_zero c_flags_carry c_flags_overflow y2 y4 → (vp_in y2 16) → W p l e rm_ThumbCore_combine s m ([.ref h, .int x1] : List Value).toArray below meth c H locs 0 0 Q (F0 m 55 ls []) := by
    intro H locs ls c_registers c_flags_negative c_flags_zero c_flags_carry c_flags_overflow y2 y4 hP hD hS hl hq hi_y2
    refine lv_iconst (v := 1) hx hb d_ThumbCore_combine_55 (by decide) ?_
    refine lv_goto (tgt := 60) hx hb d_ThumbCore_combine_56 (by decide) ?_
    exact J_60 H locs ls c_registers c_flags_negative c_flags_zero c_flags_carry c_flags_overflow y2 y4 true hP hD hS (lv_sub hl [0, 1, 2] rfl) hq hi_y2
  have hq : FF = f_ThumbCore_combine c_registers c_flags_negative c_flags_zero c_flags_carry c_flags_overflow x1 := hF.symm
  revert hP hD hS
  suffices G : ∀ (H : Heap) (locs : List Loc), va_P D tcl (wd_ThumbCore cI cB cZ h h_memory h_memory_words h_registers h_flags h_exceptions h_exceptions_priorities h_counter q_memory_size n_memory_words c_asleep c_locked c_next c_memory_words c_registers c_flags_negative c_flags_zero c_flags_carry c_flags_overflow c_exceptions_pending c_exceptions_active c_exceptions_current c_exceptions_masked c_exceptions_priorities c_counter_number c_counter_reload c_counter_on) H → va_D A (wd_ThumbCore cI cB cZ h h_memory h_memory_words h_registers h_flags h_exceptions h_exceptions_priorities h_counter q_memory_size n_memory_words c_asleep c_locked c_next c_memory_words c_registers c_flags_negative c_flags_zero c_flags_carry c_flags_overflow c_exceptions_pending c_exceptions_active c_exceptions_current c_exceptions_masked c_exceptions_priorities c_counter_number c_counter_reload c_counter_on) → va_S A s.heap H locs → W p l e rm_ThumbCore_combine s m ([.ref h, .int x1] : List Value).toArray below meth c H locs 0 0 Q (F0 m 0 ls []) from fun hP hD hS => G _ _ hP hD hS
  intro H locs hP hD hS
  refine lv_iload_n hx hb d_ThumbCore_combine_0 rfl (lv_at hl 1 rfl) ?_
  refine lv_bipush (v := 7) hx hb d_ThumbCore_combine_1 (by decide) ?_
  refine lv_iand hx hb d_ThumbCore_combine_3 ?_
  refine lv_topi (fun v1 e_v1 => ?_)
  have hq := tc_nm hq e_v1
  refine lv_istore_n (lv' := [(2, .int v1), (0, .ref h), (1, .int x1)]) hx hb d_ThumbCore_combine_4 rfl hl (by decide) rfl (fun ls hl => ?_)
  refine lv_iload_n hx hb d_ThumbCore_combine_5 rfl (lv_at hl 2 rfl) ?_
  refine lv_bipush (v := 6) hx hb d_ThumbCore_combine_6 (by decide) ?_
  refine lv_iushr (v := (o_iushr x1 6)) hx hb d_ThumbCore_combine_8 rfl ?_
  refine lv_bipush (v := 15) hx hb d_ThumbCore_combine_9 (by decide) ?_
  refine lv_iand hx hb d_ThumbCore_combine_11 ?_
  refine lv_topi (fun v2 e_v2 => ?_)
  have hq := tc_nm hq e_v2
  refine lv_istore_n (lv' := [(3, .int v2), (2, .int v1), (0, .ref h), (1, .int x1)]) hx hb d_ThumbCore_combine_12 rfl hl (by decide) rfl (fun ls hl => ?_)
  refine lv_aload_n hx hb d_ThumbCore_combine_13 rfl (lv_at hl 2 rfl) ?_
  refine lv_iload_n hx hb d_ThumbCore_combine_14 rfl (lv_at hl 0 rfl) ?_
  refine lv_aload_n hx hb d_ThumbCore_combine_15 rfl (lv_at hl 2 rfl) ?_
  refine va_get (D := D) (ci := 4) (v := .ref h_registers) (C := R_ThumbCore) (T := F_ThumbCore) (N := 8) hx hb hts u_ThumbCore hown hK hP 0 rfl rfl 1 (by decide) (hts _ wf_ThumbCore_27) (fun _ h9 => h9) rfl d_ThumbCore_combine_16 ?_
  refine lv_iload_n hx hb d_ThumbCore_combine_19 rfl (lv_at hl 1 rfl) ?_
  refine va_iald hx hb hK hP 3 0 rfl rfl (tc_en7 e_v1) d_ThumbCore_combine_20 ?_
  refine lv_aload_n hx hb d_ThumbCore_combine_21 rfl (lv_at hl 2 rfl) ?_
  refine va_get (D := D) (ci := 4) (v := .ref h_registers) (C := R_ThumbCore) (T := F_ThumbCore) (N := 8) hx hb hts u_ThumbCore hown hK hP 0 rfl rfl 1 (by decide) (hts _ wf_ThumbCore_27) (fun _ h9 => h9) rfl d_ThumbCore_combine_22 ?_
  refine lv_iload_n hx hb d_ThumbCore_combine_25 rfl (lv_at hl 3 rfl) ?_
  refine lv_iconst (v := 3) hx hb d_ThumbCore_combine_26 (by decide) ?_
  refine lv_iushr (v := (o_iushr x1 3)) hx hb d_ThumbCore_combine_27 rfl ?_
  refine lv_bipush (v := 7) hx hb d_ThumbCore_combine_28 (by decide) ?_
  refine lv_iand hx hb d_ThumbCore_combine_30 ?_
  refine va_iald hx hb hK hP 3 0 rfl rfl (tc_in7 _) d_ThumbCore_combine_31 ?_
  refine tc_mi (wo := fun u => (wd_ThumbCore cI cB cZ h h_memory h_memory_words h_registers h_flags h_exceptions h_exceptions_priorities h_counter q_memory_size n_memory_words c_asleep c_locked c_next c_memory_words c_registers u.2.1 u.2.2.1 u.2.2.2.1 u.2.2.2.2 c_exceptions_pending c_exceptions_active c_exceptions_current c_exceptions_masked c_exceptions_priorities c_counter_number c_counter_reload c_counter_on)) (va_runV (As := [.int v2, .int (c_registers v1.toNatClampNeg), .int (c_registers ((o_iushr x1 3) &&& 7).toNatClampNeg)]) (rest := []) ⟨hx, hb, hml, hown, hts⟩ (c_ThumbCore_combined l D cI cB cZ h h_memory h_memory_words h_registers h_flags h_exceptions h_exceptions_priorities h_counter H.size q_memory_size n_memory_words c_asleep c_locked c_next c_memory_words c_registers c_flags_negative c_flags_zero c_flags_carry c_flags_overflow c_exceptions_pending c_exceptions_active c_exceptions_current c_exceptions_masked c_exceptions_priorities c_counter_number c_counter_reload c_counter_on v2 (c_registers v1.toNatClampNeg) (c_registers ((o_iushr x1 3) &&& 7).toNatClampNeg)) (cwV 3 hts (tc_gV wl_ThumbCore_216 wm_ThumbCore_combined ws_ThumbCore_combined wi_ThumbCore wc_ThumbCore_combined) rfl rfl rfl (by decide +kernel) ⟨Nat.le_of_ble_eq_true rfl, Nat.le_of_ble_eq_true rfl⟩) (tc_preV hK hN hP hD [0, 1, 2, 3, 4, 5, 6, 7] rfl (by decide) (q0 := 0) rfl rfl) rfl rfl hl.1 rfl (lv_room (Nat.le_of_ble_eq_true rfl)) d_ThumbCore_combine_32 (by decide)) hP hD hS hA [0, 1, 2, 3, 4, 5, 6, 7] [] [0, 1, 2, 3, 4, 5, 6, 7] rfl rfl (by decide) (by decide) (by decide) (fun _ => rfl) (fun u H locs hu hP hD hS => ?_)
  obtain ⟨r3, s4, s5, s6, s7⟩ := u
  have hq := hq.trans (un5_eq hu _)
  have e_r3 := hu
  have hP : va_P D tcl (wd_ThumbCore cI cB cZ h h_memory h_memory_words h_registers h_flags h_exceptions h_exceptions_priorities h_counter q_memory_size n_memory_words c_asleep c_locked c_next c_memory_words c_registers s4 s5 s6 s7 c_exceptions_pending c_exceptions_active c_exceptions_current c_exceptions_masked c_exceptions_priorities c_counter_number c_counter_reload c_counter_on) H := hP
  have hD : va_D A (wd_ThumbCore cI cB cZ h h_memory h_memory_words h_registers h_flags h_exceptions h_exceptions_priorities h_counter q_memory_size n_memory_words c_asleep c_locked c_next c_memory_words c_registers s4 s5 s6 s7 c_exceptions_pending c_exceptions_active c_exceptions_current c_exceptions_masked c_exceptions_priorities c_counter_number c_counter_reload c_counter_on) := hD
  refine W.eq (g2 := F0 m 35 ls [.int r3]) rfl ?_
  refine lv_istore (lv' := [(4, .int r3), (3, .int v2), (2, .int v1), (0, .ref h), (1, .int x1)]) hx hb d_ThumbCore_combine_35 hl (by decide) rfl (fun ls hl => ?_)
  refine lv_iload_n hx hb d_ThumbCore_combine_37 rfl (lv_at hl 1 rfl) ?_
  refine lv_bipush (v := 8) hx hb d_ThumbCore_combine_38 (by decide) ?_
  refine lv_icmp_eq (tgt := 55) hx hb d_ThumbCore_combine_40 (by decide) (fun g_40 => ?_) (fun g_40 => ?_)
  · have hq := hq.trans (if_pos g_40)
    exact J_55 H locs ls c_registers s4 s5 s6 s7 v1 r3 hP hD hS (lv_sub hl [3, 2, 0] rfl) hq (tc_en7 e_v1)
  · have hq := hq.trans (if_neg g_40)
    refine lv_iload_n hx hb d_ThumbCore_combine_43 rfl (lv_at hl 1 rfl) ?_
    refine lv_bipush (v := 10) hx hb d_ThumbCore_combine_44 (by decide) ?_
    refine lv_icmp_eq (tgt := 55) hx hb d_ThumbCore_combine_46 (by decide) (fun g_46 => ?_) (fun g_46 => ?_)
    · have hq := hq.trans (if_pos g_46)
      exact J_55 H locs ls c_registers s4 s5 s6 s7 v1 r3 hP hD hS (lv_sub hl [3, 2, 0] rfl) hq (tc_en7 e_v1)
    · have hq := hq.trans (if_neg g_46)
      refine lv_iload_n hx hb d_ThumbCore_combine_49 rfl (lv_at hl 1 rfl) ?_
      refine lv_bipush (v := 11) hx hb d_ThumbCore_combine_50 (by decide) ?_
      refine lv_icmp_ne (tgt := 59) hx hb d_ThumbCore_combine_52 (by decide) (fun g_52 => ?_) (fun g_52 => ?_)
      · have hq := hq.trans (if_pos g_52)
        refine lv_iconst (v := 0) hx hb d_ThumbCore_combine_59 (by decide) ?_
        exact J_60 H locs ls c_registers s4 s5 s6 s7 v1 r3 false hP hD hS (lv_sub hl [3, 2, 0] rfl) hq (tc_en7 e_v1)
      · have hq := hq.trans (if_neg (fun g => g g_52))
        exact J_55 H locs ls c_registers s4 s5 s6 s7 v1 r3 hP hD hS (lv_sub hl [3, 2, 0] rfl) hq (tc_en7 e_v1)
abbrev rm_ThumbCore_here : Room := { frames := 1, cells := 0, slots := 0, locals := 24 }
set_option maxHeartbeats 4000000 in
set_option maxRecDepth 100000 in
theorem c_ThumbCore_here (l : Launch) (D : va_G) (cI cB cZ : ClassId) (h h_memory h_memory_words h_registers h_flags h_exceptions h_exceptions_priorities h_counter sz : Nat) (q_memory_size : Int32) (n_memory_words : Nat) (c_asleep : Bool) (c_locked : Bool) (c_next : Int32) (c_memory_words : Nat → Int32) (c_registers : Nat → Int32) (c_flags_negative : Bool) (c_flags_zero : Bool) (c_flags_carry : Bool) (c_flags_overflow : Bool) (c_exceptions_pending : Int32) (c_exceptions_active : Int32) (c_exceptions_current : Int32) (c_exceptions_masked : Bool) (c_exceptions_priorities : Nat → Int32) (c_counter_number : Int32) (c_counter_reload : Int32) (c_counter_on : Bool) : Met l y_ThumbCore_here (.code y_ThumbCore_here b_ThumbCore_here 1 (some .int) :: tcb) rm_ThumbCore_here (tc_Pw D tcl (tys cI cB cZ) (wd_ThumbCore cI cB cZ h h_memory h_memory_words h_registers h_flags h_exceptions h_exceptions_priorities h_counter q_memory_size n_memory_words c_asleep c_locked c_next c_memory_words c_registers c_flags_negative c_flags_zero c_flags_carry c_flags_overflow c_exceptions_pending c_exceptions_active c_exceptions_current c_exceptions_masked c_exceptions_priorities c_counter_number c_counter_reload c_counter_on) sz ([.ref h] : List Value) none) (QcRead (f_ThumbCore_here c_registers)) 0 0 (fun _ => False) := by
  refine tc_rd_i (by decide) (Nat.le_of_ble_eq_true rfl) ?_
  intro p e s m below meth c Q ls hx hb hml hts hown hK hN hP hD hl RET
  have hl : lv_has ls 1 [(0, .ref h)] := hl
  generalize hF : f_ThumbCore_here c_registers = FF at RET
  have hq : FF = f_ThumbCore_here c_registers := hF.symm
  refine lv_aload_n hx hb d_ThumbCore_here_0 rfl (lv_at hl 0 rfl) ?_
  refine va_get (D := D) (ci := 4) (v := .ref h_registers) (C := R_ThumbCore) (T := F_ThumbCore) (N := 8) hx hb hts u_ThumbCore hown hK hP 0 rfl rfl 1 (by decide) (hts _ wf_ThumbCore_27) (fun _ h9 => h9) rfl d_ThumbCore_here_1 ?_
  refine lv_bipush (v := 15) hx hb d_ThumbCore_here_4 (by decide) ?_
  refine va_iald hx hb hK hP 3 0 rfl rfl (by show ¬ (_ ∨ _); decide) d_ThumbCore_here_6 ?_
  refine lv_iconst (v := 4) hx hb d_ThumbCore_here_7 (by decide) ?_
  refine lv_iadd hx hb d_ThumbCore_here_8 ?_
  exact RET ls 9 d_ThumbCore_here_9 hq
abbrev rm_ThumbCore_readHigh : Room := { frames := 2, cells := 0, slots := 0, locals := 44 }
set_option maxHeartbeats 4000000 in
set_option maxRecDepth 100000 in
theorem c_ThumbCore_readHigh (l : Launch) (D : va_G) (cI cB cZ : ClassId) (h h_memory h_memory_words h_registers h_flags h_exceptions h_exceptions_priorities h_counter sz : Nat) (q_memory_size : Int32) (n_memory_words : Nat) (c_asleep : Bool) (c_locked : Bool) (c_next : Int32) (c_memory_words : Nat → Int32) (c_registers : Nat → Int32) (c_flags_negative : Bool) (c_flags_zero : Bool) (c_flags_carry : Bool) (c_flags_overflow : Bool) (c_exceptions_pending : Int32) (c_exceptions_active : Int32) (c_exceptions_current : Int32) (c_exceptions_masked : Bool) (c_exceptions_priorities : Nat → Int32) (c_counter_number : Int32) (c_counter_reload : Int32) (c_counter_on : Bool) (x1 : Int32) (hi_x1 : vp_in x1 16) : Met l y_ThumbCore_readHigh (.code y_ThumbCore_readHigh b_ThumbCore_readHigh 2 (some .int) :: tcb) rm_ThumbCore_readHigh (tc_Pw D tcl (tys cI cB cZ) (wd_ThumbCore cI cB cZ h h_memory h_memory_words h_registers h_flags h_exceptions h_exceptions_priorities h_counter q_memory_size n_memory_words c_asleep c_locked c_next c_memory_words c_registers c_flags_negative c_flags_zero c_flags_carry c_flags_overflow c_exceptions_pending c_exceptions_active c_exceptions_current c_exceptions_masked c_exceptions_priorities c_counter_number c_counter_reload c_counter_on) sz ([.ref h, .int x1] : List Value) none) (QcRead (f_ThumbCore_readHigh c_registers x1)) 0 0 (fun _ => False) := by
  refine tc_rd_i (by decide) (Nat.le_of_ble_eq_true rfl) ?_
  intro p e s m below meth c Q ls hx hb hml hts hown hK hN hP hD hl RET
  have hl : lv_has ls 2 [(0, .ref h), (1, .int x1)] := hl
  generalize hF : f_ThumbCore_readHigh c_registers x1 = FF at RET
  have hq : FF = f_ThumbCore_readHigh c_registers x1 := hF.symm
  refine lv_iload_n hx hb d_ThumbCore_readHigh_0 rfl (lv_at hl 1 rfl) ?_
  refine lv_bipush (v := 15) hx hb d_ThumbCore_readHigh_1 (by decide) ?_
  refine lv_icmp_ne (tgt := 13) hx hb d_ThumbCore_readHigh_3 (by decide) (fun g_3 => ?_) (fun g_3 => ?_)
  · have hq := hq.trans (if_pos g_3)
    refine lv_aload_n hx hb d_ThumbCore_readHigh_13 rfl (lv_at hl 0 rfl) ?_
    refine va_get (D := D) (ci := 4) (v := .ref h_registers) (C := R_ThumbCore) (T := F_ThumbCore) (N := 8) hx hb hts u_ThumbCore hown hK hP 0 rfl rfl 1 (by decide) (hts _ wf_ThumbCore_27) (fun _ h9 => h9) rfl d_ThumbCore_readHigh_14 ?_
    refine lv_iload_n hx hb d_ThumbCore_readHigh_17 rfl (lv_at hl 1 rfl) ?_
    refine va_iald hx hb hK hP 3 0 rfl rfl hi_x1 d_ThumbCore_readHigh_18 ?_
    exact RET ls 19 d_ThumbCore_readHigh_19 hq
  · have hq := hq.trans (if_neg (fun g => g g_3))
    refine lv_aload_n hx hb d_ThumbCore_readHigh_6 rfl (lv_at hl 0 rfl) ?_
    refine tc_rd (va_runV (As := []) (rest := []) ⟨hx, hb, hml, hown, hts⟩ (c_ThumbCore_here l D cI cB cZ h h_memory h_memory_words h_registers h_flags h_exceptions h_exceptions_priorities h_counter s.heap.size q_memory_size n_memory_words c_asleep c_locked c_next c_memory_words c_registers c_flags_negative c_flags_zero c_flags_carry c_flags_overflow c_exceptions_pending c_exceptions_active c_exceptions_current c_exceptions_masked c_exceptions_priorities c_counter_number c_counter_reload c_counter_on) (cwV 0 hts (tc_gV wl_ThumbCore_194 wm_ThumbCore_here ws_ThumbCore_here wi_ThumbCore wc_ThumbCore_here) rfl rfl rfl (by decide +kernel) ⟨Nat.le_of_ble_eq_true rfl, Nat.le_of_ble_eq_true rfl⟩) (tc_preV hK hN hP hD [0, 1, 2, 3, 4, 5, 6, 7] rfl (by decide) (q0 := 0) rfl rfl) rfl rfl hl.1 rfl (lv_room (Nat.le_of_ble_eq_true rfl)) d_ThumbCore_readHigh_7 (by decide)) ?_
    refine lv_topi (fun v1 e_v1 => ?_)
    have hq := tc_nm hq e_v1
    refine lv_goto (tgt := 19) hx hb d_ThumbCore_readHigh_10 (by decide) ?_
    exact RET ls 19 d_ThumbCore_readHigh_19 hq
abbrev rm_ThumbCore_fitting : Room := { frames := 1, cells := 0, slots := 0, locals := 24 }
set_option maxHeartbeats 4000000 in
set_option maxRecDepth 100000 in
theorem c_ThumbCore_fitting (l : Launch) (x1 : Int32) (x2 : Int32) : Met l y_ThumbCore_fitting (.code y_ThumbCore_fitting b_ThumbCore_fitting 2 (some .int) :: tcb) rm_ThumbCore_fitting (va_Pc ([.int x1, .int x2] : List Value) (fun _ => True)) (QcRead (f_ThumbCore_fitting x1 x2)) 0 0 (fun _ => False) := by
  refine tc_st_i (by decide) (Nat.le_of_ble_eq_true rfl) ?_
  intro p e s m below meth c Q ls hx hb hml hts hown hl RET
  have hl : lv_has ls 2 [(0, .int x1), (1, .int x2)] := hl
  generalize hF : f_ThumbCore_fitting x1 x2 = FF at RET
  have hq : FF = f_ThumbCore_fitting x1 x2 := hF.symm
  refine lv_iload_n hx hb d_ThumbCore_fitting_0 rfl (lv_at hl 0 rfl) ?_
  refine lv_bipush (v := 13) hx hb d_ThumbCore_fitting_1 (by decide) ?_
  refine lv_icmp_ne (tgt := 11) hx hb d_ThumbCore_fitting_3 (by decide) (fun g_3 => ?_) (fun g_3 => ?_)
  · have hq := hq.trans (if_pos g_3)
    refine lv_iload_n hx hb d_ThumbCore_fitting_11 rfl (lv_at hl 0 rfl) ?_
    refine lv_bipush (v := 15) hx hb d_ThumbCore_fitting_12 (by decide) ?_
    refine lv_icmp_ne (tgt := 24) hx hb d_ThumbCore_fitting_14 (by decide) (fun g_14 => ?_) (fun g_14 => ?_)
    · have hq := hq.trans (if_pos g_14)
      refine lv_iload_n hx hb d_ThumbCore_fitting_24 rfl (lv_at hl 1 rfl) ?_
      exact RET ls 25 d_ThumbCore_fitting_25 hq
    · have hq := hq.trans (if_neg (fun g => g g_14))
      refine lv_iload_n hx hb d_ThumbCore_fitting_17 rfl (lv_at hl 1 rfl) ?_
      refine lv_bipush (v := (-2)) hx hb d_ThumbCore_fitting_18 (by decide) ?_
      refine lv_iand hx hb d_ThumbCore_fitting_20 ?_
      refine lv_goto (tgt := 25) hx hb d_ThumbCore_fitting_21 (by decide) ?_
      exact RET ls 25 d_ThumbCore_fitting_25 hq
  · have hq := hq.trans (if_neg (fun g => g g_3))
    refine lv_iload_n hx hb d_ThumbCore_fitting_6 rfl (lv_at hl 1 rfl) ?_
    refine lv_bipush (v := (-4)) hx hb d_ThumbCore_fitting_7 (by decide) ?_
    refine lv_iand hx hb d_ThumbCore_fitting_9 ?_
    exact RET ls 10 d_ThumbCore_fitting_10 hq
abbrev rm_ThumbCore_put : Room := { frames := 2, cells := 0, slots := 0, locals := 45 }
set_option maxHeartbeats 4000000 in
set_option maxRecDepth 100000 in
theorem c_ThumbCore_put (l : Launch) (D : va_G) (cI cB cZ : ClassId) (h h_memory h_memory_words h_registers h_flags h_exceptions h_exceptions_priorities h_counter sz : Nat) (q_memory_size : Int32) (n_memory_words : Nat) (c_asleep : Bool) (c_locked : Bool) (c_next : Int32) (c_memory_words : Nat → Int32) (c_registers : Nat → Int32) (c_flags_negative : Bool) (c_flags_zero : Bool) (c_flags_carry : Bool) (c_flags_overflow : Bool) (c_exceptions_pending : Int32) (c_exceptions_active : Int32) (c_exceptions_current : Int32) (c_exceptions_masked : Bool) (c_exceptions_priorities : Nat → Int32) (c_counter_number : Int32) (c_counter_reload : Int32) (c_counter_on : Bool) (x1 : Int32) (x2 : Int32) (hi_x1 : vp_in x1 16) : Met l y_ThumbCore_put (.code y_ThumbCore_put b_ThumbCore_put 3 none :: tcb) rm_ThumbCore_put (tc_Pw D tcl (tys cI cB cZ) (wd_ThumbCore cI cB cZ h h_memory h_memory_words h_registers h_flags h_exceptions h_exceptions_priorities h_counter q_memory_size n_memory_words c_asleep c_locked c_next c_memory_words c_registers c_flags_negative c_flags_zero c_flags_carry c_flags_overflow c_exceptions_pending c_exceptions_active c_exceptions_current c_exceptions_masked c_exceptions_priorities c_counter_number c_counter_reload c_counter_on) sz ([.ref h, .int x1, .int x2] : List Value) none) (tc_Qv D tcl (wd_ThumbCore cI cB cZ h h_memory h_memory_words h_registers h_flags h_exceptions h_exceptions_priorities h_counter q_memory_size n_memory_words c_asleep c_locked c_next c_memory_words c_registers c_flags_negative c_flags_zero c_flags_carry c_flags_overflow c_exceptions_pending c_exceptions_active c_exceptions_current c_exceptions_masked c_exceptions_priorities c_counter_number c_counter_reload c_counter_on) sz (fun u => (wd_ThumbCore cI cB cZ h h_memory h_memory_words h_registers h_flags h_exceptions h_exceptions_priorities h_counter q_memory_size n_memory_words c_asleep c_locked u.1 c_memory_words u.2 c_flags_negative c_flags_zero c_flags_carry c_flags_overflow c_exceptions_pending c_exceptions_active c_exceptions_current c_exceptions_masked c_exceptions_priorities c_counter_number c_counter_reload c_counter_on)) (f_ThumbCore_put c_next c_registers x1 x2)) 0 0 (va_A (wd_ThumbCore cI cB cZ h h_memory h_memory_words h_registers h_flags h_exceptions h_exceptions_priorities h_counter q_memory_size n_memory_words c_asleep c_locked c_next c_memory_words c_registers c_flags_negative c_flags_zero c_flags_carry c_flags_overflow c_exceptions_pending c_exceptions_active c_exceptions_current c_exceptions_masked c_exceptions_priorities c_counter_number c_counter_reload c_counter_on) sz) := by
  refine tc_mu_v (by decide) (Nat.le_of_ble_eq_true rfl) ?_
  intro p e s m below meth c A Q ls hx hb hml hts hown hK hN hP hD hA hZ hl RET
  have hS : va_S A s.heap s.heap [] := va_S.rf
  have hl : lv_has ls 3 [(0, .ref h), (1, .int x1), (2, .int x2)] := hl
  generalize hF : f_ThumbCore_put c_next c_registers x1 x2 = FF at RET
  have hq : FF = f_ThumbCore_put c_next c_registers x1 x2 := hF.symm
  revert hP hD hS
  suffices G : ∀ (H : Heap) (locs : List Loc), va_P D tcl (wd_ThumbCore cI cB cZ h h_memory h_memory_words h_registers h_flags h_exceptions h_exceptions_priorities h_counter q_memory_size n_memory_words c_asleep c_locked c_next c_memory_words c_registers c_flags_negative c_flags_zero c_flags_carry c_flags_overflow c_exceptions_pending c_exceptions_active c_exceptions_current c_exceptions_masked c_exceptions_priorities c_counter_number c_counter_reload c_counter_on) H → va_D A (wd_ThumbCore cI cB cZ h h_memory h_memory_words h_registers h_flags h_exceptions h_exceptions_priorities h_counter q_memory_size n_memory_words c_asleep c_locked c_next c_memory_words c_registers c_flags_negative c_flags_zero c_flags_carry c_flags_overflow c_exceptions_pending c_exceptions_active c_exceptions_current c_exceptions_masked c_exceptions_priorities c_counter_number c_counter_reload c_counter_on) → va_S A s.heap H locs → W p l e rm_ThumbCore_put s m ([.ref h, .int x1, .int x2] : List Value).toArray below meth c H locs 0 0 Q (F0 m 0 ls []) from fun hP hD hS => G _ _ hP hD hS
  intro H locs hP hD hS
  refine lv_iload_n hx hb d_ThumbCore_put_0 rfl (lv_at hl 1 rfl) ?_
  refine lv_bipush (v := 15) hx hb d_ThumbCore_put_1 (by decide) ?_
  refine lv_icmp_ne (tgt := 19) hx hb d_ThumbCore_put_3 (by decide) (fun g_3 => ?_) (fun g_3 => ?_)
  · have hq := hq.trans (if_pos g_3)
    refine lv_aload_n hx hb d_ThumbCore_put_19 rfl (lv_at hl 0 rfl) ?_
    refine va_get (D := D) (ci := 4) (v := .ref h_registers) (C := R_ThumbCore) (T := F_ThumbCore) (N := 8) hx hb hts u_ThumbCore hown hK hP 0 rfl rfl 1 (by decide) (hts _ wf_ThumbCore_27) (fun _ h9 => h9) rfl d_ThumbCore_put_20 ?_
    refine lv_iload_n hx hb d_ThumbCore_put_23 rfl (lv_at hl 1 rfl) ?_
    refine lv_iload_n hx hb d_ThumbCore_put_24 rfl (lv_at hl 1 rfl) ?_
    refine lv_iload_n hx hb d_ThumbCore_put_25 rfl (lv_at hl 2 rfl) ?_
    refine tc_rd (va_runS (As := [.int x1, .int x2]) (rest := [.int x1, .ref h_registers]) ⟨hx, hb, hml, hown, hts⟩ (c_ThumbCore_fitting l x1 x2) (va_cwS 2 hts (tc_gS wl_ThumbCore_121 wt_ThumbCore_fitting wi_ThumbCore wc_ThumbCore_fitting) rfl rfl rfl (by decide +kernel) ⟨Nat.le_of_ble_eq_true rfl, Nat.le_of_ble_eq_true rfl⟩) tc_preS rfl rfl hl.1 rfl (lv_room (Nat.le_of_ble_eq_true rfl)) d_ThumbCore_put_26 (by decide)) ?_
    refine lv_topi (fun v1 e_v1 => ?_)
    have hq := tc_nm hq e_v1
    refine va_iast hx hb hK hP hD hS 3 0 rfl rfl hi_x1 d_ThumbCore_put_29 (fun H locs hP hD hS => ?_)
    have hP : va_P D tcl (wd_ThumbCore cI cB cZ h h_memory h_memory_words h_registers h_flags h_exceptions h_exceptions_priorities h_counter q_memory_size n_memory_words c_asleep c_locked c_next c_memory_words (upd c_registers x1.toNatClampNeg v1) c_flags_negative c_flags_zero c_flags_carry c_flags_overflow c_exceptions_pending c_exceptions_active c_exceptions_current c_exceptions_masked c_exceptions_priorities c_counter_number c_counter_reload c_counter_on) H := hP
    have hD : va_D A (wd_ThumbCore cI cB cZ h h_memory h_memory_words h_registers h_flags h_exceptions h_exceptions_priorities h_counter q_memory_size n_memory_words c_asleep c_locked c_next c_memory_words (upd c_registers x1.toNatClampNeg v1) c_flags_negative c_flags_zero c_flags_carry c_flags_overflow c_exceptions_pending c_exceptions_active c_exceptions_current c_exceptions_masked c_exceptions_priorities c_counter_number c_counter_reload c_counter_on) := hD
    exact RET H locs ls 30 (c_next, (upd c_registers x1.toNatClampNeg v1)) d_ThumbCore_put_30 hP hD hS hq
  · have hq := hq.trans (if_neg (fun g => g g_3))
    refine lv_aload_n hx hb d_ThumbCore_put_6 rfl (lv_at hl 0 rfl) ?_
    refine lv_bipush (v := 15) hx hb d_ThumbCore_put_7 (by decide) ?_
    refine lv_iload_n hx hb d_ThumbCore_put_9 rfl (lv_at hl 2 rfl) ?_
    refine tc_rd (va_runS (As := [.int 15, .int x2]) (rest := [.ref h]) ⟨hx, hb, hml, hown, hts⟩ (c_ThumbCore_fitting l 15 x2) (va_cwS 2 hts (tc_gS wl_ThumbCore_121 wt_ThumbCore_fitting wi_ThumbCore wc_ThumbCore_fitting) rfl rfl rfl (by decide +kernel) ⟨Nat.le_of_ble_eq_true rfl, Nat.le_of_ble_eq_true rfl⟩) tc_preS rfl rfl hl.1 rfl (lv_room (Nat.le_of_ble_eq_true rfl)) d_ThumbCore_put_10 (by decide)) ?_
    refine lv_topi (fun v2 e_v2 => ?_)
    have hq := tc_nm hq e_v2
    refine va_put (D := D) (ci := 4) (v := .int v2) (ty := .int) (C := R_ThumbCore) (T := F_ThumbCore) (N := 8) hx hb hts u_ThumbCore t_ThumbCore t_ThumbCore_ok n_ThumbCore hown hK hP hD hS 0 rfl rfl 7 (by decide) (hts _ wf_ThumbCore_111) (fun _ h9 => h9) rfl (by decide +kernel) rfl rfl (Nat.le_of_ble_eq_true rfl) d_ThumbCore_put_13 (fun H locs hP hD hS => ?_)
    have hP : va_P D tcl (wd_ThumbCore cI cB cZ h h_memory h_memory_words h_registers h_flags h_exceptions h_exceptions_priorities h_counter q_memory_size n_memory_words c_asleep c_locked v2 c_memory_words c_registers c_flags_negative c_flags_zero c_flags_carry c_flags_overflow c_exceptions_pending c_exceptions_active c_exceptions_current c_exceptions_masked c_exceptions_priorities c_counter_number c_counter_reload c_counter_on) H := hP
    have hD : va_D A (wd_ThumbCore cI cB cZ h h_memory h_memory_words h_registers h_flags h_exceptions h_exceptions_priorities h_counter q_memory_size n_memory_words c_asleep c_locked v2 c_memory_words c_registers c_flags_negative c_flags_zero c_flags_carry c_flags_overflow c_exceptions_pending c_exceptions_active c_exceptions_current c_exceptions_masked c_exceptions_priorities c_counter_number c_counter_reload c_counter_on) := hD
    refine lv_goto (tgt := 30) hx hb d_ThumbCore_put_16 (by decide) ?_
    exact RET H locs ls 30 (v2, c_registers) d_ThumbCore_put_30 hP hD hS hq
abbrev rm_ThumbCore_isReturn : Room := { frames := 1, cells := 0, slots := 0, locals := 24 }
set_option maxHeartbeats 4000000 in
set_option maxRecDepth 100000 in
theorem c_ThumbCore_isReturn (l : Launch) (D : va_G) (cI cB cZ : ClassId) (h h_memory h_memory_words h_registers h_flags h_exceptions h_exceptions_priorities h_counter sz : Nat) (q_memory_size : Int32) (n_memory_words : Nat) (c_asleep : Bool) (c_locked : Bool) (c_next : Int32) (c_memory_words : Nat → Int32) (c_registers : Nat → Int32) (c_flags_negative : Bool) (c_flags_zero : Bool) (c_flags_carry : Bool) (c_flags_overflow : Bool) (c_exceptions_pending : Int32) (c_exceptions_active : Int32) (c_exceptions_current : Int32) (c_exceptions_masked : Bool) (c_exceptions_priorities : Nat → Int32) (c_counter_number : Int32) (c_counter_reload : Int32) (c_counter_on : Bool) (x1 : Int32) : Met l y_ThumbCore_isReturn (.code y_ThumbCore_isReturn b_ThumbCore_isReturn 2 (some .boolean) :: tcb) rm_ThumbCore_isReturn (tc_Pw D tcl (tys cI cB cZ) (wd_ThumbCore cI cB cZ h h_memory h_memory_words h_registers h_flags h_exceptions h_exceptions_priorities h_counter q_memory_size n_memory_words c_asleep c_locked c_next c_memory_words c_registers c_flags_negative c_flags_zero c_flags_carry c_flags_overflow c_exceptions_pending c_exceptions_active c_exceptions_current c_exceptions_masked c_exceptions_priorities c_counter_number c_counter_reload c_counter_on) sz ([.ref h, .int x1] : List Value) none) (QcRead (bI (f_ThumbCore_isReturn c_exceptions_active x1))) 0 0 (fun _ => False) := by
  refine tc_rd_z (by decide) (Nat.le_of_ble_eq_true rfl) ?_
  intro p e s m below meth c Q ls hx hb hml hts hown hK hN hP hD hl RET
  have hl : lv_has ls 2 [(0, .ref h), (1, .int x1)] := hl
  generalize hF : f_ThumbCore_isReturn c_exceptions_active x1 = FF at RET
  have hq : FF = f_ThumbCore_isReturn c_exceptions_active x1 := hF.symm
  refine lv_aload_n hx hb d_ThumbCore_isReturn_0 rfl (lv_at hl 0 rfl) ?_
  refine va_get (D := D) (ci := 4) (v := .ref h_exceptions) (C := R_ThumbCore) (T := F_ThumbCore) (N := 8) hx hb hts u_ThumbCore hown hK hP 0 rfl rfl 3 (by decide) (hts _ wf_ThumbCore_41) (fun _ h9 => h9) rfl d_ThumbCore_isReturn_1 ?_
  refine va_getN (D := D) (ci := 1) (v := .int c_exceptions_active) (C := R_Exceptions) (T := F_Exceptions) (N := 5) hx hb hts u_Exceptions hown hK hP 5 rfl rfl 2 (by decide) (va_Nw.use rfl (hN _ wf_ThumbCore_131)) (fun _ h9 => h9) rfl d_ThumbCore_isReturn_4 ?_
  refine lv_if_eq (tgt := 26) hx hb d_ThumbCore_isReturn_7 (by decide) (fun g_7 => ?_) (fun g_7 => ?_)
  · have hq := hq.trans (if_pos g_7)
    refine lv_iconst (v := 0) hx hb d_ThumbCore_isReturn_26 (by decide) ?_
    exact RET ls 27 d_ThumbCore_isReturn_27 hq
  · have hq := hq.trans (if_neg g_7)
    refine lv_iload_n hx hb d_ThumbCore_isReturn_10 rfl (lv_at hl 1 rfl) ?_
    refine lv_bipush (v := (-7)) hx hb d_ThumbCore_isReturn_11 (by decide) ?_
    refine lv_icmp_eq (tgt := 22) hx hb d_ThumbCore_isReturn_13 (by decide) (fun g_13 => ?_) (fun g_13 => ?_)
    · have hq := hq.trans (if_pos g_13)
      refine lv_iconst (v := 1) hx hb d_ThumbCore_isReturn_22 (by decide) ?_
      refine lv_goto (tgt := 27) hx hb d_ThumbCore_isReturn_23 (by decide) ?_
      exact RET ls 27 d_ThumbCore_isReturn_27 hq
    · have hq := hq.trans (if_neg g_13)
      refine lv_iload_n hx hb d_ThumbCore_isReturn_16 rfl (lv_at hl 1 rfl) ?_
      refine lv_bipush (v := (-15)) hx hb d_ThumbCore_isReturn_17 (by decide) ?_
      refine lv_icmp_ne (tgt := 26) hx hb d_ThumbCore_isReturn_19 (by decide) (fun g_19 => ?_) (fun g_19 => ?_)
      · have hq := hq.trans (if_pos g_19)
        refine lv_iconst (v := 0) hx hb d_ThumbCore_isReturn_26 (by decide) ?_
        exact RET ls 27 d_ThumbCore_isReturn_27 hq
      · have hq := hq.trans (if_neg (fun g => g g_19))
        refine lv_iconst (v := 1) hx hb d_ThumbCore_isReturn_22 (by decide) ?_
        refine lv_goto (tgt := 27) hx hb d_ThumbCore_isReturn_23 (by decide) ?_
        exact RET ls 27 d_ThumbCore_isReturn_27 hq

abbrev rm_ThumbCore_loadMany : Room := { frames := 3, cells := 0, slots := 0, locals := 69 }
set_option maxHeartbeats 4000000 in
set_option maxRecDepth 100000 in
theorem c_ThumbCore_loadMany (l : Launch) (D : va_G) (cI cB cZ : ClassId) (h h_memory h_memory_words h_registers h_flags h_exceptions h_exceptions_priorities h_counter sz : Nat) (q_memory_size : Int32) (n_memory_words : Nat) (c_asleep : Bool) (c_locked : Bool) (c_next : Int32) (c_memory_words : Nat → Int32) (c_registers : Nat → Int32) (c_flags_negative : Bool) (c_flags_zero : Bool) (c_flags_carry : Bool) (c_flags_overflow : Bool) (c_exceptions_pending : Int32) (c_exceptions_active : Int32) (c_exceptions_current : Int32) (c_exceptions_masked : Bool) (c_exceptions_priorities : Nat → Int32) (c_counter_number : Int32) (c_counter_reload : Int32) (c_counter_on : Bool) (x1 : Int32) (x2 : Int32) (hm : tc_mem q_memory_size n_memory_words) (hi_x1 : vp_in x1 16) (hc : tc_cl x2) : Met l y_ThumbCore_loadMany (.code y_ThumbCore_loadMany b_ThumbCore_loadMany 4 (some .boolean) :: tcb) rm_ThumbCore_loadMany (tc_Pw D tcl (tys cI cB cZ) (wd_ThumbCore cI cB cZ h h_memory h_memory_words h_registers h_flags h_exceptions h_exceptions_priorities h_counter q_memory_size n_memory_words c_asleep c_locked c_next c_memory_words c_registers c_flags_negative c_flags_zero c_flags_carry c_flags_overflow c_exceptions_pending c_exceptions_active c_exceptions_current c_exceptions_masked c_exceptions_priorities c_counter_number c_counter_reload c_counter_on) sz ([.ref h, .int x1, .int x2] : List Value) none) (tc_Qz D tcl (wd_ThumbCore cI cB cZ h h_memory h_memory_words h_registers h_flags h_exceptions h_exceptions_priorities h_counter q_memory_size n_memory_words c_asleep c_locked c_next c_memory_words c_registers c_flags_negative c_flags_zero c_flags_carry c_flags_overflow c_exceptions_pending c_exceptions_active c_exceptions_current c_exceptions_masked c_exceptions_priorities c_counter_number c_counter_reload c_counter_on) sz (fun u => (wd_ThumbCore cI cB cZ h h_memory h_memory_words h_registers h_flags h_exceptions h_exceptions_priorities h_counter q_memory_size n_memory_words c_asleep c_locked c_next c_memory_words u.2 c_flags_negative c_flags_zero c_flags_carry c_flags_overflow c_exceptions_pending c_exceptions_active c_exceptions_current c_exceptions_masked c_exceptions_priorities c_counter_number c_counter_reload c_counter_on)) (f_ThumbCore_loadMany q_memory_size c_memory_words c_registers x1 x2)) 0 0 (va_A (wd_ThumbCore cI cB cZ h h_memory h_memory_words h_registers h_flags h_exceptions h_exceptions_priorities h_counter q_memory_size n_memory_words c_asleep c_locked c_next c_memory_words c_registers c_flags_negative c_flags_zero c_flags_carry c_flags_overflow c_exceptions_pending c_exceptions_active c_exceptions_current c_exceptions_masked c_exceptions_priorities c_counter_number c_counter_reload c_counter_on) sz) := by
  refine tc_mu_z (by decide) (Nat.le_of_ble_eq_true rfl) ?_
  intro p e s m below meth c A Q ls hx hb hml hts hown hK hN hP hD hA hZ hl RET
  have hS : va_S A s.heap s.heap [] := va_S.rf
  have hl : lv_has ls 4 [(0, .ref h), (1, .int x1), (2, .int x2)] := hl
  generalize hF : f_ThumbCore_loadMany q_memory_size c_memory_words c_registers x1 x2 = FF at RET
  have hq : FF = f_ThumbCore_loadMany q_memory_size c_memory_words c_registers x1 x2 := hF.symm
  revert hP hD hS
  suffices G : ∀ (H : Heap) (locs : List Loc), va_P D tcl (wd_ThumbCore cI cB cZ h h_memory h_memory_words h_registers h_flags h_exceptions h_exceptions_priorities h_counter q_memory_size n_memory_words c_asleep c_locked c_next c_memory_words c_registers c_flags_negative c_flags_zero c_flags_carry c_flags_overflow c_exceptions_pending c_exceptions_active c_exceptions_current c_exceptions_masked c_exceptions_priorities c_counter_number c_counter_reload c_counter_on) H → va_D A (wd_ThumbCore cI cB cZ h h_memory h_memory_words h_registers h_flags h_exceptions h_exceptions_priorities h_counter q_memory_size n_memory_words c_asleep c_locked c_next c_memory_words c_registers c_flags_negative c_flags_zero c_flags_carry c_flags_overflow c_exceptions_pending c_exceptions_active c_exceptions_current c_exceptions_masked c_exceptions_priorities c_counter_number c_counter_reload c_counter_on) → va_S A s.heap H locs → W p l e rm_ThumbCore_loadMany s m ([.ref h, .int x1, .int x2] : List Value).toArray below meth c H locs 0 0 Q (F0 m 0 ls []) from fun hP hD hS => G _ _ hP hD hS
  intro H locs hP hD hS
  refine lv_aload_n hx hb d_ThumbCore_loadMany_0 rfl (lv_at hl 0 rfl) ?_
  refine va_get (D := D) (ci := 4) (v := .ref h_registers) (C := R_ThumbCore) (T := F_ThumbCore) (N := 8) hx hb hts u_ThumbCore hown hK hP 0 rfl rfl 1 (by decide) (hts _ wf_ThumbCore_27) (fun _ h9 => h9) rfl d_ThumbCore_loadMany_1 ?_
  refine lv_iload_n hx hb d_ThumbCore_loadMany_4 rfl (lv_at hl 1 rfl) ?_
  refine va_iald hx hb hK hP 3 0 rfl rfl hi_x1 d_ThumbCore_loadMany_5 ?_
  refine lv_topi (fun v1 e_v1 => ?_)
  have hq := tc_nm hq e_v1
  refine lv_istore_n (lv' := [(3, .int v1), (0, .ref h), (1, .int x1), (2, .int x2)]) hx hb d_ThumbCore_loadMany_6 rfl hl (by decide) rfl (fun ls hl => ?_)
  refine lv_aload_n hx hb d_ThumbCore_loadMany_7 rfl (lv_at hl 1 rfl) ?_
  refine lv_iload_n hx hb d_ThumbCore_loadMany_8 rfl (lv_at hl 3 rfl) ?_
  refine lv_iload_n hx hb d_ThumbCore_loadMany_9 rfl (lv_at hl 0 rfl) ?_
  refine tc_rd (va_runV (As := [.int x2, .int v1]) (rest := []) ⟨hx, hb, hml, hown, hts⟩ (c_ThumbCore_areThere l D cI cB cZ h h_memory h_memory_words h_registers h_flags h_exceptions h_exceptions_priorities h_counter H.size q_memory_size n_memory_words c_asleep c_locked c_next c_memory_words c_registers c_flags_negative c_flags_zero c_flags_carry c_flags_overflow c_exceptions_pending c_exceptions_active c_exceptions_current c_exceptions_masked c_exceptions_priorities c_counter_number c_counter_reload c_counter_on x2 v1) (cwV 2 hts (tc_gV wl_ThumbCore_283 wm_ThumbCore_areThere ws_ThumbCore_areThere wi_ThumbCore wc_ThumbCore_areThere) rfl rfl rfl (by decide +kernel) ⟨Nat.le_of_ble_eq_true rfl, Nat.le_of_ble_eq_true rfl⟩) (tc_preV hK hN hP hD [0, 1, 2, 3, 4, 5, 6, 7] rfl (by decide) (q0 := 0) rfl rfl) rfl rfl hl.1 rfl (lv_room (Nat.le_of_ble_eq_true rfl)) d_ThumbCore_loadMany_10 (by decide)) ?_
  refine tc_topb (fun v2 e_v2 => ?_)
  have hq := tc_nm hq e_v2
  refine lv_if_ne (tgt := 18) hx hb d_ThumbCore_loadMany_13 (by decide) (fun g_13 => ?_) (fun g_13 => ?_)
  · have hq := hq.trans (if_pos g_13)
    refine lv_aload_n hx hb d_ThumbCore_loadMany_18 rfl (lv_at hl 1 rfl) ?_
    refine va_get (D := D) (ci := 4) (v := .ref h_registers) (C := R_ThumbCore) (T := F_ThumbCore) (N := 8) hx hb hts u_ThumbCore hown hK hP 0 rfl rfl 1 (by decide) (hts _ wf_ThumbCore_27) (fun _ h9 => h9) rfl d_ThumbCore_loadMany_19 ?_
    refine lv_iload_n hx hb d_ThumbCore_loadMany_22 rfl (lv_at hl 2 rfl) ?_
    refine lv_iload_n hx hb d_ThumbCore_loadMany_23 rfl (lv_at hl 3 rfl) ?_
    refine lv_iload_n hx hb d_ThumbCore_loadMany_24 rfl (lv_at hl 0 rfl) ?_
    refine tc_rd (va_runS (As := [.int x2, .int v1]) (rest := [.int x1, .ref h_registers]) ⟨hx, hb, hml, hown, hts⟩ (c_ThumbCore_behind l x2 v1) (va_cwS 2 hts (tc_gS wl_ThumbCore_292 wt_ThumbCore_behind wi_ThumbCore wc_ThumbCore_behind) rfl rfl rfl (by decide +kernel) ⟨Nat.le_of_ble_eq_true rfl, Nat.le_of_ble_eq_true rfl⟩) tc_preS rfl rfl hl.1 rfl (lv_room (Nat.le_of_ble_eq_true rfl)) d_ThumbCore_loadMany_25 (by decide)) ?_
    refine lv_topi (fun v3 e_v3 => ?_)
    have hq := tc_nm hq e_v3
    refine va_iast hx hb hK hP hD hS 3 0 rfl rfl hi_x1 d_ThumbCore_loadMany_28 (fun H locs hP hD hS => ?_)
    have hP : va_P D tcl (wd_ThumbCore cI cB cZ h h_memory h_memory_words h_registers h_flags h_exceptions h_exceptions_priorities h_counter q_memory_size n_memory_words c_asleep c_locked c_next c_memory_words (upd c_registers x1.toNatClampNeg v3) c_flags_negative c_flags_zero c_flags_carry c_flags_overflow c_exceptions_pending c_exceptions_active c_exceptions_current c_exceptions_masked c_exceptions_priorities c_counter_number c_counter_reload c_counter_on) H := hP
    have hD : va_D A (wd_ThumbCore cI cB cZ h h_memory h_memory_words h_registers h_flags h_exceptions h_exceptions_priorities h_counter q_memory_size n_memory_words c_asleep c_locked c_next c_memory_words (upd c_registers x1.toNatClampNeg v3) c_flags_negative c_flags_zero c_flags_carry c_flags_overflow c_exceptions_pending c_exceptions_active c_exceptions_current c_exceptions_masked c_exceptions_priorities c_counter_number c_counter_reload c_counter_on) := hD
    refine lv_aload_n hx hb d_ThumbCore_loadMany_29 rfl (lv_at hl 1 rfl) ?_
    refine lv_iload_n hx hb d_ThumbCore_loadMany_30 rfl (lv_at hl 3 rfl) ?_
    refine lv_iload_n hx hb d_ThumbCore_loadMany_31 rfl (lv_at hl 0 rfl) ?_
    refine tc_mv (wo := fun u => (wd_ThumbCore cI cB cZ h h_memory h_memory_words h_registers h_flags h_exceptions h_exceptions_priorities h_counter q_memory_size n_memory_words c_asleep c_locked c_next c_memory_words u c_flags_negative c_flags_zero c_flags_carry c_flags_overflow c_exceptions_pending c_exceptions_active c_exceptions_current c_exceptions_masked c_exceptions_priorities c_counter_number c_counter_reload c_counter_on)) (va_runV (As := [.int x2, .int v1]) (rest := []) ⟨hx, hb, hml, hown, hts⟩ (c_ThumbCore_readList l D cI cB cZ h h_memory h_memory_words h_registers h_flags h_exceptions h_exceptions_priorities h_counter H.size q_memory_size n_memory_words c_asleep c_locked c_next c_memory_words (upd c_registers x1.toNatClampNeg v3) c_flags_negative c_flags_zero c_flags_carry c_flags_overflow c_exceptions_pending c_exceptions_active c_exceptions_current c_exceptions_masked c_exceptions_priorities c_counter_number c_counter_reload c_counter_on x2 v1 hm (tc_lT hm hc (tc_bT e_v2 g_13))) (cwV 2 hts (tc_gV wl_ThumbCore_289 wm_ThumbCore_readList ws_ThumbCore_readList wi_ThumbCore wc_ThumbCore_readList) rfl rfl rfl (by decide +kernel) ⟨Nat.le_of_ble_eq_true rfl, Nat.le_of_ble_eq_true rfl⟩) (tc_preV hK hN hP hD [0, 1, 2, 3, 4, 5, 6, 7] rfl (by decide) (q0 := 0) rfl rfl) rfl rfl hl.1 rfl (lv_room (Nat.le_of_ble_eq_true rfl)) d_ThumbCore_loadMany_32 (by decide)) hP hD hS hA [0, 1, 2, 3, 4, 5, 6, 7] [] [0, 1, 2, 3, 4, 5, 6, 7] rfl rfl (by decide) (by decide) (by decide) (fun _ => rfl) (fun s4 H locs e_s4 hP hD hS => ?_)
    have hq := tc_nm hq e_s4
    have hP : va_P D tcl (wd_ThumbCore cI cB cZ h h_memory h_memory_words h_registers h_flags h_exceptions h_exceptions_priorities h_counter q_memory_size n_memory_words c_asleep c_locked c_next c_memory_words s4 c_flags_negative c_flags_zero c_flags_carry c_flags_overflow c_exceptions_pending c_exceptions_active c_exceptions_current c_exceptions_masked c_exceptions_priorities c_counter_number c_counter_reload c_counter_on) H := hP
    have hD : va_D A (wd_ThumbCore cI cB cZ h h_memory h_memory_words h_registers h_flags h_exceptions h_exceptions_priorities h_counter q_memory_size n_memory_words c_asleep c_locked c_next c_memory_words s4 c_flags_negative c_flags_zero c_flags_carry c_flags_overflow c_exceptions_pending c_exceptions_active c_exceptions_current c_exceptions_masked c_exceptions_priorities c_counter_number c_counter_reload c_counter_on) := hD
    refine lv_iconst (v := 1) hx hb d_ThumbCore_loadMany_35 (by decide) ?_
    exact RET H locs ls 36 (true, s4) d_ThumbCore_loadMany_36 hP hD hS hq
  · have hq := hq.trans (if_neg (fun g => g g_13))
    refine lv_iconst (v := 0) hx hb d_ThumbCore_loadMany_16 (by decide) ?_
    exact RET H locs ls 17 (false, c_registers) d_ThumbCore_loadMany_17 hP hD hS hq
abbrev rm_ThumbCore_call : Room := { frames := 4, cells := 0, slots := 0, locals := 90 }
set_option maxHeartbeats 4000000 in
set_option maxRecDepth 100000 in
theorem c_ThumbCore_call (l : Launch) (D : va_G) (cI cB cZ : ClassId) (h h_memory h_memory_words h_registers h_flags h_exceptions h_exceptions_priorities h_counter tL sz : Nat) (q_memory_size : Int32) (n_memory_words : Nat) (c_asleep : Bool) (c_locked : Bool) (c_next : Int32) (c_memory_words : Nat → Int32) (c_registers : Nat → Int32) (c_flags_negative : Bool) (c_flags_zero : Bool) (c_flags_carry : Bool) (c_flags_overflow : Bool) (c_exceptions_pending : Int32) (c_exceptions_active : Int32) (c_exceptions_current : Int32) (c_exceptions_masked : Bool) (c_exceptions_priorities : Nat → Int32) (c_counter_number : Int32) (c_counter_reload : Int32) (c_counter_on : Bool) (hm : tc_mem q_memory_size n_memory_words) : Met l y_ThumbCore_call (.code y_ThumbCore_call b_ThumbCore_call 1 (some .boolean) :: tcb) rm_ThumbCore_call (tc_Pw D tcl (tys cI cB cZ) (wd_ThumbCore cI cB cZ h h_memory h_memory_words h_registers h_flags h_exceptions h_exceptions_priorities h_counter q_memory_size n_memory_words c_asleep c_locked c_next c_memory_words c_registers c_flags_negative c_flags_zero c_flags_carry c_flags_overflow c_exceptions_pending c_exceptions_active c_exceptions_current c_exceptions_masked c_exceptions_priorities c_counter_number c_counter_reload c_counter_on) sz ([.ref h] : List Value) (some tL)) (tc_Qz D tcl (wd_ThumbCore cI cB cZ h h_memory h_memory_words h_registers h_flags h_exceptions h_exceptions_priorities h_counter q_memory_size n_memory_words c_asleep c_locked c_next c_memory_words c_registers c_flags_negative c_flags_zero c_flags_carry c_flags_overflow c_exceptions_pending c_exceptions_active c_exceptions_current c_exceptions_masked c_exceptions_priorities c_counter_number c_counter_reload c_counter_on) sz (fun u => (wd_ThumbCore cI cB cZ h h_memory h_memory_words h_registers h_flags h_exceptions h_exceptions_priorities h_counter q_memory_size n_memory_words c_asleep u.2.1 u.2.2.1 u.2.2.2.1 u.2.2.2.2.1 c_flags_negative c_flags_zero c_flags_carry c_flags_overflow u.2.2.2.2.2.1 u.2.2.2.2.2.2.1 u.2.2.2.2.2.2.2 c_exceptions_masked c_exceptions_priorities c_counter_number c_counter_reload c_counter_on)) (f_ThumbCore_call q_memory_size c_flags_negative c_flags_zero c_flags_carry c_flags_overflow c_exceptions_masked c_exceptions_priorities c_locked c_next c_memory_words c_registers c_exceptions_pending c_exceptions_active c_exceptions_current)) 0 0 (va_A (wd_ThumbCore cI cB cZ h h_memory h_memory_words h_registers h_flags h_exceptions h_exceptions_priorities h_counter q_memory_size n_memory_words c_asleep c_locked c_next c_memory_words c_registers c_flags_negative c_flags_zero c_flags_carry c_flags_overflow c_exceptions_pending c_exceptions_active c_exceptions_current c_exceptions_masked c_exceptions_priorities c_counter_number c_counter_reload c_counter_on) sz) := by
  refine tc_mu_z (by decide) (Nat.le_of_ble_eq_true rfl) ?_
  intro p e s m below meth c A Q ls hx hb hml hts hown hK hN hP hD hA hZ hl RET
  have hS : va_S A s.heap s.heap [] := va_S.rf
  have hZ : va_Z "ThumbCore" "LAID" "[I" (.ref tL) A s s.heap ∧ va_T .int tL 6 (fun j => .int (laid j)) A s s.heap := hZ
  have hl : lv_has ls 1 [(0, .ref h)] := hl
  generalize hF : f_ThumbCore_call q_memory_size c_flags_negative c_flags_zero c_flags_carry c_flags_overflow c_exceptions_masked c_exceptions_priorities c_locked c_next c_memory_words c_registers c_exceptions_pending c_exceptions_active c_exceptions_current = FF at RET
  have hq : FF = f_ThumbCore_call q_memory_size c_flags_negative c_flags_zero c_flags_carry c_flags_overflow c_exceptions_masked c_exceptions_priorities c_locked c_next c_memory_words c_registers c_exceptions_pending c_exceptions_active c_exceptions_current := hF.symm
  revert hP hD hS
  suffices G : ∀ (H : Heap) (locs : List Loc), va_P D tcl (wd_ThumbCore cI cB cZ h h_memory h_memory_words h_registers h_flags h_exceptions h_exceptions_priorities h_counter q_memory_size n_memory_words c_asleep c_locked c_next c_memory_words c_registers c_flags_negative c_flags_zero c_flags_carry c_flags_overflow c_exceptions_pending c_exceptions_active c_exceptions_current c_exceptions_masked c_exceptions_priorities c_counter_number c_counter_reload c_counter_on) H → va_D A (wd_ThumbCore cI cB cZ h h_memory h_memory_words h_registers h_flags h_exceptions h_exceptions_priorities h_counter q_memory_size n_memory_words c_asleep c_locked c_next c_memory_words c_registers c_flags_negative c_flags_zero c_flags_carry c_flags_overflow c_exceptions_pending c_exceptions_active c_exceptions_current c_exceptions_masked c_exceptions_priorities c_counter_number c_counter_reload c_counter_on) → va_S A s.heap H locs → W p l e rm_ThumbCore_call s m ([.ref h] : List Value).toArray below meth c H locs 0 0 Q (F0 m 0 ls []) from fun hP hD hS => G _ _ hP hD hS
  intro H locs hP hD hS
  refine lv_aload_n hx hb d_ThumbCore_call_0 rfl (lv_at hl 0 rfl) ?_
  refine va_get (D := D) (ci := 4) (v := .ref h_exceptions) (C := R_ThumbCore) (T := F_ThumbCore) (N := 8) hx hb hts u_ThumbCore hown hK hP 0 rfl rfl 3 (by decide) (hts _ wf_ThumbCore_41) (fun _ h9 => h9) rfl d_ThumbCore_call_1 ?_
  refine va_getN (D := D) (ci := 1) (v := .ref h_exceptions_priorities) (C := R_Exceptions) (T := F_Exceptions) (N := 5) hx hb hts u_Exceptions hown hK hP 5 rfl rfl 0 (by decide) (va_Nw.use rfl (hN _ wf_ThumbCore_152)) (fun _ h9 => h9) rfl d_ThumbCore_call_4 ?_
  refine lv_bipush (v := 11) hx hb d_ThumbCore_call_7 (by decide) ?_
  refine va_iald hx hb hK hP 6 0 rfl rfl (by show ¬ (_ ∨ _); decide) d_ThumbCore_call_9 ?_
  refine lv_aload_n hx hb d_ThumbCore_call_10 rfl (lv_at hl 0 rfl) ?_
  refine va_get (D := D) (ci := 4) (v := .ref h_exceptions) (C := R_ThumbCore) (T := F_ThumbCore) (N := 8) hx hb hts u_ThumbCore hown hK hP 0 rfl rfl 3 (by decide) (hts _ wf_ThumbCore_41) (fun _ h9 => h9) rfl d_ThumbCore_call_11 ?_
  refine tc_rd (va_runV (As := []) (rest := [.int (c_exceptions_priorities (11 : Int32).toNatClampNeg)]) ⟨hx, hb, hml, hown, hts⟩ (c_Exceptions_present l D cI cB cZ h_exceptions h_exceptions_priorities H.size c_exceptions_pending c_exceptions_active c_exceptions_current c_exceptions_masked c_exceptions_priorities) (cwV 0 hts (tc_gV wl_ThumbCore_101 wm_Exceptions_present ws_Exceptions_present wi_Exceptions wc_Exceptions_present) rfl rfl rfl (by decide +kernel) ⟨Nat.le_of_ble_eq_true rfl, Nat.le_of_ble_eq_true rfl⟩) (tc_preV hK hN hP hD [5, 6] rfl (by decide) (q0 := 5) rfl rfl) rfl rfl hl.1 rfl (lv_room (Nat.le_of_ble_eq_true rfl)) d_ThumbCore_call_14 (by decide)) ?_
  refine lv_topi (fun v1 e_v1 => ?_)
  have hq := tc_nm hq e_v1
  refine lv_icmp_lt (tgt := 22) hx hb d_ThumbCore_call_17 (by decide) (fun g_17 => ?_) (fun g_17 => ?_)
  · have hq := hq.trans (if_pos g_17)
    refine lv_aload_n hx hb d_ThumbCore_call_22 rfl (lv_at hl 0 rfl) ?_
    refine lv_bipush (v := 11) hx hb d_ThumbCore_call_23 (by decide) ?_
    refine lv_aload_n hx hb d_ThumbCore_call_25 rfl (lv_at hl 0 rfl) ?_
    refine va_get (D := D) (ci := 4) (v := .int c_next) (C := R_ThumbCore) (T := F_ThumbCore) (N := 8) hx hb hts u_ThumbCore hown hK hP 0 rfl rfl 7 (by decide) (hts _ wf_ThumbCore_111) (fun _ h9 => h9) rfl d_ThumbCore_call_26 ?_
    refine tc_mv (wo := fun u => (wd_ThumbCore cI cB cZ h h_memory h_memory_words h_registers h_flags h_exceptions h_exceptions_priorities h_counter q_memory_size n_memory_words c_asleep u.1 c_next u.2.1 u.2.2.1 c_flags_negative c_flags_zero c_flags_carry c_flags_overflow u.2.2.2.1 u.2.2.2.2.1 u.2.2.2.2.2 c_exceptions_masked c_exceptions_priorities c_counter_number c_counter_reload c_counter_on)) (va_runV (As := [.int 11, .int c_next]) (rest := []) ⟨hx, hb, hml, hown, hts⟩ (c_ThumbCore_enter l D cI cB cZ h h_memory h_memory_words h_registers h_flags h_exceptions h_exceptions_priorities h_counter tL H.size q_memory_size n_memory_words c_asleep c_locked c_next c_memory_words c_registers c_flags_negative c_flags_zero c_flags_carry c_flags_overflow c_exceptions_pending c_exceptions_active c_exceptions_current c_exceptions_masked c_exceptions_priorities c_counter_number c_counter_reload c_counter_on 11 c_next hm (by show ¬ (_ ∨ _); decide)) (cwV 2 hts (tc_gV wl_ThumbCore_104 wm_ThumbCore_enter ws_ThumbCore_enter wi_ThumbCore wc_ThumbCore_enter) rfl rfl rfl (by decide +kernel) ⟨Nat.le_of_ble_eq_true rfl, Nat.le_of_ble_eq_true rfl⟩) (tc_preVZ hK hN hP hD hS hA hZ [0, 1, 2, 3, 4, 5, 6, 7] rfl (by decide) (q0 := 0) rfl rfl) rfl rfl hl.1 rfl (lv_room (Nat.le_of_ble_eq_true rfl)) d_ThumbCore_call_29 (by decide)) hP hD hS hA [0, 1, 2, 3, 4, 5, 6, 7] [] [0, 1, 2, 3, 4, 5, 6, 7] rfl rfl (by decide) (by decide) (by decide) (fun _ => rfl) (fun u H locs hu hP hD hS => ?_)
    obtain ⟨s2, s3, s4, s5, s6, s7⟩ := u
    have hq := hq.trans (un6_eq hu _)
    have e_s2 := hu
    have hP : va_P D tcl (wd_ThumbCore cI cB cZ h h_memory h_memory_words h_registers h_flags h_exceptions h_exceptions_priorities h_counter q_memory_size n_memory_words c_asleep s2 c_next s3 s4 c_flags_negative c_flags_zero c_flags_carry c_flags_overflow s5 s6 s7 c_exceptions_masked c_exceptions_priorities c_counter_number c_counter_reload c_counter_on) H := hP
    have hD : va_D A (wd_ThumbCore cI cB cZ h h_memory h_memory_words h_registers h_flags h_exceptions h_exceptions_priorities h_counter q_memory_size n_memory_words c_asleep s2 c_next s3 s4 c_flags_negative c_flags_zero c_flags_carry c_flags_overflow s5 s6 s7 c_exceptions_masked c_exceptions_priorities c_counter_number c_counter_reload c_counter_on) := hD
    refine lv_aload_n hx hb d_ThumbCore_call_32 rfl (lv_at hl 0 rfl) ?_
    refine lv_aload_n hx hb d_ThumbCore_call_33 rfl (lv_at hl 0 rfl) ?_
    refine va_get (D := D) (ci := 4) (v := .ref h_registers) (C := R_ThumbCore) (T := F_ThumbCore) (N := 8) hx hb hts u_ThumbCore hown hK hP 0 rfl rfl 1 (by decide) (hts _ wf_ThumbCore_27) (fun _ h9 => h9) rfl d_ThumbCore_call_34 ?_
    refine lv_bipush (v := 15) hx hb d_ThumbCore_call_37 (by decide) ?_
    refine va_iald hx hb hK hP 3 0 rfl rfl (by show ¬ (_ ∨ _); decide) d_ThumbCore_call_39 ?_
    refine lv_topi (fun v8 e_v8 => ?_)
    have hq := tc_nm hq e_v8
    refine va_put (D := D) (ci := 4) (v := .int v8) (ty := .int) (C := R_ThumbCore) (T := F_ThumbCore) (N := 8) hx hb hts u_ThumbCore t_ThumbCore t_ThumbCore_ok n_ThumbCore hown hK hP hD hS 0 rfl rfl 7 (by decide) (hts _ wf_ThumbCore_111) (fun _ h9 => h9) rfl (by decide +kernel) rfl rfl (Nat.le_of_ble_eq_true rfl) d_ThumbCore_call_40 (fun H locs hP hD hS => ?_)
    have hP : va_P D tcl (wd_ThumbCore cI cB cZ h h_memory h_memory_words h_registers h_flags h_exceptions h_exceptions_priorities h_counter q_memory_size n_memory_words c_asleep s2 v8 s3 s4 c_flags_negative c_flags_zero c_flags_carry c_flags_overflow s5 s6 s7 c_exceptions_masked c_exceptions_priorities c_counter_number c_counter_reload c_counter_on) H := hP
    have hD : va_D A (wd_ThumbCore cI cB cZ h h_memory h_memory_words h_registers h_flags h_exceptions h_exceptions_priorities h_counter q_memory_size n_memory_words c_asleep s2 v8 s3 s4 c_flags_negative c_flags_zero c_flags_carry c_flags_overflow s5 s6 s7 c_exceptions_masked c_exceptions_priorities c_counter_number c_counter_reload c_counter_on) := hD
    refine lv_iconst (v := 1) hx hb d_ThumbCore_call_43 (by decide) ?_
    exact RET H locs ls 44 (true, s2, v8, s3, s4, s5, s6, s7) d_ThumbCore_call_44 hP hD hS hq
  · have hq := hq.trans (if_neg g_17)
    refine lv_iconst (v := 0) hx hb d_ThumbCore_call_20 (by decide) ?_
    exact RET H locs ls 21 (false, c_locked, c_next, c_memory_words, c_registers, c_exceptions_pending, c_exceptions_active, c_exceptions_current) d_ThumbCore_call_21 hP hD hS hq
abbrev rm_ThumbCore_branchOrCall : Room := { frames := 5, cells := 0, slots := 0, locals := 110 }
set_option maxHeartbeats 4000000 in
set_option maxRecDepth 100000 in
theorem c_ThumbCore_branchOrCall (l : Launch) (D : va_G) (cI cB cZ : ClassId) (h h_memory h_memory_words h_registers h_flags h_exceptions h_exceptions_priorities h_counter tL sz : Nat) (q_memory_size : Int32) (n_memory_words : Nat) (c_asleep : Bool) (c_locked : Bool) (c_next : Int32) (c_memory_words : Nat → Int32) (c_registers : Nat → Int32) (c_flags_negative : Bool) (c_flags_zero : Bool) (c_flags_carry : Bool) (c_flags_overflow : Bool) (c_exceptions_pending : Int32) (c_exceptions_active : Int32) (c_exceptions_current : Int32) (c_exceptions_masked : Bool) (c_exceptions_priorities : Nat → Int32) (c_counter_number : Int32) (c_counter_reload : Int32) (c_counter_on : Bool) (x1 : Int32) (x2 : Int32) (hm : tc_mem q_memory_size n_memory_words) : Met l y_ThumbCore_branchOrCall (.code y_ThumbCore_branchOrCall b_ThumbCore_branchOrCall 3 (some .boolean) :: tcb) rm_ThumbCore_branchOrCall (tc_Pw D tcl (tys cI cB cZ) (wd_ThumbCore cI cB cZ h h_memory h_memory_words h_registers h_flags h_exceptions h_exceptions_priorities h_counter q_memory_size n_memory_words c_asleep c_locked c_next c_memory_words c_registers c_flags_negative c_flags_zero c_flags_carry c_flags_overflow c_exceptions_pending c_exceptions_active c_exceptions_current c_exceptions_masked c_exceptions_priorities c_counter_number c_counter_reload c_counter_on) sz ([.ref h, .int x1, .int x2] : List Value) (some tL)) (tc_Qz D tcl (wd_ThumbCore cI cB cZ h h_memory h_memory_words h_registers h_flags h_exceptions h_exceptions_priorities h_counter q_memory_size n_memory_words c_asleep c_locked c_next c_memory_words c_registers c_flags_negative c_flags_zero c_flags_carry c_flags_overflow c_exceptions_pending c_exceptions_active c_exceptions_current c_exceptions_masked c_exceptions_priorities c_counter_number c_counter_reload c_counter_on) sz (fun u => (wd_ThumbCore cI cB cZ h h_memory h_memory_words h_registers h_flags h_exceptions h_exceptions_priorities h_counter q_memory_size n_memory_words c_asleep u.2.1 u.2.2.1 u.2.2.2.1 u.2.2.2.2.1 c_flags_negative c_flags_zero c_flags_carry c_flags_overflow u.2.2.2.2.2.1 u.2.2.2.2.2.2.1 u.2.2.2.2.2.2.2 c_exceptions_masked c_exceptions_priorities c_counter_number c_counter_reload c_counter_on)) (f_ThumbCore_branchOrCall q_memory_size c_flags_negative c_flags_zero c_flags_carry c_flags_overflow c_exceptions_masked c_exceptions_priorities c_locked c_next c_memory_words c_registers c_exceptions_pending c_exceptions_active c_exceptions_current x1 x2)) 0 0 (va_A (wd_ThumbCore cI cB cZ h h_memory h_memory_words h_registers h_flags h_exceptions h_exceptions_priorities h_counter q_memory_size n_memory_words c_asleep c_locked c_next c_memory_words c_registers c_flags_negative c_flags_zero c_flags_carry c_flags_overflow c_exceptions_pending c_exceptions_active c_exceptions_current c_exceptions_masked c_exceptions_priorities c_counter_number c_counter_reload c_counter_on) sz) := by
  refine tc_mu_z (by decide) (Nat.le_of_ble_eq_true rfl) ?_
  intro p e s m below meth c A Q ls hx hb hml hts hown hK hN hP hD hA hZ hl RET
  have hS : va_S A s.heap s.heap [] := va_S.rf
  have hZ : va_Z "ThumbCore" "LAID" "[I" (.ref tL) A s s.heap ∧ va_T .int tL 6 (fun j => .int (laid j)) A s s.heap := hZ
  have hl : lv_has ls 3 [(0, .ref h), (1, .int x1), (2, .int x2)] := hl
  generalize hF : f_ThumbCore_branchOrCall q_memory_size c_flags_negative c_flags_zero c_flags_carry c_flags_overflow c_exceptions_masked c_exceptions_priorities c_locked c_next c_memory_words c_registers c_exceptions_pending c_exceptions_active c_exceptions_current x1 x2 = FF at RET
  have hq : FF = f_ThumbCore_branchOrCall q_memory_size c_flags_negative c_flags_zero c_flags_carry c_flags_overflow c_exceptions_masked c_exceptions_priorities c_locked c_next c_memory_words c_registers c_exceptions_pending c_exceptions_active c_exceptions_current x1 x2 := hF.symm
  revert hP hD hS
  suffices G : ∀ (H : Heap) (locs : List Loc), va_P D tcl (wd_ThumbCore cI cB cZ h h_memory h_memory_words h_registers h_flags h_exceptions h_exceptions_priorities h_counter q_memory_size n_memory_words c_asleep c_locked c_next c_memory_words c_registers c_flags_negative c_flags_zero c_flags_carry c_flags_overflow c_exceptions_pending c_exceptions_active c_exceptions_current c_exceptions_masked c_exceptions_priorities c_counter_number c_counter_reload c_counter_on) H → va_D A (wd_ThumbCore cI cB cZ h h_memory h_memory_words h_registers h_flags h_exceptions h_exceptions_priorities h_counter q_memory_size n_memory_words c_asleep c_locked c_next c_memory_words c_registers c_flags_negative c_flags_zero c_flags_carry c_flags_overflow c_exceptions_pending c_exceptions_active c_exceptions_current c_exceptions_masked c_exceptions_priorities c_counter_number c_counter_reload c_counter_on) → va_S A s.heap H locs → W p l e rm_ThumbCore_branchOrCall s m ([.ref h, .int x1, .int x2] : List Value).toArray below meth c H locs 0 0 Q (F0 m 0 ls []) from fun hP hD hS => G _ _ hP hD hS
  intro H locs hP hD hS
  refine lv_iload_n hx hb d_ThumbCore_branchOrCall_0 rfl (lv_at hl 1 rfl) ?_
  refine lv_bipush (v := 14) hx hb d_ThumbCore_branchOrCall_1 (by decide) ?_
  refine lv_icmp_ne (tgt := 8) hx hb d_ThumbCore_branchOrCall_3 (by decide) (fun g_3 => ?_) (fun g_3 => ?_)
  · have hq := hq.trans (if_pos g_3)
    refine lv_iload_n hx hb d_ThumbCore_branchOrCall_8 rfl (lv_at hl 1 rfl) ?_
    refine lv_bipush (v := 15) hx hb d_ThumbCore_branchOrCall_9 (by decide) ?_
    refine lv_icmp_ne (tgt := 19) hx hb d_ThumbCore_branchOrCall_11 (by decide) (fun g_11 => ?_) (fun g_11 => ?_)
    · have hq := hq.trans (if_pos g_11)
      refine lv_aload_n hx hb d_ThumbCore_branchOrCall_19 rfl (lv_at hl 0 rfl) ?_
      refine va_get (D := D) (ci := 4) (v := .ref h_flags) (C := R_ThumbCore) (T := F_ThumbCore) (N := 8) hx hb hts u_ThumbCore hown hK hP 0 rfl rfl 2 (by decide) (hts _ wf_ThumbCore_34) (fun _ h9 => h9) rfl d_ThumbCore_branchOrCall_20 ?_
      refine lv_iload_n hx hb d_ThumbCore_branchOrCall_23 rfl (lv_at hl 1 rfl) ?_
      refine tc_rd (va_runV (As := [.int x1]) (rest := []) ⟨hx, hb, hml, hown, hts⟩ (c_Flags_meet l D cI cB cZ h_flags H.size c_flags_negative c_flags_zero c_flags_carry c_flags_overflow x1) (cwV 1 hts (tc_gV wl_ThumbCore_302 wm_Flags_meet ws_Flags_meet wi_Flags wc_Flags_meet) rfl rfl rfl (by decide +kernel) ⟨Nat.le_of_ble_eq_true rfl, Nat.le_of_ble_eq_true rfl⟩) (tc_preV hK hN hP hD [4] rfl (by decide) (q0 := 4) rfl rfl) rfl rfl hl.1 rfl (lv_room (Nat.le_of_ble_eq_true rfl)) d_ThumbCore_branchOrCall_24 (by decide)) ?_
      refine tc_topb (fun v1 e_v1 => ?_)
      have hq := tc_nm hq e_v1
      refine lv_if_eq (tgt := 42) hx hb d_ThumbCore_branchOrCall_27 (by decide) (fun g_27 => ?_) (fun g_27 => ?_)
      · have hq := hq.trans (if_pos g_27)
        refine lv_iconst (v := 1) hx hb d_ThumbCore_branchOrCall_42 (by decide) ?_
        exact RET H locs ls 43 (true, c_locked, c_next, c_memory_words, c_registers, c_exceptions_pending, c_exceptions_active, c_exceptions_current) d_ThumbCore_branchOrCall_43 hP hD hS hq
      · have hq := hq.trans (if_neg g_27)
        refine lv_aload_n hx hb d_ThumbCore_branchOrCall_30 rfl (lv_at hl 0 rfl) ?_
        refine lv_aload_n hx hb d_ThumbCore_branchOrCall_31 rfl (lv_at hl 0 rfl) ?_
        refine tc_rd (va_runV (As := []) (rest := [.ref h]) ⟨hx, hb, hml, hown, hts⟩ (c_ThumbCore_here l D cI cB cZ h h_memory h_memory_words h_registers h_flags h_exceptions h_exceptions_priorities h_counter H.size q_memory_size n_memory_words c_asleep c_locked c_next c_memory_words c_registers c_flags_negative c_flags_zero c_flags_carry c_flags_overflow c_exceptions_pending c_exceptions_active c_exceptions_current c_exceptions_masked c_exceptions_priorities c_counter_number c_counter_reload c_counter_on) (cwV 0 hts (tc_gV wl_ThumbCore_194 wm_ThumbCore_here ws_ThumbCore_here wi_ThumbCore wc_ThumbCore_here) rfl rfl rfl (by decide +kernel) ⟨Nat.le_of_ble_eq_true rfl, Nat.le_of_ble_eq_true rfl⟩) (tc_preV hK hN hP hD [0, 1, 2, 3, 4, 5, 6, 7] rfl (by decide) (q0 := 0) rfl rfl) rfl rfl hl.1 rfl (lv_room (Nat.le_of_ble_eq_true rfl)) d_ThumbCore_branchOrCall_32 (by decide)) ?_
        refine lv_topi (fun v2 e_v2 => ?_)
        have hq := tc_nm hq e_v2
        refine lv_iconst (v := 2) hx hb d_ThumbCore_branchOrCall_35 (by decide) ?_
        refine lv_iload_n hx hb d_ThumbCore_branchOrCall_36 rfl (lv_at hl 2 rfl) ?_
        refine lv_imul hx hb d_ThumbCore_branchOrCall_37 ?_
        refine lv_iadd hx hb d_ThumbCore_branchOrCall_38 ?_
        refine va_put (D := D) (ci := 4) (v := .int (v2 + (2 * x2))) (ty := .int) (C := R_ThumbCore) (T := F_ThumbCore) (N := 8) hx hb hts u_ThumbCore t_ThumbCore t_ThumbCore_ok n_ThumbCore hown hK hP hD hS 0 rfl rfl 7 (by decide) (hts _ wf_ThumbCore_111) (fun _ h9 => h9) rfl (by decide +kernel) rfl rfl (Nat.le_of_ble_eq_true rfl) d_ThumbCore_branchOrCall_39 (fun H locs hP hD hS => ?_)
        have hP : va_P D tcl (wd_ThumbCore cI cB cZ h h_memory h_memory_words h_registers h_flags h_exceptions h_exceptions_priorities h_counter q_memory_size n_memory_words c_asleep c_locked (v2 + (2 * x2)) c_memory_words c_registers c_flags_negative c_flags_zero c_flags_carry c_flags_overflow c_exceptions_pending c_exceptions_active c_exceptions_current c_exceptions_masked c_exceptions_priorities c_counter_number c_counter_reload c_counter_on) H := hP
        have hD : va_D A (wd_ThumbCore cI cB cZ h h_memory h_memory_words h_registers h_flags h_exceptions h_exceptions_priorities h_counter q_memory_size n_memory_words c_asleep c_locked (v2 + (2 * x2)) c_memory_words c_registers c_flags_negative c_flags_zero c_flags_carry c_flags_overflow c_exceptions_pending c_exceptions_active c_exceptions_current c_exceptions_masked c_exceptions_priorities c_counter_number c_counter_reload c_counter_on) := hD
        refine lv_iconst (v := 1) hx hb d_ThumbCore_branchOrCall_42 (by decide) ?_
        exact RET H locs ls 43 (true, c_locked, (v2 + (2 * x2)), c_memory_words, c_registers, c_exceptions_pending, c_exceptions_active, c_exceptions_current) d_ThumbCore_branchOrCall_43 hP hD hS hq
    · have hq := hq.trans (if_neg (fun g => g g_11))
      refine lv_aload_n hx hb d_ThumbCore_branchOrCall_14 rfl (lv_at hl 0 rfl) ?_
      refine tc_mz (wo := fun u => (wd_ThumbCore cI cB cZ h h_memory h_memory_words h_registers h_flags h_exceptions h_exceptions_priorities h_counter q_memory_size n_memory_words c_asleep u.2.1 u.2.2.1 u.2.2.2.1 u.2.2.2.2.1 c_flags_negative c_flags_zero c_flags_carry c_flags_overflow u.2.2.2.2.2.1 u.2.2.2.2.2.2.1 u.2.2.2.2.2.2.2 c_exceptions_masked c_exceptions_priorities c_counter_number c_counter_reload c_counter_on)) (va_runV (As := []) (rest := []) ⟨hx, hb, hml, hown, hts⟩ (c_ThumbCore_call l D cI cB cZ h h_memory h_memory_words h_registers h_flags h_exceptions h_exceptions_priorities h_counter tL H.size q_memory_size n_memory_words c_asleep c_locked c_next c_memory_words c_registers c_flags_negative c_flags_zero c_flags_carry c_flags_overflow c_exceptions_pending c_exceptions_active c_exceptions_current c_exceptions_masked c_exceptions_priorities c_counter_number c_counter_reload c_counter_on hm) (cwV 0 hts (tc_gV wl_ThumbCore_299 wm_ThumbCore_call ws_ThumbCore_call wi_ThumbCore wc_ThumbCore_call) rfl rfl rfl (by decide +kernel) ⟨Nat.le_of_ble_eq_true rfl, Nat.le_of_ble_eq_true rfl⟩) (tc_preVZ hK hN hP hD hS hA hZ [0, 1, 2, 3, 4, 5, 6, 7] rfl (by decide) (q0 := 0) rfl rfl) rfl rfl hl.1 rfl (lv_room (Nat.le_of_ble_eq_true rfl)) d_ThumbCore_branchOrCall_15 (by decide)) hP hD hS hA [0, 1, 2, 3, 4, 5, 6, 7] [] [0, 1, 2, 3, 4, 5, 6, 7] rfl rfl (by decide) (by decide) (by decide) (fun _ => rfl) (fun u H locs hu hP hD hS => ?_)
      obtain ⟨r3, s4, s5, s6, s7, s8, s9, s10⟩ := u
      have hq := hq.trans (un8_eq hu _)
      have e_r3 := hu
      have hP : va_P D tcl (wd_ThumbCore cI cB cZ h h_memory h_memory_words h_registers h_flags h_exceptions h_exceptions_priorities h_counter q_memory_size n_memory_words c_asleep s4 s5 s6 s7 c_flags_negative c_flags_zero c_flags_carry c_flags_overflow s8 s9 s10 c_exceptions_masked c_exceptions_priorities c_counter_number c_counter_reload c_counter_on) H := hP
      have hD : va_D A (wd_ThumbCore cI cB cZ h h_memory h_memory_words h_registers h_flags h_exceptions h_exceptions_priorities h_counter q_memory_size n_memory_words c_asleep s4 s5 s6 s7 c_flags_negative c_flags_zero c_flags_carry c_flags_overflow s8 s9 s10 c_exceptions_masked c_exceptions_priorities c_counter_number c_counter_reload c_counter_on) := hD
      refine W.eq (g2 := F0 m 18 ls [.int (bI r3)]) rfl ?_
      exact RET H locs ls 18 (r3, s4, s5, s6, s7, s8, s9, s10) d_ThumbCore_branchOrCall_18 hP hD hS hq
  · have hq := hq.trans (if_neg (fun g => g g_3))
    refine lv_iconst (v := 0) hx hb d_ThumbCore_branchOrCall_6 (by decide) ?_
    exact RET H locs ls 7 (false, c_locked, c_next, c_memory_words, c_registers, c_exceptions_pending, c_exceptions_active, c_exceptions_current) d_ThumbCore_branchOrCall_7 hP hD hS hq
abbrev rm_ThumbCore_farOffset : Room := { frames := 1, cells := 0, slots := 0, locals := 24 }
set_option maxHeartbeats 4000000 in
set_option maxRecDepth 100000 in
theorem c_ThumbCore_farOffset (l : Launch) (x1 : Int32) (x2 : Int32) : Met l y_ThumbCore_farOffset (.code y_ThumbCore_farOffset b_ThumbCore_farOffset 5 (some .int) :: tcb) rm_ThumbCore_farOffset (va_Pc ([.int x1, .int x2] : List Value) (fun _ => True)) (QcRead (f_ThumbCore_farOffset x1 x2)) 0 0 (fun _ => False) := by
  refine tc_st_i (by decide) (Nat.le_of_ble_eq_true rfl) ?_
  intro p e s m below meth c Q ls hx hb hml hts hown hl RET
  have hl : lv_has ls 5 [(0, .int x1), (1, .int x2)] := hl
  generalize hF : f_ThumbCore_farOffset x1 x2 = FF at RET
  have J_38 : ∀ (ls : Array Slot) (y0 : Int32) (y1 : Int32) (y2 : Int32) (y3 : Bool) (z0 : Bool), lv_has ls 5 [(0, .int y0), (1, .int y1), (2, .int y2), (3, .int (bI y3))] → FF = k_ThumbCore_farOffset_38 y0 y1 y2 y3 z0 → W p l e rm_ThumbCore_farOffset s m ([.int x1, .int x2] : List Value).toArray below meth c s.heap [] 0 0 Q (F0 m 38 ls [.int (bI z0)]) := by
    intro ls y0 y1 y2 y3 z0 hl hq
    refine lv_istore (lv' := [(4, .int (bI z0)), (0, .int y0), (1, .int y1), (2, .int y2), (3, .int (bI y3))]) hx hb d_ThumbCore_farOffset_38 hl (by decide) rfl (fun ls hl => ?_)
    refine lv_iload_n hx hb d_ThumbCore_farOffset_40 rfl (lv_at hl 3 rfl) ?_
    refine lv_ineg hx hb d_ThumbCore_farOffset_41 ?_
    refine lv_bipush (v := 24) hx hb d_ThumbCore_farOffset_42 (by decide) ?_
    refine lv_ishl hx hb d_ThumbCore_farOffset_44 ?_
    refine lv_iload_n hx hb d_ThumbCore_farOffset_45 rfl (lv_at hl 4 rfl) ?_
    refine lv_bipush (v := 23) hx hb d_ThumbCore_farOffset_46 (by decide) ?_
    refine lv_ishl hx hb d_ThumbCore_farOffset_48 ?_
    refine lv_ior hx hb d_ThumbCore_farOffset_49 ?_
    refine lv_iload hx hb d_ThumbCore_farOffset_50 (lv_at hl 0 rfl) ?_
    refine lv_bipush (v := 22) hx hb d_ThumbCore_farOffset_52 (by decide) ?_
    refine lv_ishl hx hb d_ThumbCore_farOffset_54 ?_
    refine lv_ior hx hb d_ThumbCore_farOffset_55 ?_
    refine lv_iload_n hx hb d_ThumbCore_farOffset_56 rfl (lv_at hl 1 rfl) ?_
    refine lv_sipush (v := 1023) hx hb d_ThumbCore_farOffset_57 (by decide) ?_
    refine lv_iand hx hb d_ThumbCore_farOffset_60 ?_
    refine lv_bipush (v := 12) hx hb d_ThumbCore_farOffset_61 (by decide) ?_
    refine lv_ishl hx hb d_ThumbCore_farOffset_63 ?_
    refine lv_ior hx hb d_ThumbCore_farOffset_64 ?_
    refine lv_iload_n hx hb d_ThumbCore_farOffset_65 rfl (lv_at hl 2 rfl) ?_
    refine lv_sipush (v := 2047) hx hb d_ThumbCore_farOffset_66 (by decide) ?_
    refine lv_iand hx hb d_ThumbCore_farOffset_69 ?_
    refine lv_iconst (v := 1) hx hb d_ThumbCore_farOffset_70 (by decide) ?_
    refine lv_ishl hx hb d_ThumbCore_farOffset_71 ?_
    refine lv_ior hx hb d_ThumbCore_farOffset_72 ?_
    exact RET ls 73 d_ThumbCore_farOffset_73 hq
  have J_22 : ∀ (ls : Array Slot) (y0 : Int32) (y1 : Int32) (y2 : Int32) (z0 : Bool), lv_has ls 5 [(0, .int y0), (1, .int y1), (2, .int y2)] → FF = k_ThumbCore_farOffset_22 y0 y1 y2 z0 → W p l e rm_ThumbCore_farOffset s m ([.int x1, .int x2] : List Value).toArray below meth c s.heap [] 0 0 Q (F0 m 22 ls [.int (bI z0)]) := by
    intro ls y0 y1 y2 z0 hl hq
    refine lv_istore_n (lv' := [(3, .int (bI z0)), (0, .int y0), (1, .int y1), (2, .int y2)]) hx hb d_ThumbCore_farOffset_22 rfl hl (by decide) rfl (fun ls hl => ?_)
    refine lv_iload_n hx hb d_ThumbCore_farOffset_23 rfl (lv_at hl 2 rfl) ?_
    refine lv_bipush (v := 11) hx hb d_ThumbCore_farOffset_24 (by decide) ?_
    refine lv_iushr (v := (o_iushr y1 11)) hx hb d_ThumbCore_farOffset_26 rfl ?_
    refine lv_iconst (v := 1) hx hb d_ThumbCore_farOffset_27 (by decide) ?_
    refine lv_iand hx hb d_ThumbCore_farOffset_28 ?_
    refine lv_iload_n hx hb d_ThumbCore_farOffset_29 rfl (lv_at hl 3 rfl) ?_
    refine lv_icmp_ne (tgt := 37) hx hb d_ThumbCore_farOffset_30 (by decide) (fun g_30 => ?_) (fun g_30 => ?_)
    · have hq := hq.trans (if_pos g_30)
      refine lv_iconst (v := 0) hx hb d_ThumbCore_farOffset_37 (by decide) ?_
      exact J_38 ls y0 y1 y2 z0 false (lv_sub hl [1, 2, 3, 0] rfl) hq
    · have hq := hq.trans (if_neg (fun g => g g_30))
      refine lv_iconst (v := 1) hx hb d_ThumbCore_farOffset_33 (by decide) ?_
      refine lv_goto (tgt := 38) hx hb d_ThumbCore_farOffset_34 (by decide) ?_
      exact J_38 ls y0 y1 y2 z0 true (lv_sub hl [1, 2, 3, 0] rfl) hq
  have hq : FF = f_ThumbCore_farOffset x1 x2 := hF.symm
  refine lv_iload_n hx hb d_ThumbCore_farOffset_0 rfl (lv_at hl 0 rfl) ?_
  refine lv_bipush (v := 10) hx hb d_ThumbCore_farOffset_1 (by decide) ?_
  refine lv_iushr (v := (o_iushr x1 10)) hx hb d_ThumbCore_farOffset_3 rfl ?_
  refine lv_iconst (v := 1) hx hb d_ThumbCore_farOffset_4 (by decide) ?_
  refine lv_iand hx hb d_ThumbCore_farOffset_5 ?_
  refine lv_topi (fun v1 e_v1 => ?_)
  have hq := tc_nm hq e_v1
  refine lv_istore_n (lv' := [(2, .int v1), (0, .int x1), (1, .int x2)]) hx hb d_ThumbCore_farOffset_6 rfl hl (by decide) rfl (fun ls hl => ?_)
  refine lv_iload_n hx hb d_ThumbCore_farOffset_7 rfl (lv_at hl 2 rfl) ?_
  refine lv_bipush (v := 13) hx hb d_ThumbCore_farOffset_8 (by decide) ?_
  refine lv_iushr (v := (o_iushr x2 13)) hx hb d_ThumbCore_farOffset_10 rfl ?_
  refine lv_iconst (v := 1) hx hb d_ThumbCore_farOffset_11 (by decide) ?_
  refine lv_iand hx hb d_ThumbCore_farOffset_12 ?_
  refine lv_iload_n hx hb d_ThumbCore_farOffset_13 rfl (lv_at hl 0 rfl) ?_
  refine lv_icmp_ne (tgt := 21) hx hb d_ThumbCore_farOffset_14 (by decide) (fun g_14 => ?_) (fun g_14 => ?_)
  · have hq := hq.trans (if_pos g_14)
    refine lv_iconst (v := 0) hx hb d_ThumbCore_farOffset_21 (by decide) ?_
    exact J_22 ls x1 x2 v1 false (lv_sub hl [1, 2, 0] rfl) hq
  · have hq := hq.trans (if_neg (fun g => g g_14))
    refine lv_iconst (v := 1) hx hb d_ThumbCore_farOffset_17 (by decide) ?_
    refine lv_goto (tgt := 22) hx hb d_ThumbCore_farOffset_18 (by decide) ?_
    exact J_22 ls x1 x2 v1 true (lv_sub hl [1, 2, 0] rfl) hq
abbrev rm_ThumbCore_branchFar : Room := { frames := 3, cells := 0, slots := 0, locals := 68 }
set_option maxHeartbeats 4000000 in
set_option maxRecDepth 100000 in
theorem c_ThumbCore_branchFar (l : Launch) (D : va_G) (cI cB cZ : ClassId) (h h_memory h_memory_words h_registers h_flags h_exceptions h_exceptions_priorities h_counter sz : Nat) (q_memory_size : Int32) (n_memory_words : Nat) (c_asleep : Bool) (c_locked : Bool) (c_next : Int32) (c_memory_words : Nat → Int32) (c_registers : Nat → Int32) (c_flags_negative : Bool) (c_flags_zero : Bool) (c_flags_carry : Bool) (c_flags_overflow : Bool) (c_exceptions_pending : Int32) (c_exceptions_active : Int32) (c_exceptions_current : Int32) (c_exceptions_masked : Bool) (c_exceptions_priorities : Nat → Int32) (c_counter_number : Int32) (c_counter_reload : Int32) (c_counter_on : Bool) (x1 : Int32) (hm : tc_mem q_memory_size n_memory_words) : Met l y_ThumbCore_branchFar (.code y_ThumbCore_branchFar b_ThumbCore_branchFar 4 (some .boolean) :: tcb) rm_ThumbCore_branchFar (tc_Pw D tcl (tys cI cB cZ) (wd_ThumbCore cI cB cZ h h_memory h_memory_words h_registers h_flags h_exceptions h_exceptions_priorities h_counter q_memory_size n_memory_words c_asleep c_locked c_next c_memory_words c_registers c_flags_negative c_flags_zero c_flags_carry c_flags_overflow c_exceptions_pending c_exceptions_active c_exceptions_current c_exceptions_masked c_exceptions_priorities c_counter_number c_counter_reload c_counter_on) sz ([.ref h, .int x1] : List Value) none) (tc_Qz D tcl (wd_ThumbCore cI cB cZ h h_memory h_memory_words h_registers h_flags h_exceptions h_exceptions_priorities h_counter q_memory_size n_memory_words c_asleep c_locked c_next c_memory_words c_registers c_flags_negative c_flags_zero c_flags_carry c_flags_overflow c_exceptions_pending c_exceptions_active c_exceptions_current c_exceptions_masked c_exceptions_priorities c_counter_number c_counter_reload c_counter_on) sz (fun u => (wd_ThumbCore cI cB cZ h h_memory h_memory_words h_registers h_flags h_exceptions h_exceptions_priorities h_counter q_memory_size n_memory_words c_asleep c_locked u.2.1 c_memory_words u.2.2 c_flags_negative c_flags_zero c_flags_carry c_flags_overflow c_exceptions_pending c_exceptions_active c_exceptions_current c_exceptions_masked c_exceptions_priorities c_counter_number c_counter_reload c_counter_on)) (f_ThumbCore_branchFar q_memory_size c_memory_words c_next c_registers x1)) 0 0 (va_A (wd_ThumbCore cI cB cZ h h_memory h_memory_words h_registers h_flags h_exceptions h_exceptions_priorities h_counter q_memory_size n_memory_words c_asleep c_locked c_next c_memory_words c_registers c_flags_negative c_flags_zero c_flags_carry c_flags_overflow c_exceptions_pending c_exceptions_active c_exceptions_current c_exceptions_masked c_exceptions_priorities c_counter_number c_counter_reload c_counter_on) sz) := by
  refine tc_mu_z (by decide) (Nat.le_of_ble_eq_true rfl) ?_
  intro p e s m below meth c A Q ls hx hb hml hts hown hK hN hP hD hA hZ hl RET
  have hS : va_S A s.heap s.heap [] := va_S.rf
  have hl : lv_has ls 4 [(0, .ref h), (1, .int x1)] := hl
  generalize hF : f_ThumbCore_branchFar q_memory_size c_memory_words c_next c_registers x1 = FF at RET
  have hq : FF = f_ThumbCore_branchFar q_memory_size c_memory_words c_next c_registers x1 := hF.symm
  revert hP hD hS
  suffices G : ∀ (H : Heap) (locs : List Loc), va_P D tcl (wd_ThumbCore cI cB cZ h h_memory h_memory_words h_registers h_flags h_exceptions h_exceptions_priorities h_counter q_memory_size n_memory_words c_asleep c_locked c_next c_memory_words c_registers c_flags_negative c_flags_zero c_flags_carry c_flags_overflow c_exceptions_pending c_exceptions_active c_exceptions_current c_exceptions_masked c_exceptions_priorities c_counter_number c_counter_reload c_counter_on) H → va_D A (wd_ThumbCore cI cB cZ h h_memory h_memory_words h_registers h_flags h_exceptions h_exceptions_priorities h_counter q_memory_size n_memory_words c_asleep c_locked c_next c_memory_words c_registers c_flags_negative c_flags_zero c_flags_carry c_flags_overflow c_exceptions_pending c_exceptions_active c_exceptions_current c_exceptions_masked c_exceptions_priorities c_counter_number c_counter_reload c_counter_on) → va_S A s.heap H locs → W p l e rm_ThumbCore_branchFar s m ([.ref h, .int x1] : List Value).toArray below meth c H locs 0 0 Q (F0 m 0 ls []) from fun hP hD hS => G _ _ hP hD hS
  intro H locs hP hD hS
  refine lv_aload_n hx hb d_ThumbCore_branchFar_0 rfl (lv_at hl 0 rfl) ?_
  refine va_get (D := D) (ci := 4) (v := .ref h_registers) (C := R_ThumbCore) (T := F_ThumbCore) (N := 8) hx hb hts u_ThumbCore hown hK hP 0 rfl rfl 1 (by decide) (hts _ wf_ThumbCore_27) (fun _ h9 => h9) rfl d_ThumbCore_branchFar_1 ?_
  refine lv_bipush (v := 15) hx hb d_ThumbCore_branchFar_4 (by decide) ?_
  refine va_iald hx hb hK hP 3 0 rfl rfl (by show ¬ (_ ∨ _); decide) d_ThumbCore_branchFar_6 ?_
  refine lv_topi (fun v1 e_v1 => ?_)
  have hq := tc_nm hq e_v1
  refine lv_istore_n (lv' := [(2, .int v1), (0, .ref h), (1, .int x1)]) hx hb d_ThumbCore_branchFar_7 rfl hl (by decide) rfl (fun ls hl => ?_)
  refine lv_aload_n hx hb d_ThumbCore_branchFar_8 rfl (lv_at hl 1 rfl) ?_
  refine va_get (D := D) (ci := 4) (v := .ref h_memory) (C := R_ThumbCore) (T := F_ThumbCore) (N := 8) hx hb hts u_ThumbCore hown hK hP 0 rfl rfl 0 (by decide) (hts _ wf_ThumbCore_21) (fun _ h9 => h9) rfl d_ThumbCore_branchFar_9 ?_
  refine lv_iload_n hx hb d_ThumbCore_branchFar_12 rfl (lv_at hl 0 rfl) ?_
  refine lv_iconst (v := 2) hx hb d_ThumbCore_branchFar_13 (by decide) ?_
  refine lv_iadd hx hb d_ThumbCore_branchFar_14 ?_
  refine lv_iconst (v := 2) hx hb d_ThumbCore_branchFar_15 (by decide) ?_
  refine tc_rd (va_runV (As := [.int (v1 + 2), .int 2]) (rest := []) ⟨hx, hb, hml, hown, hts⟩ (c_Memory_isThere l D cI cB cZ h_memory h_memory_words H.size q_memory_size n_memory_words c_memory_words (v1 + 2) 2) (cwV 2 hts (tc_gV wl_ThumbCore_155 wm_Memory_isThere ws_Memory_isThere wi_Memory wc_Memory_isThere) rfl rfl rfl (by decide +kernel) ⟨Nat.le_of_ble_eq_true rfl, Nat.le_of_ble_eq_true rfl⟩) (tc_preV hK hN hP hD [1, 2] rfl (by decide) (q0 := 1) rfl rfl) rfl rfl hl.1 rfl (lv_room (Nat.le_of_ble_eq_true rfl)) d_ThumbCore_branchFar_16 (by decide)) ?_
  refine tc_topb (fun v2 e_v2 => ?_)
  have hq := tc_nm hq e_v2
  refine lv_if_ne (tgt := 24) hx hb d_ThumbCore_branchFar_19 (by decide) (fun g_19 => ?_) (fun g_19 => ?_)
  · have hq := hq.trans (if_pos g_19)
    refine lv_aload_n hx hb d_ThumbCore_branchFar_24 rfl (lv_at hl 1 rfl) ?_
    refine va_get (D := D) (ci := 4) (v := .ref h_memory) (C := R_ThumbCore) (T := F_ThumbCore) (N := 8) hx hb hts u_ThumbCore hown hK hP 0 rfl rfl 0 (by decide) (hts _ wf_ThumbCore_21) (fun _ h9 => h9) rfl d_ThumbCore_branchFar_25 ?_
    refine lv_iload_n hx hb d_ThumbCore_branchFar_28 rfl (lv_at hl 0 rfl) ?_
    refine lv_iconst (v := 2) hx hb d_ThumbCore_branchFar_29 (by decide) ?_
    refine lv_iadd hx hb d_ThumbCore_branchFar_30 ?_
    refine lv_iconst (v := 2) hx hb d_ThumbCore_branchFar_31 (by decide) ?_
    refine tc_rd (va_runV (As := [.int (v1 + 2), .int 2]) (rest := []) ⟨hx, hb, hml, hown, hts⟩ (c_Memory_read l D cI cB cZ h_memory h_memory_words H.size q_memory_size n_memory_words c_memory_words (v1 + 2) 2 hm (tc_isOk hm (by decide) (tc_bT e_v2 g_19))) (cwV 2 hts (tc_gV wl_ThumbCore_63 wm_Memory_read ws_Memory_read wi_Memory wc_Memory_read) rfl rfl rfl (by decide +kernel) ⟨Nat.le_of_ble_eq_true rfl, Nat.le_of_ble_eq_true rfl⟩) (tc_preV hK hN hP hD [1, 2] rfl (by decide) (q0 := 1) rfl rfl) rfl rfl hl.1 rfl (lv_room (Nat.le_of_ble_eq_true rfl)) d_ThumbCore_branchFar_32 (by decide)) ?_
    refine lv_topi (fun v3 e_v3 => ?_)
    have hq := tc_nm hq e_v3
    refine lv_istore_n (lv' := [(3, .int v3), (2, .int v1), (0, .ref h), (1, .int x1)]) hx hb d_ThumbCore_branchFar_35 rfl hl (by decide) rfl (fun ls hl => ?_)
    refine lv_iload_n hx hb d_ThumbCore_branchFar_36 rfl (lv_at hl 0 rfl) ?_
    refine lv_ldcw (v := 49152) hx hb hown (hts _ wk_ThumbCore_305) d_ThumbCore_branchFar_37 ?_
    refine lv_icmp_lt (tgt := 52) hx hb d_ThumbCore_branchFar_40 (by decide) (fun g_40 => ?_) (fun g_40 => ?_)
    · have hq := hq.trans (if_pos g_40)
      refine lv_iconst (v := 0) hx hb d_ThumbCore_branchFar_52 (by decide) ?_
      exact RET H locs ls 53 (false, c_next, c_registers) d_ThumbCore_branchFar_53 hP hD hS hq
    · have hq := hq.trans (if_neg g_40)
      refine lv_iload_n hx hb d_ThumbCore_branchFar_43 rfl (lv_at hl 0 rfl) ?_
      refine lv_bipush (v := 12) hx hb d_ThumbCore_branchFar_44 (by decide) ?_
      refine lv_iushr (v := (o_iushr v3 12)) hx hb d_ThumbCore_branchFar_46 rfl ?_
      refine lv_iconst (v := 1) hx hb d_ThumbCore_branchFar_47 (by decide) ?_
      refine lv_iand hx hb d_ThumbCore_branchFar_48 ?_
      refine lv_if_ne (tgt := 54) hx hb d_ThumbCore_branchFar_49 (by decide) (fun g_49 => ?_) (fun g_49 => ?_)
      · have hq := hq.trans (if_pos g_49)
        refine lv_aload_n hx hb d_ThumbCore_branchFar_54 rfl (lv_at hl 2 rfl) ?_
        refine va_get (D := D) (ci := 4) (v := .ref h_registers) (C := R_ThumbCore) (T := F_ThumbCore) (N := 8) hx hb hts u_ThumbCore hown hK hP 0 rfl rfl 1 (by decide) (hts _ wf_ThumbCore_27) (fun _ h9 => h9) rfl d_ThumbCore_branchFar_55 ?_
        refine lv_bipush (v := 14) hx hb d_ThumbCore_branchFar_58 (by decide) ?_
        refine lv_iload_n hx hb d_ThumbCore_branchFar_60 rfl (lv_at hl 1 rfl) ?_
        refine lv_iconst (v := 5) hx hb d_ThumbCore_branchFar_61 (by decide) ?_
        refine lv_iadd hx hb d_ThumbCore_branchFar_62 ?_
        refine va_iast hx hb hK hP hD hS 3 0 rfl rfl (by show ¬ (_ ∨ _); decide) d_ThumbCore_branchFar_63 (fun H locs hP hD hS => ?_)
        have hP : va_P D tcl (wd_ThumbCore cI cB cZ h h_memory h_memory_words h_registers h_flags h_exceptions h_exceptions_priorities h_counter q_memory_size n_memory_words c_asleep c_locked c_next c_memory_words (upd c_registers (14 : Int32).toNatClampNeg (v1 + 5)) c_flags_negative c_flags_zero c_flags_carry c_flags_overflow c_exceptions_pending c_exceptions_active c_exceptions_current c_exceptions_masked c_exceptions_priorities c_counter_number c_counter_reload c_counter_on) H := hP
        have hD : va_D A (wd_ThumbCore cI cB cZ h h_memory h_memory_words h_registers h_flags h_exceptions h_exceptions_priorities h_counter q_memory_size n_memory_words c_asleep c_locked c_next c_memory_words (upd c_registers (14 : Int32).toNatClampNeg (v1 + 5)) c_flags_negative c_flags_zero c_flags_carry c_flags_overflow c_exceptions_pending c_exceptions_active c_exceptions_current c_exceptions_masked c_exceptions_priorities c_counter_number c_counter_reload c_counter_on) := hD
        refine lv_aload_n hx hb d_ThumbCore_branchFar_64 rfl (lv_at hl 2 rfl) ?_
        refine lv_aload_n hx hb d_ThumbCore_branchFar_65 rfl (lv_at hl 2 rfl) ?_
        refine tc_rd (va_runV (As := []) (rest := [.ref h]) ⟨hx, hb, hml, hown, hts⟩ (c_ThumbCore_here l D cI cB cZ h h_memory h_memory_words h_registers h_flags h_exceptions h_exceptions_priorities h_counter H.size q_memory_size n_memory_words c_asleep c_locked c_next c_memory_words (upd c_registers (14 : Int32).toNatClampNeg (v1 + 5)) c_flags_negative c_flags_zero c_flags_carry c_flags_overflow c_exceptions_pending c_exceptions_active c_exceptions_current c_exceptions_masked c_exceptions_priorities c_counter_number c_counter_reload c_counter_on) (cwV 0 hts (tc_gV wl_ThumbCore_194 wm_ThumbCore_here ws_ThumbCore_here wi_ThumbCore wc_ThumbCore_here) rfl rfl rfl (by decide +kernel) ⟨Nat.le_of_ble_eq_true rfl, Nat.le_of_ble_eq_true rfl⟩) (tc_preV hK hN hP hD [0, 1, 2, 3, 4, 5, 6, 7] rfl (by decide) (q0 := 0) rfl rfl) rfl rfl hl.1 rfl (lv_room (Nat.le_of_ble_eq_true rfl)) d_ThumbCore_branchFar_66 (by decide)) ?_
        refine lv_topi (fun v4 e_v4 => ?_)
        have hq := tc_nm hq e_v4
        refine lv_iload_n hx hb d_ThumbCore_branchFar_69 rfl (lv_at hl 3 rfl) ?_
        refine lv_iload_n hx hb d_ThumbCore_branchFar_70 rfl (lv_at hl 0 rfl) ?_
        refine tc_rd (va_runS (As := [.int x1, .int v3]) (rest := [.int v4, .ref h]) ⟨hx, hb, hml, hown, hts⟩ (c_ThumbCore_farOffset l x1 v3) (va_cwS 2 hts (tc_gS wl_ThumbCore_306 wt_ThumbCore_farOffset wi_ThumbCore wc_ThumbCore_farOffset) rfl rfl rfl (by decide +kernel) ⟨Nat.le_of_ble_eq_true rfl, Nat.le_of_ble_eq_true rfl⟩) tc_preS rfl rfl hl.1 rfl (lv_room (Nat.le_of_ble_eq_true rfl)) d_ThumbCore_branchFar_71 (by decide)) ?_
        refine lv_topi (fun v5 e_v5 => ?_)
        have hq := tc_nm hq e_v5
        refine lv_iadd hx hb d_ThumbCore_branchFar_74 ?_
        refine va_put (D := D) (ci := 4) (v := .int (v4 + v5)) (ty := .int) (C := R_ThumbCore) (T := F_ThumbCore) (N := 8) hx hb hts u_ThumbCore t_ThumbCore t_ThumbCore_ok n_ThumbCore hown hK hP hD hS 0 rfl rfl 7 (by decide) (hts _ wf_ThumbCore_111) (fun _ h9 => h9) rfl (by decide +kernel) rfl rfl (Nat.le_of_ble_eq_true rfl) d_ThumbCore_branchFar_75 (fun H locs hP hD hS => ?_)
        have hP : va_P D tcl (wd_ThumbCore cI cB cZ h h_memory h_memory_words h_registers h_flags h_exceptions h_exceptions_priorities h_counter q_memory_size n_memory_words c_asleep c_locked (v4 + v5) c_memory_words (upd c_registers (14 : Int32).toNatClampNeg (v1 + 5)) c_flags_negative c_flags_zero c_flags_carry c_flags_overflow c_exceptions_pending c_exceptions_active c_exceptions_current c_exceptions_masked c_exceptions_priorities c_counter_number c_counter_reload c_counter_on) H := hP
        have hD : va_D A (wd_ThumbCore cI cB cZ h h_memory h_memory_words h_registers h_flags h_exceptions h_exceptions_priorities h_counter q_memory_size n_memory_words c_asleep c_locked (v4 + v5) c_memory_words (upd c_registers (14 : Int32).toNatClampNeg (v1 + 5)) c_flags_negative c_flags_zero c_flags_carry c_flags_overflow c_exceptions_pending c_exceptions_active c_exceptions_current c_exceptions_masked c_exceptions_priorities c_counter_number c_counter_reload c_counter_on) := hD
        refine lv_iconst (v := 1) hx hb d_ThumbCore_branchFar_78 (by decide) ?_
        exact RET H locs ls 79 (true, (v4 + v5), (upd c_registers (14 : Int32).toNatClampNeg (v1 + 5))) d_ThumbCore_branchFar_79 hP hD hS hq
      · have hq := hq.trans (if_neg (fun g => g g_49))
        refine lv_iconst (v := 0) hx hb d_ThumbCore_branchFar_52 (by decide) ?_
        exact RET H locs ls 53 (false, c_next, c_registers) d_ThumbCore_branchFar_53 hP hD hS hq
  · have hq := hq.trans (if_neg (fun g => g g_19))
    refine lv_iconst (v := 0) hx hb d_ThumbCore_branchFar_22 (by decide) ?_
    exact RET H locs ls 23 (false, c_next, c_registers) d_ThumbCore_branchFar_23 hP hD hS hq
abbrev rm_ThumbCore_perform : Room := { frames := 6, cells := 0, slots := 0, locals := 134 }
set_option maxHeartbeats 4000000 in
set_option maxRecDepth 100000 in
theorem c_ThumbCore_perform (l : Launch) (D : va_G) (cI cB cZ : ClassId) (h h_memory h_memory_words h_registers h_flags h_exceptions h_exceptions_priorities h_counter tL sz : Nat) (q_memory_size : Int32) (n_memory_words : Nat) (c_asleep : Bool) (c_locked : Bool) (c_next : Int32) (c_memory_words : Nat → Int32) (c_registers : Nat → Int32) (c_flags_negative : Bool) (c_flags_zero : Bool) (c_flags_carry : Bool) (c_flags_overflow : Bool) (c_exceptions_pending : Int32) (c_exceptions_active : Int32) (c_exceptions_current : Int32) (c_exceptions_masked : Bool) (c_exceptions_priorities : Nat → Int32) (c_counter_number : Int32) (c_counter_reload : Int32) (c_counter_on : Bool) (hm : tc_mem q_memory_size n_memory_words) : Met l y_ThumbCore_perform (.code y_ThumbCore_perform b_ThumbCore_perform 2 (some .boolean) :: tcb) rm_ThumbCore_perform (tc_Pw D tcl (tys cI cB cZ) (wd_ThumbCore cI cB cZ h h_memory h_memory_words h_registers h_flags h_exceptions h_exceptions_priorities h_counter q_memory_size n_memory_words c_asleep c_locked c_next c_memory_words c_registers c_flags_negative c_flags_zero c_flags_carry c_flags_overflow c_exceptions_pending c_exceptions_active c_exceptions_current c_exceptions_masked c_exceptions_priorities c_counter_number c_counter_reload c_counter_on) sz ([.ref h] : List Value) (some tL)) (tc_Qz D tcl (wd_ThumbCore cI cB cZ h h_memory h_memory_words h_registers h_flags h_exceptions h_exceptions_priorities h_counter q_memory_size n_memory_words c_asleep c_locked c_next c_memory_words c_registers c_flags_negative c_flags_zero c_flags_carry c_flags_overflow c_exceptions_pending c_exceptions_active c_exceptions_current c_exceptions_masked c_exceptions_priorities c_counter_number c_counter_reload c_counter_on) sz (fun u => (wd_ThumbCore cI cB cZ h h_memory h_memory_words h_registers h_flags h_exceptions h_exceptions_priorities h_counter q_memory_size n_memory_words u.2.1 u.2.2.1 u.2.2.2.1 u.2.2.2.2.1 u.2.2.2.2.2.1 u.2.2.2.2.2.2.1 u.2.2.2.2.2.2.2.1 u.2.2.2.2.2.2.2.2.1 u.2.2.2.2.2.2.2.2.2.1 u.2.2.2.2.2.2.2.2.2.2.1 u.2.2.2.2.2.2.2.2.2.2.2.1 u.2.2.2.2.2.2.2.2.2.2.2.2.1 u.2.2.2.2.2.2.2.2.2.2.2.2.2 c_exceptions_priorities c_counter_number c_counter_reload c_counter_on)) (f_ThumbCore_perform q_memory_size c_exceptions_priorities c_asleep c_locked c_next c_memory_words c_registers c_flags_negative c_flags_zero c_flags_carry c_flags_overflow c_exceptions_pending c_exceptions_active c_exceptions_current c_exceptions_masked)) 0 0 (va_A (wd_ThumbCore cI cB cZ h h_memory h_memory_words h_registers h_flags h_exceptions h_exceptions_priorities h_counter q_memory_size n_memory_words c_asleep c_locked c_next c_memory_words c_registers c_flags_negative c_flags_zero c_flags_carry c_flags_overflow c_exceptions_pending c_exceptions_active c_exceptions_current c_exceptions_masked c_exceptions_priorities c_counter_number c_counter_reload c_counter_on) sz) := by
  refine tc_mu_z (by decide) (Nat.le_of_ble_eq_true rfl) ?_
  intro p e s m below meth c A Q ls hx hb hml hts hown hK hN hP hD hA hZ hl RET
  have hS : va_S A s.heap s.heap [] := va_S.rf
  have hZ : va_Z "ThumbCore" "LAID" "[I" (.ref tL) A s s.heap ∧ va_T .int tL 6 (fun j => .int (laid j)) A s s.heap := hZ
  have hl : lv_has ls 2 [(0, .ref h)] := hl
  generalize hF : f_ThumbCore_perform q_memory_size c_exceptions_priorities c_asleep c_locked c_next c_memory_words c_registers c_flags_negative c_flags_zero c_flags_carry c_flags_overflow c_exceptions_pending c_exceptions_active c_exceptions_current c_exceptions_masked = FF at RET
  have hq : FF = f_ThumbCore_perform q_memory_size c_exceptions_priorities c_asleep c_locked c_next c_memory_words c_registers c_flags_negative c_flags_zero c_flags_carry c_flags_overflow c_exceptions_pending c_exceptions_active c_exceptions_current c_exceptions_masked := hF.symm
  revert hP hD hS
  suffices G : ∀ (H : Heap) (locs : List Loc), va_P D tcl (wd_ThumbCore cI cB cZ h h_memory h_memory_words h_registers h_flags h_exceptions h_exceptions_priorities h_counter q_memory_size n_memory_words c_asleep c_locked c_next c_memory_words c_registers c_flags_negative c_flags_zero c_flags_carry c_flags_overflow c_exceptions_pending c_exceptions_active c_exceptions_current c_exceptions_masked c_exceptions_priorities c_counter_number c_counter_reload c_counter_on) H → va_D A (wd_ThumbCore cI cB cZ h h_memory h_memory_words h_registers h_flags h_exceptions h_exceptions_priorities h_counter q_memory_size n_memory_words c_asleep c_locked c_next c_memory_words c_registers c_flags_negative c_flags_zero c_flags_carry c_flags_overflow c_exceptions_pending c_exceptions_active c_exceptions_current c_exceptions_masked c_exceptions_priorities c_counter_number c_counter_reload c_counter_on) → va_S A s.heap H locs → W p l e rm_ThumbCore_perform s m ([.ref h] : List Value).toArray below meth c H locs 0 0 Q (F0 m 0 ls []) from fun hP hD hS => G _ _ hP hD hS
  intro H locs hP hD hS
  refine lv_aload_n hx hb d_ThumbCore_perform_0 rfl (lv_at hl 0 rfl) ?_
  refine lv_aload_n hx hb d_ThumbCore_perform_1 rfl (lv_at hl 0 rfl) ?_
  refine va_get (D := D) (ci := 4) (v := .ref h_registers) (C := R_ThumbCore) (T := F_ThumbCore) (N := 8) hx hb hts u_ThumbCore hown hK hP 0 rfl rfl 1 (by decide) (hts _ wf_ThumbCore_27) (fun _ h9 => h9) rfl d_ThumbCore_perform_2 ?_
  refine lv_bipush (v := 15) hx hb d_ThumbCore_perform_5 (by decide) ?_
  refine va_iald hx hb hK hP 3 0 rfl rfl (by show ¬ (_ ∨ _); decide) d_ThumbCore_perform_7 ?_
  refine lv_iconst (v := 2) hx hb d_ThumbCore_perform_8 (by decide) ?_
  refine lv_iadd hx hb d_ThumbCore_perform_9 ?_
  refine lv_topi (fun v1 e_v1 => ?_)
  have hq := tc_nm hq e_v1
  refine va_put (D := D) (ci := 4) (v := .int v1) (ty := .int) (C := R_ThumbCore) (T := F_ThumbCore) (N := 8) hx hb hts u_ThumbCore t_ThumbCore t_ThumbCore_ok n_ThumbCore hown hK hP hD hS 0 rfl rfl 7 (by decide) (hts _ wf_ThumbCore_111) (fun _ h9 => h9) rfl (by decide +kernel) rfl rfl (Nat.le_of_ble_eq_true rfl) d_ThumbCore_perform_10 (fun H locs hP hD hS => ?_)
  have hP : va_P D tcl (wd_ThumbCore cI cB cZ h h_memory h_memory_words h_registers h_flags h_exceptions h_exceptions_priorities h_counter q_memory_size n_memory_words c_asleep c_locked v1 c_memory_words c_registers c_flags_negative c_flags_zero c_flags_carry c_flags_overflow c_exceptions_pending c_exceptions_active c_exceptions_current c_exceptions_masked c_exceptions_priorities c_counter_number c_counter_reload c_counter_on) H := hP
  have hD : va_D A (wd_ThumbCore cI cB cZ h h_memory h_memory_words h_registers h_flags h_exceptions h_exceptions_priorities h_counter q_memory_size n_memory_words c_asleep c_locked v1 c_memory_words c_registers c_flags_negative c_flags_zero c_flags_carry c_flags_overflow c_exceptions_pending c_exceptions_active c_exceptions_current c_exceptions_masked c_exceptions_priorities c_counter_number c_counter_reload c_counter_on) := hD
  refine lv_aload_n hx hb d_ThumbCore_perform_13 rfl (lv_at hl 0 rfl) ?_
  refine va_get (D := D) (ci := 4) (v := .ref h_memory) (C := R_ThumbCore) (T := F_ThumbCore) (N := 8) hx hb hts u_ThumbCore hown hK hP 0 rfl rfl 0 (by decide) (hts _ wf_ThumbCore_21) (fun _ h9 => h9) rfl d_ThumbCore_perform_14 ?_
  refine lv_aload_n hx hb d_ThumbCore_perform_17 rfl (lv_at hl 0 rfl) ?_
  refine va_get (D := D) (ci := 4) (v := .ref h_registers) (C := R_ThumbCore) (T := F_ThumbCore) (N := 8) hx hb hts u_ThumbCore hown hK hP 0 rfl rfl 1 (by decide) (hts _ wf_ThumbCore_27) (fun _ h9 => h9) rfl d_ThumbCore_perform_18 ?_
  refine lv_bipush (v := 15) hx hb d_ThumbCore_perform_21 (by decide) ?_
  refine va_iald hx hb hK hP 3 0 rfl rfl (by show ¬ (_ ∨ _); decide) d_ThumbCore_perform_23 ?_
  refine lv_iconst (v := 2) hx hb d_ThumbCore_perform_24 (by decide) ?_
  refine tc_rd (va_runV (As := [.int (c_registers (15 : Int32).toNatClampNeg), .int 2]) (rest := []) ⟨hx, hb, hml, hown, hts⟩ (c_Memory_isThere l D cI cB cZ h_memory h_memory_words H.size q_memory_size n_memory_words c_memory_words (c_registers (15 : Int32).toNatClampNeg) 2) (cwV 2 hts (tc_gV wl_ThumbCore_155 wm_Memory_isThere ws_Memory_isThere wi_Memory wc_Memory_isThere) rfl rfl rfl (by decide +kernel) ⟨Nat.le_of_ble_eq_true rfl, Nat.le_of_ble_eq_true rfl⟩) (tc_preV hK hN hP hD [1, 2] rfl (by decide) (q0 := 1) rfl rfl) rfl rfl hl.1 rfl (lv_room (Nat.le_of_ble_eq_true rfl)) d_ThumbCore_perform_25 (by decide)) ?_
  refine tc_topb (fun v2 e_v2 => ?_)
  have hq := tc_nm hq e_v2
  refine lv_if_ne (tgt := 33) hx hb d_ThumbCore_perform_28 (by decide) (fun g_28 => ?_) (fun g_28 => ?_)
  · have hq := hq.trans (if_pos g_28)
    refine lv_aload_n hx hb d_ThumbCore_perform_33 rfl (lv_at hl 0 rfl) ?_
    refine va_get (D := D) (ci := 4) (v := .ref h_memory) (C := R_ThumbCore) (T := F_ThumbCore) (N := 8) hx hb hts u_ThumbCore hown hK hP 0 rfl rfl 0 (by decide) (hts _ wf_ThumbCore_21) (fun _ h9 => h9) rfl d_ThumbCore_perform_34 ?_
    refine lv_aload_n hx hb d_ThumbCore_perform_37 rfl (lv_at hl 0 rfl) ?_
    refine va_get (D := D) (ci := 4) (v := .ref h_registers) (C := R_ThumbCore) (T := F_ThumbCore) (N := 8) hx hb hts u_ThumbCore hown hK hP 0 rfl rfl 1 (by decide) (hts _ wf_ThumbCore_27) (fun _ h9 => h9) rfl d_ThumbCore_perform_38 ?_
    refine lv_bipush (v := 15) hx hb d_ThumbCore_perform_41 (by decide) ?_
    refine va_iald hx hb hK hP 3 0 rfl rfl (by show ¬ (_ ∨ _); decide) d_ThumbCore_perform_43 ?_
    refine lv_iconst (v := 2) hx hb d_ThumbCore_perform_44 (by decide) ?_
    refine tc_rd (va_runV (As := [.int (c_registers (15 : Int32).toNatClampNeg), .int 2]) (rest := []) ⟨hx, hb, hml, hown, hts⟩ (c_Memory_read l D cI cB cZ h_memory h_memory_words H.size q_memory_size n_memory_words c_memory_words (c_registers (15 : Int32).toNatClampNeg) 2 hm (tc_isOk hm (by decide) (tc_bT e_v2 g_28))) (cwV 2 hts (tc_gV wl_ThumbCore_63 wm_Memory_read ws_Memory_read wi_Memory wc_Memory_read) rfl rfl rfl (by decide +kernel) ⟨Nat.le_of_ble_eq_true rfl, Nat.le_of_ble_eq_true rfl⟩) (tc_preV hK hN hP hD [1, 2] rfl (by decide) (q0 := 1) rfl rfl) rfl rfl hl.1 rfl (lv_room (Nat.le_of_ble_eq_true rfl)) d_ThumbCore_perform_45 (by decide)) ?_
    refine lv_topi (fun v3 e_v3 => ?_)
    have hq := tc_nm hq e_v3
    refine lv_istore_n (lv' := [(1, .int v3), (0, .ref h)]) hx hb d_ThumbCore_perform_48 rfl hl (by decide) rfl (fun ls hl => ?_)
    refine lv_iload_n hx hb d_ThumbCore_perform_49 rfl (lv_at hl 0 rfl) ?_
    refine lv_bipush (v := 11) hx hb d_ThumbCore_perform_50 (by decide) ?_
    refine lv_iushr (v := (o_iushr v3 11)) hx hb d_ThumbCore_perform_52 rfl ?_
    by_cases g_53_0 : (o_iushr v3 11) = 0
    · have hq := hq.trans (if_pos g_53_0)
      refine tc_tabIn (k := 0) (off := 139) (tgt := 192) hx hb d_ThumbCore_perform_53 g_53_0 (by decide) (by decide) (by decide +kernel) (by decide) ?_
      refine lv_aload_n hx hb d_ThumbCore_perform_192 rfl (lv_at hl 1 rfl) ?_
      refine lv_iload_n hx hb d_ThumbCore_perform_193 rfl (lv_at hl 0 rfl) ?_
      refine tc_mz (wo := fun u => (wd_ThumbCore cI cB cZ h h_memory h_memory_words h_registers h_flags h_exceptions h_exceptions_priorities h_counter q_memory_size n_memory_words c_asleep c_locked v1 c_memory_words u.2.1 u.2.2.1 u.2.2.2.1 u.2.2.2.2 c_flags_overflow c_exceptions_pending c_exceptions_active c_exceptions_current c_exceptions_masked c_exceptions_priorities c_counter_number c_counter_reload c_counter_on)) (va_runV (As := [.int v3]) (rest := []) ⟨hx, hb, hml, hown, hts⟩ (c_ThumbCore_moveByConstant l D cI cB cZ h h_memory h_memory_words h_registers h_flags h_exceptions h_exceptions_priorities h_counter H.size q_memory_size n_memory_words c_asleep c_locked v1 c_memory_words c_registers c_flags_negative c_flags_zero c_flags_carry c_flags_overflow c_exceptions_pending c_exceptions_active c_exceptions_current c_exceptions_masked c_exceptions_priorities c_counter_number c_counter_reload c_counter_on v3) (cwV 1 hts (tc_gV wl_ThumbCore_158 wm_ThumbCore_moveByConstant ws_ThumbCore_moveByConstant wi_ThumbCore wc_ThumbCore_moveByConstant) rfl rfl rfl (by decide +kernel) ⟨Nat.le_of_ble_eq_true rfl, Nat.le_of_ble_eq_true rfl⟩) (tc_preV hK hN hP hD [0, 1, 2, 3, 4, 5, 6, 7] rfl (by decide) (q0 := 0) rfl rfl) rfl rfl hl.1 rfl (lv_room (Nat.le_of_ble_eq_true rfl)) d_ThumbCore_perform_194 (by decide)) hP hD hS hA [0, 1, 2, 3, 4, 5, 6, 7] [] [0, 1, 2, 3, 4, 5, 6, 7] rfl rfl (by decide) (by decide) (by decide) (fun _ => rfl) (fun u H locs hu hP hD hS => ?_)
      obtain ⟨r4, s5, s6, s7, s8⟩ := u
      have hq := hq.trans (un5_eq hu _)
      have e_r4 := hu
      have hP : va_P D tcl (wd_ThumbCore cI cB cZ h h_memory h_memory_words h_registers h_flags h_exceptions h_exceptions_priorities h_counter q_memory_size n_memory_words c_asleep c_locked v1 c_memory_words s5 s6 s7 s8 c_flags_overflow c_exceptions_pending c_exceptions_active c_exceptions_current c_exceptions_masked c_exceptions_priorities c_counter_number c_counter_reload c_counter_on) H := hP
      have hD : va_D A (wd_ThumbCore cI cB cZ h h_memory h_memory_words h_registers h_flags h_exceptions h_exceptions_priorities h_counter q_memory_size n_memory_words c_asleep c_locked v1 c_memory_words s5 s6 s7 s8 c_flags_overflow c_exceptions_pending c_exceptions_active c_exceptions_current c_exceptions_masked c_exceptions_priorities c_counter_number c_counter_reload c_counter_on) := hD
      refine W.eq (g2 := F0 m 197 ls [.int (bI r4)]) rfl ?_
      exact RET H locs ls 197 (r4, c_asleep, c_locked, v1, c_memory_words, s5, s6, s7, s8, c_flags_overflow, c_exceptions_pending, c_exceptions_active, c_exceptions_current, c_exceptions_masked) d_ThumbCore_perform_197 hP hD hS hq
    have hq := hq.trans (if_neg g_53_0)
    by_cases g_53_1 : (o_iushr v3 11) = 1
    · have hq := hq.trans (if_pos g_53_1)
      refine tc_tabIn (k := 1) (off := 139) (tgt := 192) hx hb d_ThumbCore_perform_53 g_53_1 (by decide) (by decide) (by decide +kernel) (by decide) ?_
      refine lv_aload_n hx hb d_ThumbCore_perform_192 rfl (lv_at hl 1 rfl) ?_
      refine lv_iload_n hx hb d_ThumbCore_perform_193 rfl (lv_at hl 0 rfl) ?_
      refine tc_mz (wo := fun u => (wd_ThumbCore cI cB cZ h h_memory h_memory_words h_registers h_flags h_exceptions h_exceptions_priorities h_counter q_memory_size n_memory_words c_asleep c_locked v1 c_memory_words u.2.1 u.2.2.1 u.2.2.2.1 u.2.2.2.2 c_flags_overflow c_exceptions_pending c_exceptions_active c_exceptions_current c_exceptions_masked c_exceptions_priorities c_counter_number c_counter_reload c_counter_on)) (va_runV (As := [.int v3]) (rest := []) ⟨hx, hb, hml, hown, hts⟩ (c_ThumbCore_moveByConstant l D cI cB cZ h h_memory h_memory_words h_registers h_flags h_exceptions h_exceptions_priorities h_counter H.size q_memory_size n_memory_words c_asleep c_locked v1 c_memory_words c_registers c_flags_negative c_flags_zero c_flags_carry c_flags_overflow c_exceptions_pending c_exceptions_active c_exceptions_current c_exceptions_masked c_exceptions_priorities c_counter_number c_counter_reload c_counter_on v3) (cwV 1 hts (tc_gV wl_ThumbCore_158 wm_ThumbCore_moveByConstant ws_ThumbCore_moveByConstant wi_ThumbCore wc_ThumbCore_moveByConstant) rfl rfl rfl (by decide +kernel) ⟨Nat.le_of_ble_eq_true rfl, Nat.le_of_ble_eq_true rfl⟩) (tc_preV hK hN hP hD [0, 1, 2, 3, 4, 5, 6, 7] rfl (by decide) (q0 := 0) rfl rfl) rfl rfl hl.1 rfl (lv_room (Nat.le_of_ble_eq_true rfl)) d_ThumbCore_perform_194 (by decide)) hP hD hS hA [0, 1, 2, 3, 4, 5, 6, 7] [] [0, 1, 2, 3, 4, 5, 6, 7] rfl rfl (by decide) (by decide) (by decide) (fun _ => rfl) (fun u H locs hu hP hD hS => ?_)
      obtain ⟨r9, s10, s11, s12, s13⟩ := u
      have hq := hq.trans (un5_eq hu _)
      have e_r9 := hu
      have hP : va_P D tcl (wd_ThumbCore cI cB cZ h h_memory h_memory_words h_registers h_flags h_exceptions h_exceptions_priorities h_counter q_memory_size n_memory_words c_asleep c_locked v1 c_memory_words s10 s11 s12 s13 c_flags_overflow c_exceptions_pending c_exceptions_active c_exceptions_current c_exceptions_masked c_exceptions_priorities c_counter_number c_counter_reload c_counter_on) H := hP
      have hD : va_D A (wd_ThumbCore cI cB cZ h h_memory h_memory_words h_registers h_flags h_exceptions h_exceptions_priorities h_counter q_memory_size n_memory_words c_asleep c_locked v1 c_memory_words s10 s11 s12 s13 c_flags_overflow c_exceptions_pending c_exceptions_active c_exceptions_current c_exceptions_masked c_exceptions_priorities c_counter_number c_counter_reload c_counter_on) := hD
      refine W.eq (g2 := F0 m 197 ls [.int (bI r9)]) rfl ?_
      exact RET H locs ls 197 (r9, c_asleep, c_locked, v1, c_memory_words, s10, s11, s12, s13, c_flags_overflow, c_exceptions_pending, c_exceptions_active, c_exceptions_current, c_exceptions_masked) d_ThumbCore_perform_197 hP hD hS hq
    have hq := hq.trans (if_neg g_53_1)
    by_cases g_53_2 : (o_iushr v3 11) = 2
    · have hq := hq.trans (if_pos g_53_2)
      refine tc_tabIn (k := 2) (off := 139) (tgt := 192) hx hb d_ThumbCore_perform_53 g_53_2 (by decide) (by decide) (by decide +kernel) (by decide) ?_
      refine lv_aload_n hx hb d_ThumbCore_perform_192 rfl (lv_at hl 1 rfl) ?_
      refine lv_iload_n hx hb d_ThumbCore_perform_193 rfl (lv_at hl 0 rfl) ?_
      refine tc_mz (wo := fun u => (wd_ThumbCore cI cB cZ h h_memory h_memory_words h_registers h_flags h_exceptions h_exceptions_priorities h_counter q_memory_size n_memory_words c_asleep c_locked v1 c_memory_words u.2.1 u.2.2.1 u.2.2.2.1 u.2.2.2.2 c_flags_overflow c_exceptions_pending c_exceptions_active c_exceptions_current c_exceptions_masked c_exceptions_priorities c_counter_number c_counter_reload c_counter_on)) (va_runV (As := [.int v3]) (rest := []) ⟨hx, hb, hml, hown, hts⟩ (c_ThumbCore_moveByConstant l D cI cB cZ h h_memory h_memory_words h_registers h_flags h_exceptions h_exceptions_priorities h_counter H.size q_memory_size n_memory_words c_asleep c_locked v1 c_memory_words c_registers c_flags_negative c_flags_zero c_flags_carry c_flags_overflow c_exceptions_pending c_exceptions_active c_exceptions_current c_exceptions_masked c_exceptions_priorities c_counter_number c_counter_reload c_counter_on v3) (cwV 1 hts (tc_gV wl_ThumbCore_158 wm_ThumbCore_moveByConstant ws_ThumbCore_moveByConstant wi_ThumbCore wc_ThumbCore_moveByConstant) rfl rfl rfl (by decide +kernel) ⟨Nat.le_of_ble_eq_true rfl, Nat.le_of_ble_eq_true rfl⟩) (tc_preV hK hN hP hD [0, 1, 2, 3, 4, 5, 6, 7] rfl (by decide) (q0 := 0) rfl rfl) rfl rfl hl.1 rfl (lv_room (Nat.le_of_ble_eq_true rfl)) d_ThumbCore_perform_194 (by decide)) hP hD hS hA [0, 1, 2, 3, 4, 5, 6, 7] [] [0, 1, 2, 3, 4, 5, 6, 7] rfl rfl (by decide) (by decide) (by decide) (fun _ => rfl) (fun u H locs hu hP hD hS => ?_)
      obtain ⟨r14, s15, s16, s17, s18⟩ := u
      have hq := hq.trans (un5_eq hu _)
      have e_r14 := hu
      have hP : va_P D tcl (wd_ThumbCore cI cB cZ h h_memory h_memory_words h_registers h_flags h_exceptions h_exceptions_priorities h_counter q_memory_size n_memory_words c_asleep c_locked v1 c_memory_words s15 s16 s17 s18 c_flags_overflow c_exceptions_pending c_exceptions_active c_exceptions_current c_exceptions_masked c_exceptions_priorities c_counter_number c_counter_reload c_counter_on) H := hP
      have hD : va_D A (wd_ThumbCore cI cB cZ h h_memory h_memory_words h_registers h_flags h_exceptions h_exceptions_priorities h_counter q_memory_size n_memory_words c_asleep c_locked v1 c_memory_words s15 s16 s17 s18 c_flags_overflow c_exceptions_pending c_exceptions_active c_exceptions_current c_exceptions_masked c_exceptions_priorities c_counter_number c_counter_reload c_counter_on) := hD
      refine W.eq (g2 := F0 m 197 ls [.int (bI r14)]) rfl ?_
      exact RET H locs ls 197 (r14, c_asleep, c_locked, v1, c_memory_words, s15, s16, s17, s18, c_flags_overflow, c_exceptions_pending, c_exceptions_active, c_exceptions_current, c_exceptions_masked) d_ThumbCore_perform_197 hP hD hS hq
    have hq := hq.trans (if_neg g_53_2)
    by_cases g_53_3 : (o_iushr v3 11) = 3
    · have hq := hq.trans (if_pos g_53_3)
      refine tc_tabIn (k := 3) (off := 145) (tgt := 198) hx hb d_ThumbCore_perform_53 g_53_3 (by decide) (by decide) (by decide +kernel) (by decide) ?_
      refine lv_aload_n hx hb d_ThumbCore_perform_198 rfl (lv_at hl 1 rfl) ?_
      refine lv_iload_n hx hb d_ThumbCore_perform_199 rfl (lv_at hl 0 rfl) ?_
      refine tc_mz (wo := fun u => (wd_ThumbCore cI cB cZ h h_memory h_memory_words h_registers h_flags h_exceptions h_exceptions_priorities h_counter q_memory_size n_memory_words c_asleep c_locked v1 c_memory_words u.2.1 u.2.2.1 u.2.2.2.1 u.2.2.2.2.1 u.2.2.2.2.2 c_exceptions_pending c_exceptions_active c_exceptions_current c_exceptions_masked c_exceptions_priorities c_counter_number c_counter_reload c_counter_on)) (va_runV (As := [.int v3]) (rest := []) ⟨hx, hb, hml, hown, hts⟩ (c_ThumbCore_addThree l D cI cB cZ h h_memory h_memory_words h_registers h_flags h_exceptions h_exceptions_priorities h_counter H.size q_memory_size n_memory_words c_asleep c_locked v1 c_memory_words c_registers c_flags_negative c_flags_zero c_flags_carry c_flags_overflow c_exceptions_pending c_exceptions_active c_exceptions_current c_exceptions_masked c_exceptions_priorities c_counter_number c_counter_reload c_counter_on v3) (cwV 1 hts (tc_gV wl_ThumbCore_161 wm_ThumbCore_addThree ws_ThumbCore_addThree wi_ThumbCore wc_ThumbCore_addThree) rfl rfl rfl (by decide +kernel) ⟨Nat.le_of_ble_eq_true rfl, Nat.le_of_ble_eq_true rfl⟩) (tc_preV hK hN hP hD [0, 1, 2, 3, 4, 5, 6, 7] rfl (by decide) (q0 := 0) rfl rfl) rfl rfl hl.1 rfl (lv_room (Nat.le_of_ble_eq_true rfl)) d_ThumbCore_perform_200 (by decide)) hP hD hS hA [0, 1, 2, 3, 4, 5, 6, 7] [] [0, 1, 2, 3, 4, 5, 6, 7] rfl rfl (by decide) (by decide) (by decide) (fun _ => rfl) (fun u H locs hu hP hD hS => ?_)
      obtain ⟨r19, s20, s21, s22, s23, s24⟩ := u
      have hq := hq.trans (un6_eq hu _)
      have e_r19 := hu
      have hP : va_P D tcl (wd_ThumbCore cI cB cZ h h_memory h_memory_words h_registers h_flags h_exceptions h_exceptions_priorities h_counter q_memory_size n_memory_words c_asleep c_locked v1 c_memory_words s20 s21 s22 s23 s24 c_exceptions_pending c_exceptions_active c_exceptions_current c_exceptions_masked c_exceptions_priorities c_counter_number c_counter_reload c_counter_on) H := hP
      have hD : va_D A (wd_ThumbCore cI cB cZ h h_memory h_memory_words h_registers h_flags h_exceptions h_exceptions_priorities h_counter q_memory_size n_memory_words c_asleep c_locked v1 c_memory_words s20 s21 s22 s23 s24 c_exceptions_pending c_exceptions_active c_exceptions_current c_exceptions_masked c_exceptions_priorities c_counter_number c_counter_reload c_counter_on) := hD
      refine W.eq (g2 := F0 m 203 ls [.int (bI r19)]) rfl ?_
      exact RET H locs ls 203 (r19, c_asleep, c_locked, v1, c_memory_words, s20, s21, s22, s23, s24, c_exceptions_pending, c_exceptions_active, c_exceptions_current, c_exceptions_masked) d_ThumbCore_perform_203 hP hD hS hq
    have hq := hq.trans (if_neg g_53_3)
    by_cases g_53_4 : (o_iushr v3 11) = 4
    · have hq := hq.trans (if_pos g_53_4)
      refine tc_tabIn (k := 4) (off := 151) (tgt := 204) hx hb d_ThumbCore_perform_53 g_53_4 (by decide) (by decide) (by decide +kernel) (by decide) ?_
      refine lv_aload_n hx hb d_ThumbCore_perform_204 rfl (lv_at hl 1 rfl) ?_
      refine lv_iload_n hx hb d_ThumbCore_perform_205 rfl (lv_at hl 0 rfl) ?_
      refine tc_mz (wo := fun u => (wd_ThumbCore cI cB cZ h h_memory h_memory_words h_registers h_flags h_exceptions h_exceptions_priorities h_counter q_memory_size n_memory_words c_asleep c_locked v1 c_memory_words u.2.1 u.2.2.1 u.2.2.2.1 u.2.2.2.2.1 u.2.2.2.2.2 c_exceptions_pending c_exceptions_active c_exceptions_current c_exceptions_masked c_exceptions_priorities c_counter_number c_counter_reload c_counter_on)) (va_runV (As := [.int v3]) (rest := []) ⟨hx, hb, hml, hown, hts⟩ (c_ThumbCore_withByte l D cI cB cZ h h_memory h_memory_words h_registers h_flags h_exceptions h_exceptions_priorities h_counter H.size q_memory_size n_memory_words c_asleep c_locked v1 c_memory_words c_registers c_flags_negative c_flags_zero c_flags_carry c_flags_overflow c_exceptions_pending c_exceptions_active c_exceptions_current c_exceptions_masked c_exceptions_priorities c_counter_number c_counter_reload c_counter_on v3) (cwV 1 hts (tc_gV wl_ThumbCore_164 wm_ThumbCore_withByte ws_ThumbCore_withByte wi_ThumbCore wc_ThumbCore_withByte) rfl rfl rfl (by decide +kernel) ⟨Nat.le_of_ble_eq_true rfl, Nat.le_of_ble_eq_true rfl⟩) (tc_preV hK hN hP hD [0, 1, 2, 3, 4, 5, 6, 7] rfl (by decide) (q0 := 0) rfl rfl) rfl rfl hl.1 rfl (lv_room (Nat.le_of_ble_eq_true rfl)) d_ThumbCore_perform_206 (by decide)) hP hD hS hA [0, 1, 2, 3, 4, 5, 6, 7] [] [0, 1, 2, 3, 4, 5, 6, 7] rfl rfl (by decide) (by decide) (by decide) (fun _ => rfl) (fun u H locs hu hP hD hS => ?_)
      obtain ⟨r25, s26, s27, s28, s29, s30⟩ := u
      have hq := hq.trans (un6_eq hu _)
      have e_r25 := hu
      have hP : va_P D tcl (wd_ThumbCore cI cB cZ h h_memory h_memory_words h_registers h_flags h_exceptions h_exceptions_priorities h_counter q_memory_size n_memory_words c_asleep c_locked v1 c_memory_words s26 s27 s28 s29 s30 c_exceptions_pending c_exceptions_active c_exceptions_current c_exceptions_masked c_exceptions_priorities c_counter_number c_counter_reload c_counter_on) H := hP
      have hD : va_D A (wd_ThumbCore cI cB cZ h h_memory h_memory_words h_registers h_flags h_exceptions h_exceptions_priorities h_counter q_memory_size n_memory_words c_asleep c_locked v1 c_memory_words s26 s27 s28 s29 s30 c_exceptions_pending c_exceptions_active c_exceptions_current c_exceptions_masked c_exceptions_priorities c_counter_number c_counter_reload c_counter_on) := hD
      refine W.eq (g2 := F0 m 209 ls [.int (bI r25)]) rfl ?_
      exact RET H locs ls 209 (r25, c_asleep, c_locked, v1, c_memory_words, s26, s27, s28, s29, s30, c_exceptions_pending, c_exceptions_active, c_exceptions_current, c_exceptions_masked) d_ThumbCore_perform_209 hP hD hS hq
    have hq := hq.trans (if_neg g_53_4)
    by_cases g_53_5 : (o_iushr v3 11) = 5
    · have hq := hq.trans (if_pos g_53_5)
      refine tc_tabIn (k := 5) (off := 151) (tgt := 204) hx hb d_ThumbCore_perform_53 g_53_5 (by decide) (by decide) (by decide +kernel) (by decide) ?_
      refine lv_aload_n hx hb d_ThumbCore_perform_204 rfl (lv_at hl 1 rfl) ?_
      refine lv_iload_n hx hb d_ThumbCore_perform_205 rfl (lv_at hl 0 rfl) ?_
      refine tc_mz (wo := fun u => (wd_ThumbCore cI cB cZ h h_memory h_memory_words h_registers h_flags h_exceptions h_exceptions_priorities h_counter q_memory_size n_memory_words c_asleep c_locked v1 c_memory_words u.2.1 u.2.2.1 u.2.2.2.1 u.2.2.2.2.1 u.2.2.2.2.2 c_exceptions_pending c_exceptions_active c_exceptions_current c_exceptions_masked c_exceptions_priorities c_counter_number c_counter_reload c_counter_on)) (va_runV (As := [.int v3]) (rest := []) ⟨hx, hb, hml, hown, hts⟩ (c_ThumbCore_withByte l D cI cB cZ h h_memory h_memory_words h_registers h_flags h_exceptions h_exceptions_priorities h_counter H.size q_memory_size n_memory_words c_asleep c_locked v1 c_memory_words c_registers c_flags_negative c_flags_zero c_flags_carry c_flags_overflow c_exceptions_pending c_exceptions_active c_exceptions_current c_exceptions_masked c_exceptions_priorities c_counter_number c_counter_reload c_counter_on v3) (cwV 1 hts (tc_gV wl_ThumbCore_164 wm_ThumbCore_withByte ws_ThumbCore_withByte wi_ThumbCore wc_ThumbCore_withByte) rfl rfl rfl (by decide +kernel) ⟨Nat.le_of_ble_eq_true rfl, Nat.le_of_ble_eq_true rfl⟩) (tc_preV hK hN hP hD [0, 1, 2, 3, 4, 5, 6, 7] rfl (by decide) (q0 := 0) rfl rfl) rfl rfl hl.1 rfl (lv_room (Nat.le_of_ble_eq_true rfl)) d_ThumbCore_perform_206 (by decide)) hP hD hS hA [0, 1, 2, 3, 4, 5, 6, 7] [] [0, 1, 2, 3, 4, 5, 6, 7] rfl rfl (by decide) (by decide) (by decide) (fun _ => rfl) (fun u H locs hu hP hD hS => ?_)
      obtain ⟨r31, s32, s33, s34, s35, s36⟩ := u
      have hq := hq.trans (un6_eq hu _)
      have e_r31 := hu
      have hP : va_P D tcl (wd_ThumbCore cI cB cZ h h_memory h_memory_words h_registers h_flags h_exceptions h_exceptions_priorities h_counter q_memory_size n_memory_words c_asleep c_locked v1 c_memory_words s32 s33 s34 s35 s36 c_exceptions_pending c_exceptions_active c_exceptions_current c_exceptions_masked c_exceptions_priorities c_counter_number c_counter_reload c_counter_on) H := hP
      have hD : va_D A (wd_ThumbCore cI cB cZ h h_memory h_memory_words h_registers h_flags h_exceptions h_exceptions_priorities h_counter q_memory_size n_memory_words c_asleep c_locked v1 c_memory_words s32 s33 s34 s35 s36 c_exceptions_pending c_exceptions_active c_exceptions_current c_exceptions_masked c_exceptions_priorities c_counter_number c_counter_reload c_counter_on) := hD
      refine W.eq (g2 := F0 m 209 ls [.int (bI r31)]) rfl ?_
      exact RET H locs ls 209 (r31, c_asleep, c_locked, v1, c_memory_words, s32, s33, s34, s35, s36, c_exceptions_pending, c_exceptions_active, c_exceptions_current, c_exceptions_masked) d_ThumbCore_perform_209 hP hD hS hq
    have hq := hq.trans (if_neg g_53_5)
    by_cases g_53_6 : (o_iushr v3 11) = 6
    · have hq := hq.trans (if_pos g_53_6)
      refine tc_tabIn (k := 6) (off := 151) (tgt := 204) hx hb d_ThumbCore_perform_53 g_53_6 (by decide) (by decide) (by decide +kernel) (by decide) ?_
      refine lv_aload_n hx hb d_ThumbCore_perform_204 rfl (lv_at hl 1 rfl) ?_
      refine lv_iload_n hx hb d_ThumbCore_perform_205 rfl (lv_at hl 0 rfl) ?_
      refine tc_mz (wo := fun u => (wd_ThumbCore cI cB cZ h h_memory h_memory_words h_registers h_flags h_exceptions h_exceptions_priorities h_counter q_memory_size n_memory_words c_asleep c_locked v1 c_memory_words u.2.1 u.2.2.1 u.2.2.2.1 u.2.2.2.2.1 u.2.2.2.2.2 c_exceptions_pending c_exceptions_active c_exceptions_current c_exceptions_masked c_exceptions_priorities c_counter_number c_counter_reload c_counter_on)) (va_runV (As := [.int v3]) (rest := []) ⟨hx, hb, hml, hown, hts⟩ (c_ThumbCore_withByte l D cI cB cZ h h_memory h_memory_words h_registers h_flags h_exceptions h_exceptions_priorities h_counter H.size q_memory_size n_memory_words c_asleep c_locked v1 c_memory_words c_registers c_flags_negative c_flags_zero c_flags_carry c_flags_overflow c_exceptions_pending c_exceptions_active c_exceptions_current c_exceptions_masked c_exceptions_priorities c_counter_number c_counter_reload c_counter_on v3) (cwV 1 hts (tc_gV wl_ThumbCore_164 wm_ThumbCore_withByte ws_ThumbCore_withByte wi_ThumbCore wc_ThumbCore_withByte) rfl rfl rfl (by decide +kernel) ⟨Nat.le_of_ble_eq_true rfl, Nat.le_of_ble_eq_true rfl⟩) (tc_preV hK hN hP hD [0, 1, 2, 3, 4, 5, 6, 7] rfl (by decide) (q0 := 0) rfl rfl) rfl rfl hl.1 rfl (lv_room (Nat.le_of_ble_eq_true rfl)) d_ThumbCore_perform_206 (by decide)) hP hD hS hA [0, 1, 2, 3, 4, 5, 6, 7] [] [0, 1, 2, 3, 4, 5, 6, 7] rfl rfl (by decide) (by decide) (by decide) (fun _ => rfl) (fun u H locs hu hP hD hS => ?_)
      obtain ⟨r37, s38, s39, s40, s41, s42⟩ := u
      have hq := hq.trans (un6_eq hu _)
      have e_r37 := hu
      have hP : va_P D tcl (wd_ThumbCore cI cB cZ h h_memory h_memory_words h_registers h_flags h_exceptions h_exceptions_priorities h_counter q_memory_size n_memory_words c_asleep c_locked v1 c_memory_words s38 s39 s40 s41 s42 c_exceptions_pending c_exceptions_active c_exceptions_current c_exceptions_masked c_exceptions_priorities c_counter_number c_counter_reload c_counter_on) H := hP
      have hD : va_D A (wd_ThumbCore cI cB cZ h h_memory h_memory_words h_registers h_flags h_exceptions h_exceptions_priorities h_counter q_memory_size n_memory_words c_asleep c_locked v1 c_memory_words s38 s39 s40 s41 s42 c_exceptions_pending c_exceptions_active c_exceptions_current c_exceptions_masked c_exceptions_priorities c_counter_number c_counter_reload c_counter_on) := hD
      refine W.eq (g2 := F0 m 209 ls [.int (bI r37)]) rfl ?_
      exact RET H locs ls 209 (r37, c_asleep, c_locked, v1, c_memory_words, s38, s39, s40, s41, s42, c_exceptions_pending, c_exceptions_active, c_exceptions_current, c_exceptions_masked) d_ThumbCore_perform_209 hP hD hS hq
    have hq := hq.trans (if_neg g_53_6)
    by_cases g_53_7 : (o_iushr v3 11) = 7
    · have hq := hq.trans (if_pos g_53_7)
      refine tc_tabIn (k := 7) (off := 151) (tgt := 204) hx hb d_ThumbCore_perform_53 g_53_7 (by decide) (by decide) (by decide +kernel) (by decide) ?_
      refine lv_aload_n hx hb d_ThumbCore_perform_204 rfl (lv_at hl 1 rfl) ?_
      refine lv_iload_n hx hb d_ThumbCore_perform_205 rfl (lv_at hl 0 rfl) ?_
      refine tc_mz (wo := fun u => (wd_ThumbCore cI cB cZ h h_memory h_memory_words h_registers h_flags h_exceptions h_exceptions_priorities h_counter q_memory_size n_memory_words c_asleep c_locked v1 c_memory_words u.2.1 u.2.2.1 u.2.2.2.1 u.2.2.2.2.1 u.2.2.2.2.2 c_exceptions_pending c_exceptions_active c_exceptions_current c_exceptions_masked c_exceptions_priorities c_counter_number c_counter_reload c_counter_on)) (va_runV (As := [.int v3]) (rest := []) ⟨hx, hb, hml, hown, hts⟩ (c_ThumbCore_withByte l D cI cB cZ h h_memory h_memory_words h_registers h_flags h_exceptions h_exceptions_priorities h_counter H.size q_memory_size n_memory_words c_asleep c_locked v1 c_memory_words c_registers c_flags_negative c_flags_zero c_flags_carry c_flags_overflow c_exceptions_pending c_exceptions_active c_exceptions_current c_exceptions_masked c_exceptions_priorities c_counter_number c_counter_reload c_counter_on v3) (cwV 1 hts (tc_gV wl_ThumbCore_164 wm_ThumbCore_withByte ws_ThumbCore_withByte wi_ThumbCore wc_ThumbCore_withByte) rfl rfl rfl (by decide +kernel) ⟨Nat.le_of_ble_eq_true rfl, Nat.le_of_ble_eq_true rfl⟩) (tc_preV hK hN hP hD [0, 1, 2, 3, 4, 5, 6, 7] rfl (by decide) (q0 := 0) rfl rfl) rfl rfl hl.1 rfl (lv_room (Nat.le_of_ble_eq_true rfl)) d_ThumbCore_perform_206 (by decide)) hP hD hS hA [0, 1, 2, 3, 4, 5, 6, 7] [] [0, 1, 2, 3, 4, 5, 6, 7] rfl rfl (by decide) (by decide) (by decide) (fun _ => rfl) (fun u H locs hu hP hD hS => ?_)
      obtain ⟨r43, s44, s45, s46, s47, s48⟩ := u
      have hq := hq.trans (un6_eq hu _)
      have e_r43 := hu
      have hP : va_P D tcl (wd_ThumbCore cI cB cZ h h_memory h_memory_words h_registers h_flags h_exceptions h_exceptions_priorities h_counter q_memory_size n_memory_words c_asleep c_locked v1 c_memory_words s44 s45 s46 s47 s48 c_exceptions_pending c_exceptions_active c_exceptions_current c_exceptions_masked c_exceptions_priorities c_counter_number c_counter_reload c_counter_on) H := hP
      have hD : va_D A (wd_ThumbCore cI cB cZ h h_memory h_memory_words h_registers h_flags h_exceptions h_exceptions_priorities h_counter q_memory_size n_memory_words c_asleep c_locked v1 c_memory_words s44 s45 s46 s47 s48 c_exceptions_pending c_exceptions_active c_exceptions_current c_exceptions_masked c_exceptions_priorities c_counter_number c_counter_reload c_counter_on) := hD
      refine W.eq (g2 := F0 m 209 ls [.int (bI r43)]) rfl ?_
      exact RET H locs ls 209 (r43, c_asleep, c_locked, v1, c_memory_words, s44, s45, s46, s47, s48, c_exceptions_pending, c_exceptions_active, c_exceptions_current, c_exceptions_masked) d_ThumbCore_perform_209 hP hD hS hq
    have hq := hq.trans (if_neg g_53_7)
    by_cases g_53_8 : (o_iushr v3 11) = 8
    · have hq := hq.trans (if_pos g_53_8)
      refine tc_tabIn (k := 8) (off := 157) (tgt := 210) hx hb d_ThumbCore_perform_53 g_53_8 (by decide) (by decide) (by decide +kernel) (by decide) ?_
      refine lv_iload_n hx hb d_ThumbCore_perform_210 rfl (lv_at hl 0 rfl) ?_
      refine lv_bipush (v := 10) hx hb d_ThumbCore_perform_211 (by decide) ?_
      refine lv_iushr (v := (o_iushr v3 10)) hx hb d_ThumbCore_perform_213 rfl ?_
      refine lv_bipush (v := 16) hx hb d_ThumbCore_perform_214 (by decide) ?_
      refine lv_icmp_ne (tgt := 227) hx hb d_ThumbCore_perform_216 (by decide) (fun g_216 => ?_) (fun g_216 => ?_)
      · have hq := hq.trans (if_pos g_216)
        refine lv_aload_n hx hb d_ThumbCore_perform_227 rfl (lv_at hl 1 rfl) ?_
        refine lv_iload_n hx hb d_ThumbCore_perform_228 rfl (lv_at hl 0 rfl) ?_
        refine tc_mz (wo := fun u => (wd_ThumbCore cI cB cZ h h_memory h_memory_words h_registers h_flags h_exceptions h_exceptions_priorities h_counter q_memory_size n_memory_words c_asleep c_locked u.2.1 c_memory_words u.2.2.1 u.2.2.2.1 u.2.2.2.2.1 u.2.2.2.2.2.1 u.2.2.2.2.2.2.1 c_exceptions_pending u.2.2.2.2.2.2.2.1 u.2.2.2.2.2.2.2.2 c_exceptions_masked c_exceptions_priorities c_counter_number c_counter_reload c_counter_on)) (va_runV (As := [.int v3]) (rest := []) ⟨hx, hb, hml, hown, hts⟩ (c_ThumbCore_withHigh l D cI cB cZ h h_memory h_memory_words h_registers h_flags h_exceptions h_exceptions_priorities h_counter tL H.size q_memory_size n_memory_words c_asleep c_locked v1 c_memory_words c_registers c_flags_negative c_flags_zero c_flags_carry c_flags_overflow c_exceptions_pending c_exceptions_active c_exceptions_current c_exceptions_masked c_exceptions_priorities c_counter_number c_counter_reload c_counter_on v3 hm) (cwV 1 hts (tc_gV wl_ThumbCore_170 wm_ThumbCore_withHigh ws_ThumbCore_withHigh wi_ThumbCore wc_ThumbCore_withHigh) rfl rfl rfl (by decide +kernel) ⟨Nat.le_of_ble_eq_true rfl, Nat.le_of_ble_eq_true rfl⟩) (tc_preVZ hK hN hP hD hS hA hZ [0, 1, 2, 3, 4, 5, 6, 7] rfl (by decide) (q0 := 0) rfl rfl) rfl rfl hl.1 rfl (lv_room (Nat.le_of_ble_eq_true rfl)) d_ThumbCore_perform_229 (by decide)) hP hD hS hA [0, 1, 2, 3, 4, 5, 6, 7] [] [0, 1, 2, 3, 4, 5, 6, 7] rfl rfl (by decide) (by decide) (by decide) (fun _ => rfl) (fun u H locs hu hP hD hS => ?_)
        obtain ⟨r49, s50, s51, s52, s53, s54, s55, s56, s57⟩ := u
        have hq := hq.trans (un9_eq hu _)
        have e_r49 := hu
        have hP : va_P D tcl (wd_ThumbCore cI cB cZ h h_memory h_memory_words h_registers h_flags h_exceptions h_exceptions_priorities h_counter q_memory_size n_memory_words c_asleep c_locked s50 c_memory_words s51 s52 s53 s54 s55 c_exceptions_pending s56 s57 c_exceptions_masked c_exceptions_priorities c_counter_number c_counter_reload c_counter_on) H := hP
        have hD : va_D A (wd_ThumbCore cI cB cZ h h_memory h_memory_words h_registers h_flags h_exceptions h_exceptions_priorities h_counter q_memory_size n_memory_words c_asleep c_locked s50 c_memory_words s51 s52 s53 s54 s55 c_exceptions_pending s56 s57 c_exceptions_masked c_exceptions_priorities c_counter_number c_counter_reload c_counter_on) := hD
        refine W.eq (g2 := F0 m 232 ls [.int (bI r49)]) rfl ?_
        exact RET H locs ls 232 (r49, c_asleep, c_locked, s50, c_memory_words, s51, s52, s53, s54, s55, c_exceptions_pending, s56, s57, c_exceptions_masked) d_ThumbCore_perform_232 hP hD hS hq
      · have hq := hq.trans (if_neg (fun g => g g_216))
        refine lv_aload_n hx hb d_ThumbCore_perform_219 rfl (lv_at hl 1 rfl) ?_
        refine lv_iload_n hx hb d_ThumbCore_perform_220 rfl (lv_at hl 0 rfl) ?_
        refine tc_mz (wo := fun u => (wd_ThumbCore cI cB cZ h h_memory h_memory_words h_registers h_flags h_exceptions h_exceptions_priorities h_counter q_memory_size n_memory_words c_asleep c_locked v1 c_memory_words u.2.1 u.2.2.1 u.2.2.2.1 u.2.2.2.2.1 u.2.2.2.2.2 c_exceptions_pending c_exceptions_active c_exceptions_current c_exceptions_masked c_exceptions_priorities c_counter_number c_counter_reload c_counter_on)) (va_runV (As := [.int v3]) (rest := []) ⟨hx, hb, hml, hown, hts⟩ (c_ThumbCore_combine l D cI cB cZ h h_memory h_memory_words h_registers h_flags h_exceptions h_exceptions_priorities h_counter H.size q_memory_size n_memory_words c_asleep c_locked v1 c_memory_words c_registers c_flags_negative c_flags_zero c_flags_carry c_flags_overflow c_exceptions_pending c_exceptions_active c_exceptions_current c_exceptions_masked c_exceptions_priorities c_counter_number c_counter_reload c_counter_on v3) (cwV 1 hts (tc_gV wl_ThumbCore_167 wm_ThumbCore_combine ws_ThumbCore_combine wi_ThumbCore wc_ThumbCore_combine) rfl rfl rfl (by decide +kernel) ⟨Nat.le_of_ble_eq_true rfl, Nat.le_of_ble_eq_true rfl⟩) (tc_preV hK hN hP hD [0, 1, 2, 3, 4, 5, 6, 7] rfl (by decide) (q0 := 0) rfl rfl) rfl rfl hl.1 rfl (lv_room (Nat.le_of_ble_eq_true rfl)) d_ThumbCore_perform_221 (by decide)) hP hD hS hA [0, 1, 2, 3, 4, 5, 6, 7] [] [0, 1, 2, 3, 4, 5, 6, 7] rfl rfl (by decide) (by decide) (by decide) (fun _ => rfl) (fun u H locs hu hP hD hS => ?_)
        obtain ⟨r58, s59, s60, s61, s62, s63⟩ := u
        have hq := hq.trans (un6_eq hu _)
        have e_r58 := hu
        have hP : va_P D tcl (wd_ThumbCore cI cB cZ h h_memory h_memory_words h_registers h_flags h_exceptions h_exceptions_priorities h_counter q_memory_size n_memory_words c_asleep c_locked v1 c_memory_words s59 s60 s61 s62 s63 c_exceptions_pending c_exceptions_active c_exceptions_current c_exceptions_masked c_exceptions_priorities c_counter_number c_counter_reload c_counter_on) H := hP
        have hD : va_D A (wd_ThumbCore cI cB cZ h h_memory h_memory_words h_registers h_flags h_exceptions h_exceptions_priorities h_counter q_memory_size n_memory_words c_asleep c_locked v1 c_memory_words s59 s60 s61 s62 s63 c_exceptions_pending c_exceptions_active c_exceptions_current c_exceptions_masked c_exceptions_priorities c_counter_number c_counter_reload c_counter_on) := hD
        refine W.eq (g2 := F0 m 224 ls [.int (bI r58)]) rfl ?_
        refine lv_goto (tgt := 232) hx hb d_ThumbCore_perform_224 (by decide) ?_
        exact RET H locs ls 232 (r58, c_asleep, c_locked, v1, c_memory_words, s59, s60, s61, s62, s63, c_exceptions_pending, c_exceptions_active, c_exceptions_current, c_exceptions_masked) d_ThumbCore_perform_232 hP hD hS hq
    have hq := hq.trans (if_neg g_53_8)
    by_cases g_53_9 : (o_iushr v3 11) = 9
    · have hq := hq.trans (if_pos g_53_9)
      refine tc_tabIn (k := 9) (off := 180) (tgt := 233) hx hb d_ThumbCore_perform_53 g_53_9 (by decide) (by decide) (by decide +kernel) (by decide) ?_
      refine lv_aload_n hx hb d_ThumbCore_perform_233 rfl (lv_at hl 1 rfl) ?_
      refine lv_iload_n hx hb d_ThumbCore_perform_234 rfl (lv_at hl 0 rfl) ?_
      refine tc_mz (wo := fun u => (wd_ThumbCore cI cB cZ h h_memory h_memory_words h_registers h_flags h_exceptions h_exceptions_priorities h_counter q_memory_size n_memory_words c_asleep c_locked v1 u.2.1 u.2.2 c_flags_negative c_flags_zero c_flags_carry c_flags_overflow c_exceptions_pending c_exceptions_active c_exceptions_current c_exceptions_masked c_exceptions_priorities c_counter_number c_counter_reload c_counter_on)) (va_runV (As := [.int v3]) (rest := []) ⟨hx, hb, hml, hown, hts⟩ (c_ThumbCore_fromBase l D cI cB cZ h h_memory h_memory_words h_registers h_flags h_exceptions h_exceptions_priorities h_counter H.size q_memory_size n_memory_words c_asleep c_locked v1 c_memory_words c_registers c_flags_negative c_flags_zero c_flags_carry c_flags_overflow c_exceptions_pending c_exceptions_active c_exceptions_current c_exceptions_masked c_exceptions_priorities c_counter_number c_counter_reload c_counter_on v3 hm) (cwV 1 hts (tc_gV wl_ThumbCore_173 wm_ThumbCore_fromBase ws_ThumbCore_fromBase wi_ThumbCore wc_ThumbCore_fromBase) rfl rfl rfl (by decide +kernel) ⟨Nat.le_of_ble_eq_true rfl, Nat.le_of_ble_eq_true rfl⟩) (tc_preV hK hN hP hD [0, 1, 2, 3, 4, 5, 6, 7] rfl (by decide) (q0 := 0) rfl rfl) rfl rfl hl.1 rfl (lv_room (Nat.le_of_ble_eq_true rfl)) d_ThumbCore_perform_235 (by decide)) hP hD hS hA [0, 1, 2, 3, 4, 5, 6, 7] [] [0, 1, 2, 3, 4, 5, 6, 7] rfl rfl (by decide) (by decide) (by decide) (fun _ => rfl) (fun u H locs hu hP hD hS => ?_)
      obtain ⟨r64, s65, s66⟩ := u
      have hq := hq.trans (un3_eq hu _)
      have e_r64 := hu
      have hP : va_P D tcl (wd_ThumbCore cI cB cZ h h_memory h_memory_words h_registers h_flags h_exceptions h_exceptions_priorities h_counter q_memory_size n_memory_words c_asleep c_locked v1 s65 s66 c_flags_negative c_flags_zero c_flags_carry c_flags_overflow c_exceptions_pending c_exceptions_active c_exceptions_current c_exceptions_masked c_exceptions_priorities c_counter_number c_counter_reload c_counter_on) H := hP
      have hD : va_D A (wd_ThumbCore cI cB cZ h h_memory h_memory_words h_registers h_flags h_exceptions h_exceptions_priorities h_counter q_memory_size n_memory_words c_asleep c_locked v1 s65 s66 c_flags_negative c_flags_zero c_flags_carry c_flags_overflow c_exceptions_pending c_exceptions_active c_exceptions_current c_exceptions_masked c_exceptions_priorities c_counter_number c_counter_reload c_counter_on) := hD
      refine W.eq (g2 := F0 m 238 ls [.int (bI r64)]) rfl ?_
      exact RET H locs ls 238 (r64, c_asleep, c_locked, v1, s65, s66, c_flags_negative, c_flags_zero, c_flags_carry, c_flags_overflow, c_exceptions_pending, c_exceptions_active, c_exceptions_current, c_exceptions_masked) d_ThumbCore_perform_238 hP hD hS hq
    have hq := hq.trans (if_neg g_53_9)
    by_cases g_53_10 : (o_iushr v3 11) = 10
    · have hq := hq.trans (if_pos g_53_10)
      refine tc_tabIn (k := 10) (off := 186) (tgt := 239) hx hb d_ThumbCore_perform_53 g_53_10 (by decide) (by decide) (by decide +kernel) (by decide) ?_
      refine lv_aload_n hx hb d_ThumbCore_perform_239 rfl (lv_at hl 1 rfl) ?_
      refine lv_iload_n hx hb d_ThumbCore_perform_240 rfl (lv_at hl 0 rfl) ?_
      refine tc_mz (wo := fun u => (wd_ThumbCore cI cB cZ h h_memory h_memory_words h_registers h_flags h_exceptions h_exceptions_priorities h_counter q_memory_size n_memory_words c_asleep c_locked v1 u.2.1 u.2.2 c_flags_negative c_flags_zero c_flags_carry c_flags_overflow c_exceptions_pending c_exceptions_active c_exceptions_current c_exceptions_masked c_exceptions_priorities c_counter_number c_counter_reload c_counter_on)) (va_runV (As := [.int v3]) (rest := []) ⟨hx, hb, hml, hown, hts⟩ (c_ThumbCore_atSum l D cI cB cZ h h_memory h_memory_words h_registers h_flags h_exceptions h_exceptions_priorities h_counter H.size q_memory_size n_memory_words c_asleep c_locked v1 c_memory_words c_registers c_flags_negative c_flags_zero c_flags_carry c_flags_overflow c_exceptions_pending c_exceptions_active c_exceptions_current c_exceptions_masked c_exceptions_priorities c_counter_number c_counter_reload c_counter_on v3 hm) (cwV 1 hts (tc_gV wl_ThumbCore_176 wm_ThumbCore_atSum ws_ThumbCore_atSum wi_ThumbCore wc_ThumbCore_atSum) rfl rfl rfl (by decide +kernel) ⟨Nat.le_of_ble_eq_true rfl, Nat.le_of_ble_eq_true rfl⟩) (tc_preV hK hN hP hD [0, 1, 2, 3, 4, 5, 6, 7] rfl (by decide) (q0 := 0) rfl rfl) rfl rfl hl.1 rfl (lv_room (Nat.le_of_ble_eq_true rfl)) d_ThumbCore_perform_241 (by decide)) hP hD hS hA [0, 1, 2, 3, 4, 5, 6, 7] [] [0, 1, 2, 3, 4, 5, 6, 7] rfl rfl (by decide) (by decide) (by decide) (fun _ => rfl) (fun u H locs hu hP hD hS => ?_)
      obtain ⟨r67, s68, s69⟩ := u
      have hq := hq.trans (un3_eq hu _)
      have e_r67 := hu
      have hP : va_P D tcl (wd_ThumbCore cI cB cZ h h_memory h_memory_words h_registers h_flags h_exceptions h_exceptions_priorities h_counter q_memory_size n_memory_words c_asleep c_locked v1 s68 s69 c_flags_negative c_flags_zero c_flags_carry c_flags_overflow c_exceptions_pending c_exceptions_active c_exceptions_current c_exceptions_masked c_exceptions_priorities c_counter_number c_counter_reload c_counter_on) H := hP
      have hD : va_D A (wd_ThumbCore cI cB cZ h h_memory h_memory_words h_registers h_flags h_exceptions h_exceptions_priorities h_counter q_memory_size n_memory_words c_asleep c_locked v1 s68 s69 c_flags_negative c_flags_zero c_flags_carry c_flags_overflow c_exceptions_pending c_exceptions_active c_exceptions_current c_exceptions_masked c_exceptions_priorities c_counter_number c_counter_reload c_counter_on) := hD
      refine W.eq (g2 := F0 m 244 ls [.int (bI r67)]) rfl ?_
      exact RET H locs ls 244 (r67, c_asleep, c_locked, v1, s68, s69, c_flags_negative, c_flags_zero, c_flags_carry, c_flags_overflow, c_exceptions_pending, c_exceptions_active, c_exceptions_current, c_exceptions_masked) d_ThumbCore_perform_244 hP hD hS hq
    have hq := hq.trans (if_neg g_53_10)
    by_cases g_53_11 : (o_iushr v3 11) = 11
    · have hq := hq.trans (if_pos g_53_11)
      refine tc_tabIn (k := 11) (off := 186) (tgt := 239) hx hb d_ThumbCore_perform_53 g_53_11 (by decide) (by decide) (by decide +kernel) (by decide) ?_
      refine lv_aload_n hx hb d_ThumbCore_perform_239 rfl (lv_at hl 1 rfl) ?_
      refine lv_iload_n hx hb d_ThumbCore_perform_240 rfl (lv_at hl 0 rfl) ?_
      refine tc_mz (wo := fun u => (wd_ThumbCore cI cB cZ h h_memory h_memory_words h_registers h_flags h_exceptions h_exceptions_priorities h_counter q_memory_size n_memory_words c_asleep c_locked v1 u.2.1 u.2.2 c_flags_negative c_flags_zero c_flags_carry c_flags_overflow c_exceptions_pending c_exceptions_active c_exceptions_current c_exceptions_masked c_exceptions_priorities c_counter_number c_counter_reload c_counter_on)) (va_runV (As := [.int v3]) (rest := []) ⟨hx, hb, hml, hown, hts⟩ (c_ThumbCore_atSum l D cI cB cZ h h_memory h_memory_words h_registers h_flags h_exceptions h_exceptions_priorities h_counter H.size q_memory_size n_memory_words c_asleep c_locked v1 c_memory_words c_registers c_flags_negative c_flags_zero c_flags_carry c_flags_overflow c_exceptions_pending c_exceptions_active c_exceptions_current c_exceptions_masked c_exceptions_priorities c_counter_number c_counter_reload c_counter_on v3 hm) (cwV 1 hts (tc_gV wl_ThumbCore_176 wm_ThumbCore_atSum ws_ThumbCore_atSum wi_ThumbCore wc_ThumbCore_atSum) rfl rfl rfl (by decide +kernel) ⟨Nat.le_of_ble_eq_true rfl, Nat.le_of_ble_eq_true rfl⟩) (tc_preV hK hN hP hD [0, 1, 2, 3, 4, 5, 6, 7] rfl (by decide) (q0 := 0) rfl rfl) rfl rfl hl.1 rfl (lv_room (Nat.le_of_ble_eq_true rfl)) d_ThumbCore_perform_241 (by decide)) hP hD hS hA [0, 1, 2, 3, 4, 5, 6, 7] [] [0, 1, 2, 3, 4, 5, 6, 7] rfl rfl (by decide) (by decide) (by decide) (fun _ => rfl) (fun u H locs hu hP hD hS => ?_)
      obtain ⟨r70, s71, s72⟩ := u
      have hq := hq.trans (un3_eq hu _)
      have e_r70 := hu
      have hP : va_P D tcl (wd_ThumbCore cI cB cZ h h_memory h_memory_words h_registers h_flags h_exceptions h_exceptions_priorities h_counter q_memory_size n_memory_words c_asleep c_locked v1 s71 s72 c_flags_negative c_flags_zero c_flags_carry c_flags_overflow c_exceptions_pending c_exceptions_active c_exceptions_current c_exceptions_masked c_exceptions_priorities c_counter_number c_counter_reload c_counter_on) H := hP
      have hD : va_D A (wd_ThumbCore cI cB cZ h h_memory h_memory_words h_registers h_flags h_exceptions h_exceptions_priorities h_counter q_memory_size n_memory_words c_asleep c_locked v1 s71 s72 c_flags_negative c_flags_zero c_flags_carry c_flags_overflow c_exceptions_pending c_exceptions_active c_exceptions_current c_exceptions_masked c_exceptions_priorities c_counter_number c_counter_reload c_counter_on) := hD
      refine W.eq (g2 := F0 m 244 ls [.int (bI r70)]) rfl ?_
      exact RET H locs ls 244 (r70, c_asleep, c_locked, v1, s71, s72, c_flags_negative, c_flags_zero, c_flags_carry, c_flags_overflow, c_exceptions_pending, c_exceptions_active, c_exceptions_current, c_exceptions_masked) d_ThumbCore_perform_244 hP hD hS hq
    have hq := hq.trans (if_neg g_53_11)
    by_cases g_53_12 : (o_iushr v3 11) = 12
    · have hq := hq.trans (if_pos g_53_12)
      refine tc_tabIn (k := 12) (off := 192) (tgt := 245) hx hb d_ThumbCore_perform_53 g_53_12 (by decide) (by decide) (by decide +kernel) (by decide) ?_
      refine lv_aload_n hx hb d_ThumbCore_perform_245 rfl (lv_at hl 1 rfl) ?_
      refine lv_iload_n hx hb d_ThumbCore_perform_246 rfl (lv_at hl 0 rfl) ?_
      refine tc_mz (wo := fun u => (wd_ThumbCore cI cB cZ h h_memory h_memory_words h_registers h_flags h_exceptions h_exceptions_priorities h_counter q_memory_size n_memory_words c_asleep c_locked v1 u.2.1 u.2.2 c_flags_negative c_flags_zero c_flags_carry c_flags_overflow c_exceptions_pending c_exceptions_active c_exceptions_current c_exceptions_masked c_exceptions_priorities c_counter_number c_counter_reload c_counter_on)) (va_runV (As := [.int v3]) (rest := []) ⟨hx, hb, hml, hown, hts⟩ (c_ThumbCore_atOffset l D cI cB cZ h h_memory h_memory_words h_registers h_flags h_exceptions h_exceptions_priorities h_counter H.size q_memory_size n_memory_words c_asleep c_locked v1 c_memory_words c_registers c_flags_negative c_flags_zero c_flags_carry c_flags_overflow c_exceptions_pending c_exceptions_active c_exceptions_current c_exceptions_masked c_exceptions_priorities c_counter_number c_counter_reload c_counter_on v3 hm) (cwV 1 hts (tc_gV wl_ThumbCore_179 wm_ThumbCore_atOffset ws_ThumbCore_atOffset wi_ThumbCore wc_ThumbCore_atOffset) rfl rfl rfl (by decide +kernel) ⟨Nat.le_of_ble_eq_true rfl, Nat.le_of_ble_eq_true rfl⟩) (tc_preV hK hN hP hD [0, 1, 2, 3, 4, 5, 6, 7] rfl (by decide) (q0 := 0) rfl rfl) rfl rfl hl.1 rfl (lv_room (Nat.le_of_ble_eq_true rfl)) d_ThumbCore_perform_247 (by decide)) hP hD hS hA [0, 1, 2, 3, 4, 5, 6, 7] [] [0, 1, 2, 3, 4, 5, 6, 7] rfl rfl (by decide) (by decide) (by decide) (fun _ => rfl) (fun u H locs hu hP hD hS => ?_)
      obtain ⟨r73, s74, s75⟩ := u
      have hq := hq.trans (un3_eq hu _)
      have e_r73 := hu
      have hP : va_P D tcl (wd_ThumbCore cI cB cZ h h_memory h_memory_words h_registers h_flags h_exceptions h_exceptions_priorities h_counter q_memory_size n_memory_words c_asleep c_locked v1 s74 s75 c_flags_negative c_flags_zero c_flags_carry c_flags_overflow c_exceptions_pending c_exceptions_active c_exceptions_current c_exceptions_masked c_exceptions_priorities c_counter_number c_counter_reload c_counter_on) H := hP
      have hD : va_D A (wd_ThumbCore cI cB cZ h h_memory h_memory_words h_registers h_flags h_exceptions h_exceptions_priorities h_counter q_memory_size n_memory_words c_asleep c_locked v1 s74 s75 c_flags_negative c_flags_zero c_flags_carry c_flags_overflow c_exceptions_pending c_exceptions_active c_exceptions_current c_exceptions_masked c_exceptions_priorities c_counter_number c_counter_reload c_counter_on) := hD
      refine W.eq (g2 := F0 m 250 ls [.int (bI r73)]) rfl ?_
      exact RET H locs ls 250 (r73, c_asleep, c_locked, v1, s74, s75, c_flags_negative, c_flags_zero, c_flags_carry, c_flags_overflow, c_exceptions_pending, c_exceptions_active, c_exceptions_current, c_exceptions_masked) d_ThumbCore_perform_250 hP hD hS hq
    have hq := hq.trans (if_neg g_53_12)
    by_cases g_53_13 : (o_iushr v3 11) = 13
    · have hq := hq.trans (if_pos g_53_13)
      refine tc_tabIn (k := 13) (off := 192) (tgt := 245) hx hb d_ThumbCore_perform_53 g_53_13 (by decide) (by decide) (by decide +kernel) (by decide) ?_
      refine lv_aload_n hx hb d_ThumbCore_perform_245 rfl (lv_at hl 1 rfl) ?_
      refine lv_iload_n hx hb d_ThumbCore_perform_246 rfl (lv_at hl 0 rfl) ?_
      refine tc_mz (wo := fun u => (wd_ThumbCore cI cB cZ h h_memory h_memory_words h_registers h_flags h_exceptions h_exceptions_priorities h_counter q_memory_size n_memory_words c_asleep c_locked v1 u.2.1 u.2.2 c_flags_negative c_flags_zero c_flags_carry c_flags_overflow c_exceptions_pending c_exceptions_active c_exceptions_current c_exceptions_masked c_exceptions_priorities c_counter_number c_counter_reload c_counter_on)) (va_runV (As := [.int v3]) (rest := []) ⟨hx, hb, hml, hown, hts⟩ (c_ThumbCore_atOffset l D cI cB cZ h h_memory h_memory_words h_registers h_flags h_exceptions h_exceptions_priorities h_counter H.size q_memory_size n_memory_words c_asleep c_locked v1 c_memory_words c_registers c_flags_negative c_flags_zero c_flags_carry c_flags_overflow c_exceptions_pending c_exceptions_active c_exceptions_current c_exceptions_masked c_exceptions_priorities c_counter_number c_counter_reload c_counter_on v3 hm) (cwV 1 hts (tc_gV wl_ThumbCore_179 wm_ThumbCore_atOffset ws_ThumbCore_atOffset wi_ThumbCore wc_ThumbCore_atOffset) rfl rfl rfl (by decide +kernel) ⟨Nat.le_of_ble_eq_true rfl, Nat.le_of_ble_eq_true rfl⟩) (tc_preV hK hN hP hD [0, 1, 2, 3, 4, 5, 6, 7] rfl (by decide) (q0 := 0) rfl rfl) rfl rfl hl.1 rfl (lv_room (Nat.le_of_ble_eq_true rfl)) d_ThumbCore_perform_247 (by decide)) hP hD hS hA [0, 1, 2, 3, 4, 5, 6, 7] [] [0, 1, 2, 3, 4, 5, 6, 7] rfl rfl (by decide) (by decide) (by decide) (fun _ => rfl) (fun u H locs hu hP hD hS => ?_)
      obtain ⟨r76, s77, s78⟩ := u
      have hq := hq.trans (un3_eq hu _)
      have e_r76 := hu
      have hP : va_P D tcl (wd_ThumbCore cI cB cZ h h_memory h_memory_words h_registers h_flags h_exceptions h_exceptions_priorities h_counter q_memory_size n_memory_words c_asleep c_locked v1 s77 s78 c_flags_negative c_flags_zero c_flags_carry c_flags_overflow c_exceptions_pending c_exceptions_active c_exceptions_current c_exceptions_masked c_exceptions_priorities c_counter_number c_counter_reload c_counter_on) H := hP
      have hD : va_D A (wd_ThumbCore cI cB cZ h h_memory h_memory_words h_registers h_flags h_exceptions h_exceptions_priorities h_counter q_memory_size n_memory_words c_asleep c_locked v1 s77 s78 c_flags_negative c_flags_zero c_flags_carry c_flags_overflow c_exceptions_pending c_exceptions_active c_exceptions_current c_exceptions_masked c_exceptions_priorities c_counter_number c_counter_reload c_counter_on) := hD
      refine W.eq (g2 := F0 m 250 ls [.int (bI r76)]) rfl ?_
      exact RET H locs ls 250 (r76, c_asleep, c_locked, v1, s77, s78, c_flags_negative, c_flags_zero, c_flags_carry, c_flags_overflow, c_exceptions_pending, c_exceptions_active, c_exceptions_current, c_exceptions_masked) d_ThumbCore_perform_250 hP hD hS hq
    have hq := hq.trans (if_neg g_53_13)
    by_cases g_53_14 : (o_iushr v3 11) = 14
    · have hq := hq.trans (if_pos g_53_14)
      refine tc_tabIn (k := 14) (off := 192) (tgt := 245) hx hb d_ThumbCore_perform_53 g_53_14 (by decide) (by decide) (by decide +kernel) (by decide) ?_
      refine lv_aload_n hx hb d_ThumbCore_perform_245 rfl (lv_at hl 1 rfl) ?_
      refine lv_iload_n hx hb d_ThumbCore_perform_246 rfl (lv_at hl 0 rfl) ?_
      refine tc_mz (wo := fun u => (wd_ThumbCore cI cB cZ h h_memory h_memory_words h_registers h_flags h_exceptions h_exceptions_priorities h_counter q_memory_size n_memory_words c_asleep c_locked v1 u.2.1 u.2.2 c_flags_negative c_flags_zero c_flags_carry c_flags_overflow c_exceptions_pending c_exceptions_active c_exceptions_current c_exceptions_masked c_exceptions_priorities c_counter_number c_counter_reload c_counter_on)) (va_runV (As := [.int v3]) (rest := []) ⟨hx, hb, hml, hown, hts⟩ (c_ThumbCore_atOffset l D cI cB cZ h h_memory h_memory_words h_registers h_flags h_exceptions h_exceptions_priorities h_counter H.size q_memory_size n_memory_words c_asleep c_locked v1 c_memory_words c_registers c_flags_negative c_flags_zero c_flags_carry c_flags_overflow c_exceptions_pending c_exceptions_active c_exceptions_current c_exceptions_masked c_exceptions_priorities c_counter_number c_counter_reload c_counter_on v3 hm) (cwV 1 hts (tc_gV wl_ThumbCore_179 wm_ThumbCore_atOffset ws_ThumbCore_atOffset wi_ThumbCore wc_ThumbCore_atOffset) rfl rfl rfl (by decide +kernel) ⟨Nat.le_of_ble_eq_true rfl, Nat.le_of_ble_eq_true rfl⟩) (tc_preV hK hN hP hD [0, 1, 2, 3, 4, 5, 6, 7] rfl (by decide) (q0 := 0) rfl rfl) rfl rfl hl.1 rfl (lv_room (Nat.le_of_ble_eq_true rfl)) d_ThumbCore_perform_247 (by decide)) hP hD hS hA [0, 1, 2, 3, 4, 5, 6, 7] [] [0, 1, 2, 3, 4, 5, 6, 7] rfl rfl (by decide) (by decide) (by decide) (fun _ => rfl) (fun u H locs hu hP hD hS => ?_)
      obtain ⟨r79, s80, s81⟩ := u
      have hq := hq.trans (un3_eq hu _)
      have e_r79 := hu
      have hP : va_P D tcl (wd_ThumbCore cI cB cZ h h_memory h_memory_words h_registers h_flags h_exceptions h_exceptions_priorities h_counter q_memory_size n_memory_words c_asleep c_locked v1 s80 s81 c_flags_negative c_flags_zero c_flags_carry c_flags_overflow c_exceptions_pending c_exceptions_active c_exceptions_current c_exceptions_masked c_exceptions_priorities c_counter_number c_counter_reload c_counter_on) H := hP
      have hD : va_D A (wd_ThumbCore cI cB cZ h h_memory h_memory_words h_registers h_flags h_exceptions h_exceptions_priorities h_counter q_memory_size n_memory_words c_asleep c_locked v1 s80 s81 c_flags_negative c_flags_zero c_flags_carry c_flags_overflow c_exceptions_pending c_exceptions_active c_exceptions_current c_exceptions_masked c_exceptions_priorities c_counter_number c_counter_reload c_counter_on) := hD
      refine W.eq (g2 := F0 m 250 ls [.int (bI r79)]) rfl ?_
      exact RET H locs ls 250 (r79, c_asleep, c_locked, v1, s80, s81, c_flags_negative, c_flags_zero, c_flags_carry, c_flags_overflow, c_exceptions_pending, c_exceptions_active, c_exceptions_current, c_exceptions_masked) d_ThumbCore_perform_250 hP hD hS hq
    have hq := hq.trans (if_neg g_53_14)
    by_cases g_53_15 : (o_iushr v3 11) = 15
    · have hq := hq.trans (if_pos g_53_15)
      refine tc_tabIn (k := 15) (off := 192) (tgt := 245) hx hb d_ThumbCore_perform_53 g_53_15 (by decide) (by decide) (by decide +kernel) (by decide) ?_
      refine lv_aload_n hx hb d_ThumbCore_perform_245 rfl (lv_at hl 1 rfl) ?_
      refine lv_iload_n hx hb d_ThumbCore_perform_246 rfl (lv_at hl 0 rfl) ?_
      refine tc_mz (wo := fun u => (wd_ThumbCore cI cB cZ h h_memory h_memory_words h_registers h_flags h_exceptions h_exceptions_priorities h_counter q_memory_size n_memory_words c_asleep c_locked v1 u.2.1 u.2.2 c_flags_negative c_flags_zero c_flags_carry c_flags_overflow c_exceptions_pending c_exceptions_active c_exceptions_current c_exceptions_masked c_exceptions_priorities c_counter_number c_counter_reload c_counter_on)) (va_runV (As := [.int v3]) (rest := []) ⟨hx, hb, hml, hown, hts⟩ (c_ThumbCore_atOffset l D cI cB cZ h h_memory h_memory_words h_registers h_flags h_exceptions h_exceptions_priorities h_counter H.size q_memory_size n_memory_words c_asleep c_locked v1 c_memory_words c_registers c_flags_negative c_flags_zero c_flags_carry c_flags_overflow c_exceptions_pending c_exceptions_active c_exceptions_current c_exceptions_masked c_exceptions_priorities c_counter_number c_counter_reload c_counter_on v3 hm) (cwV 1 hts (tc_gV wl_ThumbCore_179 wm_ThumbCore_atOffset ws_ThumbCore_atOffset wi_ThumbCore wc_ThumbCore_atOffset) rfl rfl rfl (by decide +kernel) ⟨Nat.le_of_ble_eq_true rfl, Nat.le_of_ble_eq_true rfl⟩) (tc_preV hK hN hP hD [0, 1, 2, 3, 4, 5, 6, 7] rfl (by decide) (q0 := 0) rfl rfl) rfl rfl hl.1 rfl (lv_room (Nat.le_of_ble_eq_true rfl)) d_ThumbCore_perform_247 (by decide)) hP hD hS hA [0, 1, 2, 3, 4, 5, 6, 7] [] [0, 1, 2, 3, 4, 5, 6, 7] rfl rfl (by decide) (by decide) (by decide) (fun _ => rfl) (fun u H locs hu hP hD hS => ?_)
      obtain ⟨r82, s83, s84⟩ := u
      have hq := hq.trans (un3_eq hu _)
      have e_r82 := hu
      have hP : va_P D tcl (wd_ThumbCore cI cB cZ h h_memory h_memory_words h_registers h_flags h_exceptions h_exceptions_priorities h_counter q_memory_size n_memory_words c_asleep c_locked v1 s83 s84 c_flags_negative c_flags_zero c_flags_carry c_flags_overflow c_exceptions_pending c_exceptions_active c_exceptions_current c_exceptions_masked c_exceptions_priorities c_counter_number c_counter_reload c_counter_on) H := hP
      have hD : va_D A (wd_ThumbCore cI cB cZ h h_memory h_memory_words h_registers h_flags h_exceptions h_exceptions_priorities h_counter q_memory_size n_memory_words c_asleep c_locked v1 s83 s84 c_flags_negative c_flags_zero c_flags_carry c_flags_overflow c_exceptions_pending c_exceptions_active c_exceptions_current c_exceptions_masked c_exceptions_priorities c_counter_number c_counter_reload c_counter_on) := hD
      refine W.eq (g2 := F0 m 250 ls [.int (bI r82)]) rfl ?_
      exact RET H locs ls 250 (r82, c_asleep, c_locked, v1, s83, s84, c_flags_negative, c_flags_zero, c_flags_carry, c_flags_overflow, c_exceptions_pending, c_exceptions_active, c_exceptions_current, c_exceptions_masked) d_ThumbCore_perform_250 hP hD hS hq
    have hq := hq.trans (if_neg g_53_15)
    by_cases g_53_16 : (o_iushr v3 11) = 16
    · have hq := hq.trans (if_pos g_53_16)
      refine tc_tabIn (k := 16) (off := 192) (tgt := 245) hx hb d_ThumbCore_perform_53 g_53_16 (by decide) (by decide) (by decide +kernel) (by decide) ?_
      refine lv_aload_n hx hb d_ThumbCore_perform_245 rfl (lv_at hl 1 rfl) ?_
      refine lv_iload_n hx hb d_ThumbCore_perform_246 rfl (lv_at hl 0 rfl) ?_
      refine tc_mz (wo := fun u => (wd_ThumbCore cI cB cZ h h_memory h_memory_words h_registers h_flags h_exceptions h_exceptions_priorities h_counter q_memory_size n_memory_words c_asleep c_locked v1 u.2.1 u.2.2 c_flags_negative c_flags_zero c_flags_carry c_flags_overflow c_exceptions_pending c_exceptions_active c_exceptions_current c_exceptions_masked c_exceptions_priorities c_counter_number c_counter_reload c_counter_on)) (va_runV (As := [.int v3]) (rest := []) ⟨hx, hb, hml, hown, hts⟩ (c_ThumbCore_atOffset l D cI cB cZ h h_memory h_memory_words h_registers h_flags h_exceptions h_exceptions_priorities h_counter H.size q_memory_size n_memory_words c_asleep c_locked v1 c_memory_words c_registers c_flags_negative c_flags_zero c_flags_carry c_flags_overflow c_exceptions_pending c_exceptions_active c_exceptions_current c_exceptions_masked c_exceptions_priorities c_counter_number c_counter_reload c_counter_on v3 hm) (cwV 1 hts (tc_gV wl_ThumbCore_179 wm_ThumbCore_atOffset ws_ThumbCore_atOffset wi_ThumbCore wc_ThumbCore_atOffset) rfl rfl rfl (by decide +kernel) ⟨Nat.le_of_ble_eq_true rfl, Nat.le_of_ble_eq_true rfl⟩) (tc_preV hK hN hP hD [0, 1, 2, 3, 4, 5, 6, 7] rfl (by decide) (q0 := 0) rfl rfl) rfl rfl hl.1 rfl (lv_room (Nat.le_of_ble_eq_true rfl)) d_ThumbCore_perform_247 (by decide)) hP hD hS hA [0, 1, 2, 3, 4, 5, 6, 7] [] [0, 1, 2, 3, 4, 5, 6, 7] rfl rfl (by decide) (by decide) (by decide) (fun _ => rfl) (fun u H locs hu hP hD hS => ?_)
      obtain ⟨r85, s86, s87⟩ := u
      have hq := hq.trans (un3_eq hu _)
      have e_r85 := hu
      have hP : va_P D tcl (wd_ThumbCore cI cB cZ h h_memory h_memory_words h_registers h_flags h_exceptions h_exceptions_priorities h_counter q_memory_size n_memory_words c_asleep c_locked v1 s86 s87 c_flags_negative c_flags_zero c_flags_carry c_flags_overflow c_exceptions_pending c_exceptions_active c_exceptions_current c_exceptions_masked c_exceptions_priorities c_counter_number c_counter_reload c_counter_on) H := hP
      have hD : va_D A (wd_ThumbCore cI cB cZ h h_memory h_memory_words h_registers h_flags h_exceptions h_exceptions_priorities h_counter q_memory_size n_memory_words c_asleep c_locked v1 s86 s87 c_flags_negative c_flags_zero c_flags_carry c_flags_overflow c_exceptions_pending c_exceptions_active c_exceptions_current c_exceptions_masked c_exceptions_priorities c_counter_number c_counter_reload c_counter_on) := hD
      refine W.eq (g2 := F0 m 250 ls [.int (bI r85)]) rfl ?_
      exact RET H locs ls 250 (r85, c_asleep, c_locked, v1, s86, s87, c_flags_negative, c_flags_zero, c_flags_carry, c_flags_overflow, c_exceptions_pending, c_exceptions_active, c_exceptions_current, c_exceptions_masked) d_ThumbCore_perform_250 hP hD hS hq
    have hq := hq.trans (if_neg g_53_16)
    by_cases g_53_17 : (o_iushr v3 11) = 17
    · have hq := hq.trans (if_pos g_53_17)
      refine tc_tabIn (k := 17) (off := 192) (tgt := 245) hx hb d_ThumbCore_perform_53 g_53_17 (by decide) (by decide) (by decide +kernel) (by decide) ?_
      refine lv_aload_n hx hb d_ThumbCore_perform_245 rfl (lv_at hl 1 rfl) ?_
      refine lv_iload_n hx hb d_ThumbCore_perform_246 rfl (lv_at hl 0 rfl) ?_
      refine tc_mz (wo := fun u => (wd_ThumbCore cI cB cZ h h_memory h_memory_words h_registers h_flags h_exceptions h_exceptions_priorities h_counter q_memory_size n_memory_words c_asleep c_locked v1 u.2.1 u.2.2 c_flags_negative c_flags_zero c_flags_carry c_flags_overflow c_exceptions_pending c_exceptions_active c_exceptions_current c_exceptions_masked c_exceptions_priorities c_counter_number c_counter_reload c_counter_on)) (va_runV (As := [.int v3]) (rest := []) ⟨hx, hb, hml, hown, hts⟩ (c_ThumbCore_atOffset l D cI cB cZ h h_memory h_memory_words h_registers h_flags h_exceptions h_exceptions_priorities h_counter H.size q_memory_size n_memory_words c_asleep c_locked v1 c_memory_words c_registers c_flags_negative c_flags_zero c_flags_carry c_flags_overflow c_exceptions_pending c_exceptions_active c_exceptions_current c_exceptions_masked c_exceptions_priorities c_counter_number c_counter_reload c_counter_on v3 hm) (cwV 1 hts (tc_gV wl_ThumbCore_179 wm_ThumbCore_atOffset ws_ThumbCore_atOffset wi_ThumbCore wc_ThumbCore_atOffset) rfl rfl rfl (by decide +kernel) ⟨Nat.le_of_ble_eq_true rfl, Nat.le_of_ble_eq_true rfl⟩) (tc_preV hK hN hP hD [0, 1, 2, 3, 4, 5, 6, 7] rfl (by decide) (q0 := 0) rfl rfl) rfl rfl hl.1 rfl (lv_room (Nat.le_of_ble_eq_true rfl)) d_ThumbCore_perform_247 (by decide)) hP hD hS hA [0, 1, 2, 3, 4, 5, 6, 7] [] [0, 1, 2, 3, 4, 5, 6, 7] rfl rfl (by decide) (by decide) (by decide) (fun _ => rfl) (fun u H locs hu hP hD hS => ?_)
      obtain ⟨r88, s89, s90⟩ := u
      have hq := hq.trans (un3_eq hu _)
      have e_r88 := hu
      have hP : va_P D tcl (wd_ThumbCore cI cB cZ h h_memory h_memory_words h_registers h_flags h_exceptions h_exceptions_priorities h_counter q_memory_size n_memory_words c_asleep c_locked v1 s89 s90 c_flags_negative c_flags_zero c_flags_carry c_flags_overflow c_exceptions_pending c_exceptions_active c_exceptions_current c_exceptions_masked c_exceptions_priorities c_counter_number c_counter_reload c_counter_on) H := hP
      have hD : va_D A (wd_ThumbCore cI cB cZ h h_memory h_memory_words h_registers h_flags h_exceptions h_exceptions_priorities h_counter q_memory_size n_memory_words c_asleep c_locked v1 s89 s90 c_flags_negative c_flags_zero c_flags_carry c_flags_overflow c_exceptions_pending c_exceptions_active c_exceptions_current c_exceptions_masked c_exceptions_priorities c_counter_number c_counter_reload c_counter_on) := hD
      refine W.eq (g2 := F0 m 250 ls [.int (bI r88)]) rfl ?_
      exact RET H locs ls 250 (r88, c_asleep, c_locked, v1, s89, s90, c_flags_negative, c_flags_zero, c_flags_carry, c_flags_overflow, c_exceptions_pending, c_exceptions_active, c_exceptions_current, c_exceptions_masked) d_ThumbCore_perform_250 hP hD hS hq
    have hq := hq.trans (if_neg g_53_17)
    by_cases g_53_18 : (o_iushr v3 11) = 18
    · have hq := hq.trans (if_pos g_53_18)
      refine tc_tabIn (k := 18) (off := 180) (tgt := 233) hx hb d_ThumbCore_perform_53 g_53_18 (by decide) (by decide) (by decide +kernel) (by decide) ?_
      refine lv_aload_n hx hb d_ThumbCore_perform_233 rfl (lv_at hl 1 rfl) ?_
      refine lv_iload_n hx hb d_ThumbCore_perform_234 rfl (lv_at hl 0 rfl) ?_
      refine tc_mz (wo := fun u => (wd_ThumbCore cI cB cZ h h_memory h_memory_words h_registers h_flags h_exceptions h_exceptions_priorities h_counter q_memory_size n_memory_words c_asleep c_locked v1 u.2.1 u.2.2 c_flags_negative c_flags_zero c_flags_carry c_flags_overflow c_exceptions_pending c_exceptions_active c_exceptions_current c_exceptions_masked c_exceptions_priorities c_counter_number c_counter_reload c_counter_on)) (va_runV (As := [.int v3]) (rest := []) ⟨hx, hb, hml, hown, hts⟩ (c_ThumbCore_fromBase l D cI cB cZ h h_memory h_memory_words h_registers h_flags h_exceptions h_exceptions_priorities h_counter H.size q_memory_size n_memory_words c_asleep c_locked v1 c_memory_words c_registers c_flags_negative c_flags_zero c_flags_carry c_flags_overflow c_exceptions_pending c_exceptions_active c_exceptions_current c_exceptions_masked c_exceptions_priorities c_counter_number c_counter_reload c_counter_on v3 hm) (cwV 1 hts (tc_gV wl_ThumbCore_173 wm_ThumbCore_fromBase ws_ThumbCore_fromBase wi_ThumbCore wc_ThumbCore_fromBase) rfl rfl rfl (by decide +kernel) ⟨Nat.le_of_ble_eq_true rfl, Nat.le_of_ble_eq_true rfl⟩) (tc_preV hK hN hP hD [0, 1, 2, 3, 4, 5, 6, 7] rfl (by decide) (q0 := 0) rfl rfl) rfl rfl hl.1 rfl (lv_room (Nat.le_of_ble_eq_true rfl)) d_ThumbCore_perform_235 (by decide)) hP hD hS hA [0, 1, 2, 3, 4, 5, 6, 7] [] [0, 1, 2, 3, 4, 5, 6, 7] rfl rfl (by decide) (by decide) (by decide) (fun _ => rfl) (fun u H locs hu hP hD hS => ?_)
      obtain ⟨r91, s92, s93⟩ := u
      have hq := hq.trans (un3_eq hu _)
      have e_r91 := hu
      have hP : va_P D tcl (wd_ThumbCore cI cB cZ h h_memory h_memory_words h_registers h_flags h_exceptions h_exceptions_priorities h_counter q_memory_size n_memory_words c_asleep c_locked v1 s92 s93 c_flags_negative c_flags_zero c_flags_carry c_flags_overflow c_exceptions_pending c_exceptions_active c_exceptions_current c_exceptions_masked c_exceptions_priorities c_counter_number c_counter_reload c_counter_on) H := hP
      have hD : va_D A (wd_ThumbCore cI cB cZ h h_memory h_memory_words h_registers h_flags h_exceptions h_exceptions_priorities h_counter q_memory_size n_memory_words c_asleep c_locked v1 s92 s93 c_flags_negative c_flags_zero c_flags_carry c_flags_overflow c_exceptions_pending c_exceptions_active c_exceptions_current c_exceptions_masked c_exceptions_priorities c_counter_number c_counter_reload c_counter_on) := hD
      refine W.eq (g2 := F0 m 238 ls [.int (bI r91)]) rfl ?_
      exact RET H locs ls 238 (r91, c_asleep, c_locked, v1, s92, s93, c_flags_negative, c_flags_zero, c_flags_carry, c_flags_overflow, c_exceptions_pending, c_exceptions_active, c_exceptions_current, c_exceptions_masked) d_ThumbCore_perform_238 hP hD hS hq
    have hq := hq.trans (if_neg g_53_18)
    by_cases g_53_19 : (o_iushr v3 11) = 19
    · have hq := hq.trans (if_pos g_53_19)
      refine tc_tabIn (k := 19) (off := 180) (tgt := 233) hx hb d_ThumbCore_perform_53 g_53_19 (by decide) (by decide) (by decide +kernel) (by decide) ?_
      refine lv_aload_n hx hb d_ThumbCore_perform_233 rfl (lv_at hl 1 rfl) ?_
      refine lv_iload_n hx hb d_ThumbCore_perform_234 rfl (lv_at hl 0 rfl) ?_
      refine tc_mz (wo := fun u => (wd_ThumbCore cI cB cZ h h_memory h_memory_words h_registers h_flags h_exceptions h_exceptions_priorities h_counter q_memory_size n_memory_words c_asleep c_locked v1 u.2.1 u.2.2 c_flags_negative c_flags_zero c_flags_carry c_flags_overflow c_exceptions_pending c_exceptions_active c_exceptions_current c_exceptions_masked c_exceptions_priorities c_counter_number c_counter_reload c_counter_on)) (va_runV (As := [.int v3]) (rest := []) ⟨hx, hb, hml, hown, hts⟩ (c_ThumbCore_fromBase l D cI cB cZ h h_memory h_memory_words h_registers h_flags h_exceptions h_exceptions_priorities h_counter H.size q_memory_size n_memory_words c_asleep c_locked v1 c_memory_words c_registers c_flags_negative c_flags_zero c_flags_carry c_flags_overflow c_exceptions_pending c_exceptions_active c_exceptions_current c_exceptions_masked c_exceptions_priorities c_counter_number c_counter_reload c_counter_on v3 hm) (cwV 1 hts (tc_gV wl_ThumbCore_173 wm_ThumbCore_fromBase ws_ThumbCore_fromBase wi_ThumbCore wc_ThumbCore_fromBase) rfl rfl rfl (by decide +kernel) ⟨Nat.le_of_ble_eq_true rfl, Nat.le_of_ble_eq_true rfl⟩) (tc_preV hK hN hP hD [0, 1, 2, 3, 4, 5, 6, 7] rfl (by decide) (q0 := 0) rfl rfl) rfl rfl hl.1 rfl (lv_room (Nat.le_of_ble_eq_true rfl)) d_ThumbCore_perform_235 (by decide)) hP hD hS hA [0, 1, 2, 3, 4, 5, 6, 7] [] [0, 1, 2, 3, 4, 5, 6, 7] rfl rfl (by decide) (by decide) (by decide) (fun _ => rfl) (fun u H locs hu hP hD hS => ?_)
      obtain ⟨r94, s95, s96⟩ := u
      have hq := hq.trans (un3_eq hu _)
      have e_r94 := hu
      have hP : va_P D tcl (wd_ThumbCore cI cB cZ h h_memory h_memory_words h_registers h_flags h_exceptions h_exceptions_priorities h_counter q_memory_size n_memory_words c_asleep c_locked v1 s95 s96 c_flags_negative c_flags_zero c_flags_carry c_flags_overflow c_exceptions_pending c_exceptions_active c_exceptions_current c_exceptions_masked c_exceptions_priorities c_counter_number c_counter_reload c_counter_on) H := hP
      have hD : va_D A (wd_ThumbCore cI cB cZ h h_memory h_memory_words h_registers h_flags h_exceptions h_exceptions_priorities h_counter q_memory_size n_memory_words c_asleep c_locked v1 s95 s96 c_flags_negative c_flags_zero c_flags_carry c_flags_overflow c_exceptions_pending c_exceptions_active c_exceptions_current c_exceptions_masked c_exceptions_priorities c_counter_number c_counter_reload c_counter_on) := hD
      refine W.eq (g2 := F0 m 238 ls [.int (bI r94)]) rfl ?_
      exact RET H locs ls 238 (r94, c_asleep, c_locked, v1, s95, s96, c_flags_negative, c_flags_zero, c_flags_carry, c_flags_overflow, c_exceptions_pending, c_exceptions_active, c_exceptions_current, c_exceptions_masked) d_ThumbCore_perform_238 hP hD hS hq
    have hq := hq.trans (if_neg g_53_19)
    by_cases g_53_20 : (o_iushr v3 11) = 20
    · have hq := hq.trans (if_pos g_53_20)
      refine tc_tabIn (k := 20) (off := 180) (tgt := 233) hx hb d_ThumbCore_perform_53 g_53_20 (by decide) (by decide) (by decide +kernel) (by decide) ?_
      refine lv_aload_n hx hb d_ThumbCore_perform_233 rfl (lv_at hl 1 rfl) ?_
      refine lv_iload_n hx hb d_ThumbCore_perform_234 rfl (lv_at hl 0 rfl) ?_
      refine tc_mz (wo := fun u => (wd_ThumbCore cI cB cZ h h_memory h_memory_words h_registers h_flags h_exceptions h_exceptions_priorities h_counter q_memory_size n_memory_words c_asleep c_locked v1 u.2.1 u.2.2 c_flags_negative c_flags_zero c_flags_carry c_flags_overflow c_exceptions_pending c_exceptions_active c_exceptions_current c_exceptions_masked c_exceptions_priorities c_counter_number c_counter_reload c_counter_on)) (va_runV (As := [.int v3]) (rest := []) ⟨hx, hb, hml, hown, hts⟩ (c_ThumbCore_fromBase l D cI cB cZ h h_memory h_memory_words h_registers h_flags h_exceptions h_exceptions_priorities h_counter H.size q_memory_size n_memory_words c_asleep c_locked v1 c_memory_words c_registers c_flags_negative c_flags_zero c_flags_carry c_flags_overflow c_exceptions_pending c_exceptions_active c_exceptions_current c_exceptions_masked c_exceptions_priorities c_counter_number c_counter_reload c_counter_on v3 hm) (cwV 1 hts (tc_gV wl_ThumbCore_173 wm_ThumbCore_fromBase ws_ThumbCore_fromBase wi_ThumbCore wc_ThumbCore_fromBase) rfl rfl rfl (by decide +kernel) ⟨Nat.le_of_ble_eq_true rfl, Nat.le_of_ble_eq_true rfl⟩) (tc_preV hK hN hP hD [0, 1, 2, 3, 4, 5, 6, 7] rfl (by decide) (q0 := 0) rfl rfl) rfl rfl hl.1 rfl (lv_room (Nat.le_of_ble_eq_true rfl)) d_ThumbCore_perform_235 (by decide)) hP hD hS hA [0, 1, 2, 3, 4, 5, 6, 7] [] [0, 1, 2, 3, 4, 5, 6, 7] rfl rfl (by decide) (by decide) (by decide) (fun _ => rfl) (fun u H locs hu hP hD hS => ?_)
      obtain ⟨r97, s98, s99⟩ := u
      have hq := hq.trans (un3_eq hu _)
      have e_r97 := hu
      have hP : va_P D tcl (wd_ThumbCore cI cB cZ h h_memory h_memory_words h_registers h_flags h_exceptions h_exceptions_priorities h_counter q_memory_size n_memory_words c_asleep c_locked v1 s98 s99 c_flags_negative c_flags_zero c_flags_carry c_flags_overflow c_exceptions_pending c_exceptions_active c_exceptions_current c_exceptions_masked c_exceptions_priorities c_counter_number c_counter_reload c_counter_on) H := hP
      have hD : va_D A (wd_ThumbCore cI cB cZ h h_memory h_memory_words h_registers h_flags h_exceptions h_exceptions_priorities h_counter q_memory_size n_memory_words c_asleep c_locked v1 s98 s99 c_flags_negative c_flags_zero c_flags_carry c_flags_overflow c_exceptions_pending c_exceptions_active c_exceptions_current c_exceptions_masked c_exceptions_priorities c_counter_number c_counter_reload c_counter_on) := hD
      refine W.eq (g2 := F0 m 238 ls [.int (bI r97)]) rfl ?_
      exact RET H locs ls 238 (r97, c_asleep, c_locked, v1, s98, s99, c_flags_negative, c_flags_zero, c_flags_carry, c_flags_overflow, c_exceptions_pending, c_exceptions_active, c_exceptions_current, c_exceptions_masked) d_ThumbCore_perform_238 hP hD hS hq
    have hq := hq.trans (if_neg g_53_20)
    by_cases g_53_21 : (o_iushr v3 11) = 21
    · have hq := hq.trans (if_pos g_53_21)
      refine tc_tabIn (k := 21) (off := 180) (tgt := 233) hx hb d_ThumbCore_perform_53 g_53_21 (by decide) (by decide) (by decide +kernel) (by decide) ?_
      refine lv_aload_n hx hb d_ThumbCore_perform_233 rfl (lv_at hl 1 rfl) ?_
      refine lv_iload_n hx hb d_ThumbCore_perform_234 rfl (lv_at hl 0 rfl) ?_
      refine tc_mz (wo := fun u => (wd_ThumbCore cI cB cZ h h_memory h_memory_words h_registers h_flags h_exceptions h_exceptions_priorities h_counter q_memory_size n_memory_words c_asleep c_locked v1 u.2.1 u.2.2 c_flags_negative c_flags_zero c_flags_carry c_flags_overflow c_exceptions_pending c_exceptions_active c_exceptions_current c_exceptions_masked c_exceptions_priorities c_counter_number c_counter_reload c_counter_on)) (va_runV (As := [.int v3]) (rest := []) ⟨hx, hb, hml, hown, hts⟩ (c_ThumbCore_fromBase l D cI cB cZ h h_memory h_memory_words h_registers h_flags h_exceptions h_exceptions_priorities h_counter H.size q_memory_size n_memory_words c_asleep c_locked v1 c_memory_words c_registers c_flags_negative c_flags_zero c_flags_carry c_flags_overflow c_exceptions_pending c_exceptions_active c_exceptions_current c_exceptions_masked c_exceptions_priorities c_counter_number c_counter_reload c_counter_on v3 hm) (cwV 1 hts (tc_gV wl_ThumbCore_173 wm_ThumbCore_fromBase ws_ThumbCore_fromBase wi_ThumbCore wc_ThumbCore_fromBase) rfl rfl rfl (by decide +kernel) ⟨Nat.le_of_ble_eq_true rfl, Nat.le_of_ble_eq_true rfl⟩) (tc_preV hK hN hP hD [0, 1, 2, 3, 4, 5, 6, 7] rfl (by decide) (q0 := 0) rfl rfl) rfl rfl hl.1 rfl (lv_room (Nat.le_of_ble_eq_true rfl)) d_ThumbCore_perform_235 (by decide)) hP hD hS hA [0, 1, 2, 3, 4, 5, 6, 7] [] [0, 1, 2, 3, 4, 5, 6, 7] rfl rfl (by decide) (by decide) (by decide) (fun _ => rfl) (fun u H locs hu hP hD hS => ?_)
      obtain ⟨r100, s101, s102⟩ := u
      have hq := hq.trans (un3_eq hu _)
      have e_r100 := hu
      have hP : va_P D tcl (wd_ThumbCore cI cB cZ h h_memory h_memory_words h_registers h_flags h_exceptions h_exceptions_priorities h_counter q_memory_size n_memory_words c_asleep c_locked v1 s101 s102 c_flags_negative c_flags_zero c_flags_carry c_flags_overflow c_exceptions_pending c_exceptions_active c_exceptions_current c_exceptions_masked c_exceptions_priorities c_counter_number c_counter_reload c_counter_on) H := hP
      have hD : va_D A (wd_ThumbCore cI cB cZ h h_memory h_memory_words h_registers h_flags h_exceptions h_exceptions_priorities h_counter q_memory_size n_memory_words c_asleep c_locked v1 s101 s102 c_flags_negative c_flags_zero c_flags_carry c_flags_overflow c_exceptions_pending c_exceptions_active c_exceptions_current c_exceptions_masked c_exceptions_priorities c_counter_number c_counter_reload c_counter_on) := hD
      refine W.eq (g2 := F0 m 238 ls [.int (bI r100)]) rfl ?_
      exact RET H locs ls 238 (r100, c_asleep, c_locked, v1, s101, s102, c_flags_negative, c_flags_zero, c_flags_carry, c_flags_overflow, c_exceptions_pending, c_exceptions_active, c_exceptions_current, c_exceptions_masked) d_ThumbCore_perform_238 hP hD hS hq
    have hq := hq.trans (if_neg g_53_21)
    by_cases g_53_22 : (o_iushr v3 11) = 22
    · have hq := hq.trans (if_pos g_53_22)
      refine tc_tabIn (k := 22) (off := 198) (tgt := 251) hx hb d_ThumbCore_perform_53 g_53_22 (by decide) (by decide) (by decide +kernel) (by decide) ?_
      refine lv_aload_n hx hb d_ThumbCore_perform_251 rfl (lv_at hl 1 rfl) ?_
      refine lv_iload_n hx hb d_ThumbCore_perform_252 rfl (lv_at hl 0 rfl) ?_
      refine tc_mz (wo := fun u => (wd_ThumbCore cI cB cZ h h_memory h_memory_words h_registers h_flags h_exceptions h_exceptions_priorities h_counter q_memory_size n_memory_words u.2.1 c_locked u.2.2.1 u.2.2.2.1 u.2.2.2.2.1 u.2.2.2.2.2.1 u.2.2.2.2.2.2.1 u.2.2.2.2.2.2.2.1 u.2.2.2.2.2.2.2.2.1 c_exceptions_pending u.2.2.2.2.2.2.2.2.2.1 u.2.2.2.2.2.2.2.2.2.2.1 u.2.2.2.2.2.2.2.2.2.2.2 c_exceptions_priorities c_counter_number c_counter_reload c_counter_on)) (va_runV (As := [.int v3]) (rest := []) ⟨hx, hb, hml, hown, hts⟩ (c_ThumbCore_miscellaneous l D cI cB cZ h h_memory h_memory_words h_registers h_flags h_exceptions h_exceptions_priorities h_counter tL H.size q_memory_size n_memory_words c_asleep c_locked v1 c_memory_words c_registers c_flags_negative c_flags_zero c_flags_carry c_flags_overflow c_exceptions_pending c_exceptions_active c_exceptions_current c_exceptions_masked c_exceptions_priorities c_counter_number c_counter_reload c_counter_on v3 hm) (cwV 1 hts (tc_gV wl_ThumbCore_182 wm_ThumbCore_miscellaneous ws_ThumbCore_miscellaneous wi_ThumbCore wc_ThumbCore_miscellaneous) rfl rfl rfl (by decide +kernel) ⟨Nat.le_of_ble_eq_true rfl, Nat.le_of_ble_eq_true rfl⟩) (tc_preVZ hK hN hP hD hS hA hZ [0, 1, 2, 3, 4, 5, 6, 7] rfl (by decide) (q0 := 0) rfl rfl) rfl rfl hl.1 rfl (lv_room (Nat.le_of_ble_eq_true rfl)) d_ThumbCore_perform_253 (by decide)) hP hD hS hA [0, 1, 2, 3, 4, 5, 6, 7] [] [0, 1, 2, 3, 4, 5, 6, 7] rfl rfl (by decide) (by decide) (by decide) (fun _ => rfl) (fun u H locs hu hP hD hS => ?_)
      obtain ⟨r103, s104, s105, s106, s107, s108, s109, s110, s111, s112, s113, s114⟩ := u
      have hq := hq.trans (un12_eq hu _)
      have e_r103 := hu
      have hP : va_P D tcl (wd_ThumbCore cI cB cZ h h_memory h_memory_words h_registers h_flags h_exceptions h_exceptions_priorities h_counter q_memory_size n_memory_words s104 c_locked s105 s106 s107 s108 s109 s110 s111 c_exceptions_pending s112 s113 s114 c_exceptions_priorities c_counter_number c_counter_reload c_counter_on) H := hP
      have hD : va_D A (wd_ThumbCore cI cB cZ h h_memory h_memory_words h_registers h_flags h_exceptions h_exceptions_priorities h_counter q_memory_size n_memory_words s104 c_locked s105 s106 s107 s108 s109 s110 s111 c_exceptions_pending s112 s113 s114 c_exceptions_priorities c_counter_number c_counter_reload c_counter_on) := hD
      refine W.eq (g2 := F0 m 256 ls [.int (bI r103)]) rfl ?_
      exact RET H locs ls 256 (r103, s104, c_locked, s105, s106, s107, s108, s109, s110, s111, c_exceptions_pending, s112, s113, s114) d_ThumbCore_perform_256 hP hD hS hq
    have hq := hq.trans (if_neg g_53_22)
    by_cases g_53_23 : (o_iushr v3 11) = 23
    · have hq := hq.trans (if_pos g_53_23)
      refine tc_tabIn (k := 23) (off := 198) (tgt := 251) hx hb d_ThumbCore_perform_53 g_53_23 (by decide) (by decide) (by decide +kernel) (by decide) ?_
      refine lv_aload_n hx hb d_ThumbCore_perform_251 rfl (lv_at hl 1 rfl) ?_
      refine lv_iload_n hx hb d_ThumbCore_perform_252 rfl (lv_at hl 0 rfl) ?_
      refine tc_mz (wo := fun u => (wd_ThumbCore cI cB cZ h h_memory h_memory_words h_registers h_flags h_exceptions h_exceptions_priorities h_counter q_memory_size n_memory_words u.2.1 c_locked u.2.2.1 u.2.2.2.1 u.2.2.2.2.1 u.2.2.2.2.2.1 u.2.2.2.2.2.2.1 u.2.2.2.2.2.2.2.1 u.2.2.2.2.2.2.2.2.1 c_exceptions_pending u.2.2.2.2.2.2.2.2.2.1 u.2.2.2.2.2.2.2.2.2.2.1 u.2.2.2.2.2.2.2.2.2.2.2 c_exceptions_priorities c_counter_number c_counter_reload c_counter_on)) (va_runV (As := [.int v3]) (rest := []) ⟨hx, hb, hml, hown, hts⟩ (c_ThumbCore_miscellaneous l D cI cB cZ h h_memory h_memory_words h_registers h_flags h_exceptions h_exceptions_priorities h_counter tL H.size q_memory_size n_memory_words c_asleep c_locked v1 c_memory_words c_registers c_flags_negative c_flags_zero c_flags_carry c_flags_overflow c_exceptions_pending c_exceptions_active c_exceptions_current c_exceptions_masked c_exceptions_priorities c_counter_number c_counter_reload c_counter_on v3 hm) (cwV 1 hts (tc_gV wl_ThumbCore_182 wm_ThumbCore_miscellaneous ws_ThumbCore_miscellaneous wi_ThumbCore wc_ThumbCore_miscellaneous) rfl rfl rfl (by decide +kernel) ⟨Nat.le_of_ble_eq_true rfl, Nat.le_of_ble_eq_true rfl⟩) (tc_preVZ hK hN hP hD hS hA hZ [0, 1, 2, 3, 4, 5, 6, 7] rfl (by decide) (q0 := 0) rfl rfl) rfl rfl hl.1 rfl (lv_room (Nat.le_of_ble_eq_true rfl)) d_ThumbCore_perform_253 (by decide)) hP hD hS hA [0, 1, 2, 3, 4, 5, 6, 7] [] [0, 1, 2, 3, 4, 5, 6, 7] rfl rfl (by decide) (by decide) (by decide) (fun _ => rfl) (fun u H locs hu hP hD hS => ?_)
      obtain ⟨r115, s116, s117, s118, s119, s120, s121, s122, s123, s124, s125, s126⟩ := u
      have hq := hq.trans (un12_eq hu _)
      have e_r115 := hu
      have hP : va_P D tcl (wd_ThumbCore cI cB cZ h h_memory h_memory_words h_registers h_flags h_exceptions h_exceptions_priorities h_counter q_memory_size n_memory_words s116 c_locked s117 s118 s119 s120 s121 s122 s123 c_exceptions_pending s124 s125 s126 c_exceptions_priorities c_counter_number c_counter_reload c_counter_on) H := hP
      have hD : va_D A (wd_ThumbCore cI cB cZ h h_memory h_memory_words h_registers h_flags h_exceptions h_exceptions_priorities h_counter q_memory_size n_memory_words s116 c_locked s117 s118 s119 s120 s121 s122 s123 c_exceptions_pending s124 s125 s126 c_exceptions_priorities c_counter_number c_counter_reload c_counter_on) := hD
      refine W.eq (g2 := F0 m 256 ls [.int (bI r115)]) rfl ?_
      exact RET H locs ls 256 (r115, s116, c_locked, s117, s118, s119, s120, s121, s122, s123, c_exceptions_pending, s124, s125, s126) d_ThumbCore_perform_256 hP hD hS hq
    have hq := hq.trans (if_neg g_53_23)
    by_cases g_53_24 : (o_iushr v3 11) = 24
    · have hq := hq.trans (if_pos g_53_24)
      refine tc_tabIn (k := 24) (off := 204) (tgt := 257) hx hb d_ThumbCore_perform_53 g_53_24 (by decide) (by decide) (by decide +kernel) (by decide) ?_
      refine lv_aload_n hx hb d_ThumbCore_perform_257 rfl (lv_at hl 1 rfl) ?_
      refine lv_iload_n hx hb d_ThumbCore_perform_258 rfl (lv_at hl 0 rfl) ?_
      refine lv_bipush (v := 8) hx hb d_ThumbCore_perform_259 (by decide) ?_
      refine lv_iushr (v := (o_iushr v3 8)) hx hb d_ThumbCore_perform_261 rfl ?_
      refine lv_bipush (v := 7) hx hb d_ThumbCore_perform_262 (by decide) ?_
      refine lv_iand hx hb d_ThumbCore_perform_264 ?_
      refine lv_iload_n hx hb d_ThumbCore_perform_265 rfl (lv_at hl 0 rfl) ?_
      refine lv_sipush (v := 255) hx hb d_ThumbCore_perform_266 (by decide) ?_
      refine lv_iand hx hb d_ThumbCore_perform_269 ?_
      refine tc_mz (wo := fun u => (wd_ThumbCore cI cB cZ h h_memory h_memory_words h_registers h_flags h_exceptions h_exceptions_priorities h_counter q_memory_size n_memory_words c_asleep c_locked v1 u.2.1 u.2.2 c_flags_negative c_flags_zero c_flags_carry c_flags_overflow c_exceptions_pending c_exceptions_active c_exceptions_current c_exceptions_masked c_exceptions_priorities c_counter_number c_counter_reload c_counter_on)) (va_runV (As := [.int ((o_iushr v3 8) &&& 7), .int (v3 &&& 255)]) (rest := []) ⟨hx, hb, hml, hown, hts⟩ (c_ThumbCore_storeMany l D cI cB cZ h h_memory h_memory_words h_registers h_flags h_exceptions h_exceptions_priorities h_counter H.size q_memory_size n_memory_words c_asleep c_locked v1 c_memory_words c_registers c_flags_negative c_flags_zero c_flags_carry c_flags_overflow c_exceptions_pending c_exceptions_active c_exceptions_current c_exceptions_masked c_exceptions_priorities c_counter_number c_counter_reload c_counter_on ((o_iushr v3 8) &&& 7) (v3 &&& 255) hm (tc_in7 _) (tc_c255 _)) (cwV 2 hts (tc_gV wl_ThumbCore_185 wm_ThumbCore_storeMany ws_ThumbCore_storeMany wi_ThumbCore wc_ThumbCore_storeMany) rfl rfl rfl (by decide +kernel) ⟨Nat.le_of_ble_eq_true rfl, Nat.le_of_ble_eq_true rfl⟩) (tc_preV hK hN hP hD [0, 1, 2, 3, 4, 5, 6, 7] rfl (by decide) (q0 := 0) rfl rfl) rfl rfl hl.1 rfl (lv_room (Nat.le_of_ble_eq_true rfl)) d_ThumbCore_perform_270 (by decide)) hP hD hS hA [0, 1, 2, 3, 4, 5, 6, 7] [] [0, 1, 2, 3, 4, 5, 6, 7] rfl rfl (by decide) (by decide) (by decide) (fun _ => rfl) (fun u H locs hu hP hD hS => ?_)
      obtain ⟨r127, s128, s129⟩ := u
      have hq := hq.trans (un3_eq hu _)
      have e_r127 := hu
      have hP : va_P D tcl (wd_ThumbCore cI cB cZ h h_memory h_memory_words h_registers h_flags h_exceptions h_exceptions_priorities h_counter q_memory_size n_memory_words c_asleep c_locked v1 s128 s129 c_flags_negative c_flags_zero c_flags_carry c_flags_overflow c_exceptions_pending c_exceptions_active c_exceptions_current c_exceptions_masked c_exceptions_priorities c_counter_number c_counter_reload c_counter_on) H := hP
      have hD : va_D A (wd_ThumbCore cI cB cZ h h_memory h_memory_words h_registers h_flags h_exceptions h_exceptions_priorities h_counter q_memory_size n_memory_words c_asleep c_locked v1 s128 s129 c_flags_negative c_flags_zero c_flags_carry c_flags_overflow c_exceptions_pending c_exceptions_active c_exceptions_current c_exceptions_masked c_exceptions_priorities c_counter_number c_counter_reload c_counter_on) := hD
      refine W.eq (g2 := F0 m 273 ls [.int (bI r127)]) rfl ?_
      exact RET H locs ls 273 (r127, c_asleep, c_locked, v1, s128, s129, c_flags_negative, c_flags_zero, c_flags_carry, c_flags_overflow, c_exceptions_pending, c_exceptions_active, c_exceptions_current, c_exceptions_masked) d_ThumbCore_perform_273 hP hD hS hq
    have hq := hq.trans (if_neg g_53_24)
    by_cases g_53_25 : (o_iushr v3 11) = 25
    · have hq := hq.trans (if_pos g_53_25)
      refine tc_tabIn (k := 25) (off := 221) (tgt := 274) hx hb d_ThumbCore_perform_53 g_53_25 (by decide) (by decide) (by decide +kernel) (by decide) ?_
      refine lv_aload_n hx hb d_ThumbCore_perform_274 rfl (lv_at hl 1 rfl) ?_
      refine lv_iload_n hx hb d_ThumbCore_perform_275 rfl (lv_at hl 0 rfl) ?_
      refine lv_bipush (v := 8) hx hb d_ThumbCore_perform_276 (by decide) ?_
      refine lv_iushr (v := (o_iushr v3 8)) hx hb d_ThumbCore_perform_278 rfl ?_
      refine lv_bipush (v := 7) hx hb d_ThumbCore_perform_279 (by decide) ?_
      refine lv_iand hx hb d_ThumbCore_perform_281 ?_
      refine lv_iload_n hx hb d_ThumbCore_perform_282 rfl (lv_at hl 0 rfl) ?_
      refine lv_sipush (v := 255) hx hb d_ThumbCore_perform_283 (by decide) ?_
      refine lv_iand hx hb d_ThumbCore_perform_286 ?_
      refine tc_mz (wo := fun u => (wd_ThumbCore cI cB cZ h h_memory h_memory_words h_registers h_flags h_exceptions h_exceptions_priorities h_counter q_memory_size n_memory_words c_asleep c_locked v1 c_memory_words u.2 c_flags_negative c_flags_zero c_flags_carry c_flags_overflow c_exceptions_pending c_exceptions_active c_exceptions_current c_exceptions_masked c_exceptions_priorities c_counter_number c_counter_reload c_counter_on)) (va_runV (As := [.int ((o_iushr v3 8) &&& 7), .int (v3 &&& 255)]) (rest := []) ⟨hx, hb, hml, hown, hts⟩ (c_ThumbCore_loadMany l D cI cB cZ h h_memory h_memory_words h_registers h_flags h_exceptions h_exceptions_priorities h_counter H.size q_memory_size n_memory_words c_asleep c_locked v1 c_memory_words c_registers c_flags_negative c_flags_zero c_flags_carry c_flags_overflow c_exceptions_pending c_exceptions_active c_exceptions_current c_exceptions_masked c_exceptions_priorities c_counter_number c_counter_reload c_counter_on ((o_iushr v3 8) &&& 7) (v3 &&& 255) hm (tc_in7 _) (tc_c255 _)) (cwV 2 hts (tc_gV wl_ThumbCore_188 wm_ThumbCore_loadMany ws_ThumbCore_loadMany wi_ThumbCore wc_ThumbCore_loadMany) rfl rfl rfl (by decide +kernel) ⟨Nat.le_of_ble_eq_true rfl, Nat.le_of_ble_eq_true rfl⟩) (tc_preV hK hN hP hD [0, 1, 2, 3, 4, 5, 6, 7] rfl (by decide) (q0 := 0) rfl rfl) rfl rfl hl.1 rfl (lv_room (Nat.le_of_ble_eq_true rfl)) d_ThumbCore_perform_287 (by decide)) hP hD hS hA [0, 1, 2, 3, 4, 5, 6, 7] [] [0, 1, 2, 3, 4, 5, 6, 7] rfl rfl (by decide) (by decide) (by decide) (fun _ => rfl) (fun u H locs hu hP hD hS => ?_)
      obtain ⟨r130, s131⟩ := u
      have hq := hq.trans (un2_eq hu _)
      have e_r130 := hu
      have hP : va_P D tcl (wd_ThumbCore cI cB cZ h h_memory h_memory_words h_registers h_flags h_exceptions h_exceptions_priorities h_counter q_memory_size n_memory_words c_asleep c_locked v1 c_memory_words s131 c_flags_negative c_flags_zero c_flags_carry c_flags_overflow c_exceptions_pending c_exceptions_active c_exceptions_current c_exceptions_masked c_exceptions_priorities c_counter_number c_counter_reload c_counter_on) H := hP
      have hD : va_D A (wd_ThumbCore cI cB cZ h h_memory h_memory_words h_registers h_flags h_exceptions h_exceptions_priorities h_counter q_memory_size n_memory_words c_asleep c_locked v1 c_memory_words s131 c_flags_negative c_flags_zero c_flags_carry c_flags_overflow c_exceptions_pending c_exceptions_active c_exceptions_current c_exceptions_masked c_exceptions_priorities c_counter_number c_counter_reload c_counter_on) := hD
      refine W.eq (g2 := F0 m 290 ls [.int (bI r130)]) rfl ?_
      exact RET H locs ls 290 (r130, c_asleep, c_locked, v1, c_memory_words, s131, c_flags_negative, c_flags_zero, c_flags_carry, c_flags_overflow, c_exceptions_pending, c_exceptions_active, c_exceptions_current, c_exceptions_masked) d_ThumbCore_perform_290 hP hD hS hq
    have hq := hq.trans (if_neg g_53_25)
    by_cases g_53_26 : (o_iushr v3 11) = 26
    · have hq := hq.trans (if_pos g_53_26)
      refine tc_tabIn (k := 26) (off := 238) (tgt := 291) hx hb d_ThumbCore_perform_53 g_53_26 (by decide) (by decide) (by decide +kernel) (by decide) ?_
      refine lv_aload_n hx hb d_ThumbCore_perform_291 rfl (lv_at hl 1 rfl) ?_
      refine lv_iload_n hx hb d_ThumbCore_perform_292 rfl (lv_at hl 0 rfl) ?_
      refine lv_bipush (v := 8) hx hb d_ThumbCore_perform_293 (by decide) ?_
      refine lv_iushr (v := (o_iushr v3 8)) hx hb d_ThumbCore_perform_295 rfl ?_
      refine lv_bipush (v := 15) hx hb d_ThumbCore_perform_296 (by decide) ?_
      refine lv_iand hx hb d_ThumbCore_perform_298 ?_
      refine lv_iload_n hx hb d_ThumbCore_perform_299 rfl (lv_at hl 0 rfl) ?_
      refine lv_i2b (v := v3.toInt8.toInt32) hx hb d_ThumbCore_perform_300 rfl ?_
      refine tc_mz (wo := fun u => (wd_ThumbCore cI cB cZ h h_memory h_memory_words h_registers h_flags h_exceptions h_exceptions_priorities h_counter q_memory_size n_memory_words c_asleep u.2.1 u.2.2.1 u.2.2.2.1 u.2.2.2.2.1 c_flags_negative c_flags_zero c_flags_carry c_flags_overflow u.2.2.2.2.2.1 u.2.2.2.2.2.2.1 u.2.2.2.2.2.2.2 c_exceptions_masked c_exceptions_priorities c_counter_number c_counter_reload c_counter_on)) (va_runV (As := [.int ((o_iushr v3 8) &&& 15), .int v3.toInt8.toInt32]) (rest := []) ⟨hx, hb, hml, hown, hts⟩ (c_ThumbCore_branchOrCall l D cI cB cZ h h_memory h_memory_words h_registers h_flags h_exceptions h_exceptions_priorities h_counter tL H.size q_memory_size n_memory_words c_asleep c_locked v1 c_memory_words c_registers c_flags_negative c_flags_zero c_flags_carry c_flags_overflow c_exceptions_pending c_exceptions_active c_exceptions_current c_exceptions_masked c_exceptions_priorities c_counter_number c_counter_reload c_counter_on ((o_iushr v3 8) &&& 15) v3.toInt8.toInt32 hm) (cwV 2 hts (tc_gV wl_ThumbCore_191 wm_ThumbCore_branchOrCall ws_ThumbCore_branchOrCall wi_ThumbCore wc_ThumbCore_branchOrCall) rfl rfl rfl (by decide +kernel) ⟨Nat.le_of_ble_eq_true rfl, Nat.le_of_ble_eq_true rfl⟩) (tc_preVZ hK hN hP hD hS hA hZ [0, 1, 2, 3, 4, 5, 6, 7] rfl (by decide) (q0 := 0) rfl rfl) rfl rfl hl.1 rfl (lv_room (Nat.le_of_ble_eq_true rfl)) d_ThumbCore_perform_301 (by decide)) hP hD hS hA [0, 1, 2, 3, 4, 5, 6, 7] [] [0, 1, 2, 3, 4, 5, 6, 7] rfl rfl (by decide) (by decide) (by decide) (fun _ => rfl) (fun u H locs hu hP hD hS => ?_)
      obtain ⟨r132, s133, s134, s135, s136, s137, s138, s139⟩ := u
      have hq := hq.trans (un8_eq hu _)
      have e_r132 := hu
      have hP : va_P D tcl (wd_ThumbCore cI cB cZ h h_memory h_memory_words h_registers h_flags h_exceptions h_exceptions_priorities h_counter q_memory_size n_memory_words c_asleep s133 s134 s135 s136 c_flags_negative c_flags_zero c_flags_carry c_flags_overflow s137 s138 s139 c_exceptions_masked c_exceptions_priorities c_counter_number c_counter_reload c_counter_on) H := hP
      have hD : va_D A (wd_ThumbCore cI cB cZ h h_memory h_memory_words h_registers h_flags h_exceptions h_exceptions_priorities h_counter q_memory_size n_memory_words c_asleep s133 s134 s135 s136 c_flags_negative c_flags_zero c_flags_carry c_flags_overflow s137 s138 s139 c_exceptions_masked c_exceptions_priorities c_counter_number c_counter_reload c_counter_on) := hD
      refine W.eq (g2 := F0 m 304 ls [.int (bI r132)]) rfl ?_
      exact RET H locs ls 304 (r132, c_asleep, s133, s134, s135, s136, c_flags_negative, c_flags_zero, c_flags_carry, c_flags_overflow, s137, s138, s139, c_exceptions_masked) d_ThumbCore_perform_304 hP hD hS hq
    have hq := hq.trans (if_neg g_53_26)
    by_cases g_53_27 : (o_iushr v3 11) = 27
    · have hq := hq.trans (if_pos g_53_27)
      refine tc_tabIn (k := 27) (off := 238) (tgt := 291) hx hb d_ThumbCore_perform_53 g_53_27 (by decide) (by decide) (by decide +kernel) (by decide) ?_
      refine lv_aload_n hx hb d_ThumbCore_perform_291 rfl (lv_at hl 1 rfl) ?_
      refine lv_iload_n hx hb d_ThumbCore_perform_292 rfl (lv_at hl 0 rfl) ?_
      refine lv_bipush (v := 8) hx hb d_ThumbCore_perform_293 (by decide) ?_
      refine lv_iushr (v := (o_iushr v3 8)) hx hb d_ThumbCore_perform_295 rfl ?_
      refine lv_bipush (v := 15) hx hb d_ThumbCore_perform_296 (by decide) ?_
      refine lv_iand hx hb d_ThumbCore_perform_298 ?_
      refine lv_iload_n hx hb d_ThumbCore_perform_299 rfl (lv_at hl 0 rfl) ?_
      refine lv_i2b (v := v3.toInt8.toInt32) hx hb d_ThumbCore_perform_300 rfl ?_
      refine tc_mz (wo := fun u => (wd_ThumbCore cI cB cZ h h_memory h_memory_words h_registers h_flags h_exceptions h_exceptions_priorities h_counter q_memory_size n_memory_words c_asleep u.2.1 u.2.2.1 u.2.2.2.1 u.2.2.2.2.1 c_flags_negative c_flags_zero c_flags_carry c_flags_overflow u.2.2.2.2.2.1 u.2.2.2.2.2.2.1 u.2.2.2.2.2.2.2 c_exceptions_masked c_exceptions_priorities c_counter_number c_counter_reload c_counter_on)) (va_runV (As := [.int ((o_iushr v3 8) &&& 15), .int v3.toInt8.toInt32]) (rest := []) ⟨hx, hb, hml, hown, hts⟩ (c_ThumbCore_branchOrCall l D cI cB cZ h h_memory h_memory_words h_registers h_flags h_exceptions h_exceptions_priorities h_counter tL H.size q_memory_size n_memory_words c_asleep c_locked v1 c_memory_words c_registers c_flags_negative c_flags_zero c_flags_carry c_flags_overflow c_exceptions_pending c_exceptions_active c_exceptions_current c_exceptions_masked c_exceptions_priorities c_counter_number c_counter_reload c_counter_on ((o_iushr v3 8) &&& 15) v3.toInt8.toInt32 hm) (cwV 2 hts (tc_gV wl_ThumbCore_191 wm_ThumbCore_branchOrCall ws_ThumbCore_branchOrCall wi_ThumbCore wc_ThumbCore_branchOrCall) rfl rfl rfl (by decide +kernel) ⟨Nat.le_of_ble_eq_true rfl, Nat.le_of_ble_eq_true rfl⟩) (tc_preVZ hK hN hP hD hS hA hZ [0, 1, 2, 3, 4, 5, 6, 7] rfl (by decide) (q0 := 0) rfl rfl) rfl rfl hl.1 rfl (lv_room (Nat.le_of_ble_eq_true rfl)) d_ThumbCore_perform_301 (by decide)) hP hD hS hA [0, 1, 2, 3, 4, 5, 6, 7] [] [0, 1, 2, 3, 4, 5, 6, 7] rfl rfl (by decide) (by decide) (by decide) (fun _ => rfl) (fun u H locs hu hP hD hS => ?_)
      obtain ⟨r140, s141, s142, s143, s144, s145, s146, s147⟩ := u
      have hq := hq.trans (un8_eq hu _)
      have e_r140 := hu
      have hP : va_P D tcl (wd_ThumbCore cI cB cZ h h_memory h_memory_words h_registers h_flags h_exceptions h_exceptions_priorities h_counter q_memory_size n_memory_words c_asleep s141 s142 s143 s144 c_flags_negative c_flags_zero c_flags_carry c_flags_overflow s145 s146 s147 c_exceptions_masked c_exceptions_priorities c_counter_number c_counter_reload c_counter_on) H := hP
      have hD : va_D A (wd_ThumbCore cI cB cZ h h_memory h_memory_words h_registers h_flags h_exceptions h_exceptions_priorities h_counter q_memory_size n_memory_words c_asleep s141 s142 s143 s144 c_flags_negative c_flags_zero c_flags_carry c_flags_overflow s145 s146 s147 c_exceptions_masked c_exceptions_priorities c_counter_number c_counter_reload c_counter_on) := hD
      refine W.eq (g2 := F0 m 304 ls [.int (bI r140)]) rfl ?_
      exact RET H locs ls 304 (r140, c_asleep, s141, s142, s143, s144, c_flags_negative, c_flags_zero, c_flags_carry, c_flags_overflow, s145, s146, s147, c_exceptions_masked) d_ThumbCore_perform_304 hP hD hS hq
    have hq := hq.trans (if_neg g_53_27)
    by_cases g_53_28 : (o_iushr v3 11) = 28
    · have hq := hq.trans (if_pos g_53_28)
      refine tc_tabIn (k := 28) (off := 252) (tgt := 305) hx hb d_ThumbCore_perform_53 g_53_28 (by decide) (by decide) (by decide +kernel) (by decide) ?_
      refine lv_aload_n hx hb d_ThumbCore_perform_305 rfl (lv_at hl 1 rfl) ?_
      refine lv_aload_n hx hb d_ThumbCore_perform_306 rfl (lv_at hl 1 rfl) ?_
      refine tc_rd (va_runV (As := []) (rest := [.ref h]) ⟨hx, hb, hml, hown, hts⟩ (c_ThumbCore_here l D cI cB cZ h h_memory h_memory_words h_registers h_flags h_exceptions h_exceptions_priorities h_counter H.size q_memory_size n_memory_words c_asleep c_locked v1 c_memory_words c_registers c_flags_negative c_flags_zero c_flags_carry c_flags_overflow c_exceptions_pending c_exceptions_active c_exceptions_current c_exceptions_masked c_exceptions_priorities c_counter_number c_counter_reload c_counter_on) (cwV 0 hts (tc_gV wl_ThumbCore_194 wm_ThumbCore_here ws_ThumbCore_here wi_ThumbCore wc_ThumbCore_here) rfl rfl rfl (by decide +kernel) ⟨Nat.le_of_ble_eq_true rfl, Nat.le_of_ble_eq_true rfl⟩) (tc_preV hK hN hP hD [0, 1, 2, 3, 4, 5, 6, 7] rfl (by decide) (q0 := 0) rfl rfl) rfl rfl hl.1 rfl (lv_room (Nat.le_of_ble_eq_true rfl)) d_ThumbCore_perform_307 (by decide)) ?_
      refine lv_topi (fun v148 e_v148 => ?_)
      have hq := tc_nm hq e_v148
      refine lv_iload_n hx hb d_ThumbCore_perform_310 rfl (lv_at hl 0 rfl) ?_
      refine lv_bipush (v := 21) hx hb d_ThumbCore_perform_311 (by decide) ?_
      refine lv_ishl hx hb d_ThumbCore_perform_313 ?_
      refine lv_bipush (v := 20) hx hb d_ThumbCore_perform_314 (by decide) ?_
      refine lv_ishr hx hb d_ThumbCore_perform_316 ?_
      refine lv_iadd hx hb d_ThumbCore_perform_317 ?_
      refine lv_topi (fun v149 e_v149 => ?_)
      have hq := tc_nm hq e_v149
      refine va_put (D := D) (ci := 4) (v := .int v149) (ty := .int) (C := R_ThumbCore) (T := F_ThumbCore) (N := 8) hx hb hts u_ThumbCore t_ThumbCore t_ThumbCore_ok n_ThumbCore hown hK hP hD hS 0 rfl rfl 7 (by decide) (hts _ wf_ThumbCore_111) (fun _ h9 => h9) rfl (by decide +kernel) rfl rfl (Nat.le_of_ble_eq_true rfl) d_ThumbCore_perform_318 (fun H locs hP hD hS => ?_)
      have hP : va_P D tcl (wd_ThumbCore cI cB cZ h h_memory h_memory_words h_registers h_flags h_exceptions h_exceptions_priorities h_counter q_memory_size n_memory_words c_asleep c_locked v149 c_memory_words c_registers c_flags_negative c_flags_zero c_flags_carry c_flags_overflow c_exceptions_pending c_exceptions_active c_exceptions_current c_exceptions_masked c_exceptions_priorities c_counter_number c_counter_reload c_counter_on) H := hP
      have hD : va_D A (wd_ThumbCore cI cB cZ h h_memory h_memory_words h_registers h_flags h_exceptions h_exceptions_priorities h_counter q_memory_size n_memory_words c_asleep c_locked v149 c_memory_words c_registers c_flags_negative c_flags_zero c_flags_carry c_flags_overflow c_exceptions_pending c_exceptions_active c_exceptions_current c_exceptions_masked c_exceptions_priorities c_counter_number c_counter_reload c_counter_on) := hD
      refine lv_iconst (v := 1) hx hb d_ThumbCore_perform_321 (by decide) ?_
      exact RET H locs ls 322 (true, c_asleep, c_locked, v149, c_memory_words, c_registers, c_flags_negative, c_flags_zero, c_flags_carry, c_flags_overflow, c_exceptions_pending, c_exceptions_active, c_exceptions_current, c_exceptions_masked) d_ThumbCore_perform_322 hP hD hS hq
    have hq := hq.trans (if_neg g_53_28)
    by_cases g_53_30 : (o_iushr v3 11) = 30
    · have hq := hq.trans (if_pos g_53_30)
      refine tc_tabIn (k := 30) (off := 270) (tgt := 323) hx hb d_ThumbCore_perform_53 g_53_30 (by decide) (by decide) (by decide +kernel) (by decide) ?_
      refine lv_aload_n hx hb d_ThumbCore_perform_323 rfl (lv_at hl 1 rfl) ?_
      refine lv_iload_n hx hb d_ThumbCore_perform_324 rfl (lv_at hl 0 rfl) ?_
      refine tc_mz (wo := fun u => (wd_ThumbCore cI cB cZ h h_memory h_memory_words h_registers h_flags h_exceptions h_exceptions_priorities h_counter q_memory_size n_memory_words c_asleep c_locked u.2.1 c_memory_words u.2.2 c_flags_negative c_flags_zero c_flags_carry c_flags_overflow c_exceptions_pending c_exceptions_active c_exceptions_current c_exceptions_masked c_exceptions_priorities c_counter_number c_counter_reload c_counter_on)) (va_runV (As := [.int v3]) (rest := []) ⟨hx, hb, hml, hown, hts⟩ (c_ThumbCore_branchFar l D cI cB cZ h h_memory h_memory_words h_registers h_flags h_exceptions h_exceptions_priorities h_counter H.size q_memory_size n_memory_words c_asleep c_locked v1 c_memory_words c_registers c_flags_negative c_flags_zero c_flags_carry c_flags_overflow c_exceptions_pending c_exceptions_active c_exceptions_current c_exceptions_masked c_exceptions_priorities c_counter_number c_counter_reload c_counter_on v3 hm) (cwV 1 hts (tc_gV wl_ThumbCore_197 wm_ThumbCore_branchFar ws_ThumbCore_branchFar wi_ThumbCore wc_ThumbCore_branchFar) rfl rfl rfl (by decide +kernel) ⟨Nat.le_of_ble_eq_true rfl, Nat.le_of_ble_eq_true rfl⟩) (tc_preV hK hN hP hD [0, 1, 2, 3, 4, 5, 6, 7] rfl (by decide) (q0 := 0) rfl rfl) rfl rfl hl.1 rfl (lv_room (Nat.le_of_ble_eq_true rfl)) d_ThumbCore_perform_325 (by decide)) hP hD hS hA [0, 1, 2, 3, 4, 5, 6, 7] [] [0, 1, 2, 3, 4, 5, 6, 7] rfl rfl (by decide) (by decide) (by decide) (fun _ => rfl) (fun u H locs hu hP hD hS => ?_)
      obtain ⟨r150, s151, s152⟩ := u
      have hq := hq.trans (un3_eq hu _)
      have e_r150 := hu
      have hP : va_P D tcl (wd_ThumbCore cI cB cZ h h_memory h_memory_words h_registers h_flags h_exceptions h_exceptions_priorities h_counter q_memory_size n_memory_words c_asleep c_locked s151 c_memory_words s152 c_flags_negative c_flags_zero c_flags_carry c_flags_overflow c_exceptions_pending c_exceptions_active c_exceptions_current c_exceptions_masked c_exceptions_priorities c_counter_number c_counter_reload c_counter_on) H := hP
      have hD : va_D A (wd_ThumbCore cI cB cZ h h_memory h_memory_words h_registers h_flags h_exceptions h_exceptions_priorities h_counter q_memory_size n_memory_words c_asleep c_locked s151 c_memory_words s152 c_flags_negative c_flags_zero c_flags_carry c_flags_overflow c_exceptions_pending c_exceptions_active c_exceptions_current c_exceptions_masked c_exceptions_priorities c_counter_number c_counter_reload c_counter_on) := hD
      refine W.eq (g2 := F0 m 328 ls [.int (bI r150)]) rfl ?_
      exact RET H locs ls 328 (r150, c_asleep, c_locked, s151, c_memory_words, s152, c_flags_negative, c_flags_zero, c_flags_carry, c_flags_overflow, c_exceptions_pending, c_exceptions_active, c_exceptions_current, c_exceptions_masked) d_ThumbCore_perform_328 hP hD hS hq
    have hq := hq.trans (if_neg g_53_30)
    have DF : W p l e rm_ThumbCore_perform s m ([.ref h] : List Value).toArray below meth c H locs 0 0 Q (F0 m 329 ls []) := by
      refine lv_iconst (v := 0) hx hb d_ThumbCore_perform_329 (by decide) ?_
      exact RET H locs ls 330 (false, c_asleep, c_locked, v1, c_memory_words, c_registers, c_flags_negative, c_flags_zero, c_flags_carry, c_flags_overflow, c_exceptions_pending, c_exceptions_active, c_exceptions_current, c_exceptions_masked) d_ThumbCore_perform_330 hP hD hS hq
    by_cases g_53_29 : (o_iushr v3 11) = 29
    · exact tc_tabIn (k := 29) (off := 276) (tgt := 329) hx hb d_ThumbCore_perform_53 g_53_29 (by decide) (by decide) (by decide +kernel) (by decide) DF
    exact lv_tableOut (x := (o_iushr v3 11)) hx hb d_ThumbCore_perform_53 (by have n0 := tc_ne (j := 0) g_53_0 (by decide); have n1 := tc_ne (j := 1) g_53_1 (by decide); have n2 := tc_ne (j := 2) g_53_2 (by decide); have n3 := tc_ne (j := 3) g_53_3 (by decide); have n4 := tc_ne (j := 4) g_53_4 (by decide); have n5 := tc_ne (j := 5) g_53_5 (by decide); have n6 := tc_ne (j := 6) g_53_6 (by decide); have n7 := tc_ne (j := 7) g_53_7 (by decide); have n8 := tc_ne (j := 8) g_53_8 (by decide); have n9 := tc_ne (j := 9) g_53_9 (by decide); have n10 := tc_ne (j := 10) g_53_10 (by decide); have n11 := tc_ne (j := 11) g_53_11 (by decide); have n12 := tc_ne (j := 12) g_53_12 (by decide); have n13 := tc_ne (j := 13) g_53_13 (by decide); have n14 := tc_ne (j := 14) g_53_14 (by decide); have n15 := tc_ne (j := 15) g_53_15 (by decide); have n16 := tc_ne (j := 16) g_53_16 (by decide); have n17 := tc_ne (j := 17) g_53_17 (by decide); have n18 := tc_ne (j := 18) g_53_18 (by decide); have n19 := tc_ne (j := 19) g_53_19 (by decide); have n20 := tc_ne (j := 20) g_53_20 (by decide); have n21 := tc_ne (j := 21) g_53_21 (by decide); have n22 := tc_ne (j := 22) g_53_22 (by decide); have n23 := tc_ne (j := 23) g_53_23 (by decide); have n24 := tc_ne (j := 24) g_53_24 (by decide); have n25 := tc_ne (j := 25) g_53_25 (by decide); have n26 := tc_ne (j := 26) g_53_26 (by decide); have n27 := tc_ne (j := 27) g_53_27 (by decide); have n28 := tc_ne (j := 28) g_53_28 (by decide); have n29 := tc_ne (j := 29) g_53_29 (by decide); have n30 := tc_ne (j := 30) g_53_30 (by decide); omega) (by decide) DF
  · have hq := hq.trans (if_neg (fun g => g g_28))
    refine lv_iconst (v := 0) hx hb d_ThumbCore_perform_31 (by decide) ?_
    exact RET H locs ls 32 (false, c_asleep, c_locked, v1, c_memory_words, c_registers, c_flags_negative, c_flags_zero, c_flags_carry, c_flags_overflow, c_exceptions_pending, c_exceptions_active, c_exceptions_current, c_exceptions_masked) d_ThumbCore_perform_32 hP hD hS hq

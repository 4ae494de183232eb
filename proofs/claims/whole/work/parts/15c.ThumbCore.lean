abbrev rm_ThumbCore_mayGoTo : Room := { frames := 3, cells := 0, slots := 0, locals := 66 }
set_option maxHeartbeats 4000000 in
set_option maxRecDepth 100000 in
theorem c_ThumbCore_mayGoTo (l : Launch) (D : va_G) (cI cB cZ : ClassId) (h h_memory h_memory_words h_registers h_flags h_exceptions h_exceptions_priorities h_counter sz : Nat) (q_memory_size : Int32) (n_memory_words : Nat) (c_asleep : Bool) (c_locked : Bool) (c_next : Int32) (c_memory_words : Nat → Int32) (c_registers : Nat → Int32) (c_flags_negative : Bool) (c_flags_zero : Bool) (c_flags_carry : Bool) (c_flags_overflow : Bool) (c_exceptions_pending : Int32) (c_exceptions_active : Int32) (c_exceptions_current : Int32) (c_exceptions_masked : Bool) (c_exceptions_priorities : Nat → Int32) (c_counter_number : Int32) (c_counter_reload : Int32) (c_counter_on : Bool) (x1 : Int32) (x2 : Int32) (hm : tc_mem q_memory_size n_memory_words) : Met l y_ThumbCore_mayGoTo (.code y_ThumbCore_mayGoTo b_ThumbCore_mayGoTo 4 (some .boolean) :: tcb) rm_ThumbCore_mayGoTo (tc_Pw D tcl (tys cI cB cZ) (wd_ThumbCore cI cB cZ h h_memory h_memory_words h_registers h_flags h_exceptions h_exceptions_priorities h_counter q_memory_size n_memory_words c_asleep c_locked c_next c_memory_words c_registers c_flags_negative c_flags_zero c_flags_carry c_flags_overflow c_exceptions_pending c_exceptions_active c_exceptions_current c_exceptions_masked c_exceptions_priorities c_counter_number c_counter_reload c_counter_on) sz ([.ref h, .int x1, .int x2] : List Value) none) (QcRead (bI (f_ThumbCore_mayGoTo q_memory_size c_memory_words c_exceptions_active c_exceptions_current x1 x2))) 0 0 (fun _ => False) := by
  refine tc_rd_z (by decide) (Nat.le_of_ble_eq_true rfl) ?_
  intro p e s m below meth c Q ls hx hb hml hts hown hK hN hP hD hl RET
  have hl : lv_has ls 4 [(0, .ref h), (1, .int x1), (2, .int x2)] := hl
  generalize hF : f_ThumbCore_mayGoTo q_memory_size c_memory_words c_exceptions_active c_exceptions_current x1 x2 = FF at RET
  have hq : FF = f_ThumbCore_mayGoTo q_memory_size c_memory_words c_exceptions_active c_exceptions_current x1 x2 := hF.symm
  refine lv_aload_n hx hb d_ThumbCore_mayGoTo_0 rfl (lv_at hl 0 rfl) ?_
  refine lv_iload_n hx hb d_ThumbCore_mayGoTo_1 rfl (lv_at hl 1 rfl) ?_
  refine tc_rd (va_runV (As := [.int x1]) (rest := []) ⟨hx, hb, hml, hown, hts⟩ (c_ThumbCore_isReturn l D cI cB cZ h h_memory h_memory_words h_registers h_flags h_exceptions h_exceptions_priorities h_counter s.heap.size q_memory_size n_memory_words c_asleep c_locked c_next c_memory_words c_registers c_flags_negative c_flags_zero c_flags_carry c_flags_overflow c_exceptions_pending c_exceptions_active c_exceptions_current c_exceptions_masked c_exceptions_priorities c_counter_number c_counter_reload c_counter_on x1) (cwV 1 hts (tc_gV wl_ThumbCore_238 wm_ThumbCore_isReturn ws_ThumbCore_isReturn wi_ThumbCore wc_ThumbCore_isReturn) rfl rfl rfl (by decide +kernel) ⟨Nat.le_of_ble_eq_true rfl, Nat.le_of_ble_eq_true rfl⟩) (tc_preV hK hN hP hD [0, 1, 2, 3, 4, 5, 6, 7] rfl (by decide) (q0 := 0) rfl rfl) rfl rfl hl.1 rfl (lv_room (Nat.le_of_ble_eq_true rfl)) d_ThumbCore_mayGoTo_2 (by decide)) ?_
  refine tc_topb (fun v1 e_v1 => ?_)
  have hq := tc_nm hq e_v1
  refine lv_if_ne (tgt := 21) hx hb d_ThumbCore_mayGoTo_5 (by decide) (fun g_5 => ?_) (fun g_5 => ?_)
  · have hq := hq.trans (if_pos g_5)
    refine lv_aload_n hx hb d_ThumbCore_mayGoTo_21 rfl (lv_at hl 0 rfl) ?_
    refine va_get (D := D) (ci := 4) (v := .ref h_memory) (C := R_ThumbCore) (T := F_ThumbCore) (N := 8) hx hb hts u_ThumbCore hown hK hP 0 rfl rfl 0 (by decide) (hts _ wf_ThumbCore_21) (fun _ h9 => h9) rfl d_ThumbCore_mayGoTo_22 ?_
    refine lv_iload_n hx hb d_ThumbCore_mayGoTo_25 rfl (lv_at hl 2 rfl) ?_
    refine lv_bipush (v := 8) hx hb d_ThumbCore_mayGoTo_26 (by decide) ?_
    refine tc_rd (va_runV (As := [.int x2, .int 8]) (rest := []) ⟨hx, hb, hml, hown, hts⟩ (c_Memory_areThere l D cI cB cZ h_memory h_memory_words s.heap.size q_memory_size n_memory_words c_memory_words x2 8) (cwV 2 hts (tc_gV wl_ThumbCore_295 wm_Memory_areThere ws_Memory_areThere wi_Memory wc_Memory_areThere) rfl rfl rfl (by decide +kernel) ⟨Nat.le_of_ble_eq_true rfl, Nat.le_of_ble_eq_true rfl⟩) (tc_preV hK hN hP hD [1, 2] rfl (by decide) (q0 := 1) rfl rfl) rfl rfl hl.1 rfl (lv_room (Nat.le_of_ble_eq_true rfl)) d_ThumbCore_mayGoTo_28 (by decide)) ?_
    refine tc_topb (fun v2 e_v2 => ?_)
    have hq := tc_nm hq e_v2
    refine lv_if_ne (tgt := 36) hx hb d_ThumbCore_mayGoTo_31 (by decide) (fun g_31 => ?_) (fun g_31 => ?_)
    · have hq := hq.trans (if_pos g_31)
      refine lv_aload_n hx hb d_ThumbCore_mayGoTo_36 rfl (lv_at hl 0 rfl) ?_
      refine va_get (D := D) (ci := 4) (v := .ref h_memory) (C := R_ThumbCore) (T := F_ThumbCore) (N := 8) hx hb hts u_ThumbCore hown hK hP 0 rfl rfl 0 (by decide) (hts _ wf_ThumbCore_21) (fun _ h9 => h9) rfl d_ThumbCore_mayGoTo_37 ?_
      refine lv_iload_n hx hb d_ThumbCore_mayGoTo_40 rfl (lv_at hl 2 rfl) ?_
      refine lv_bipush (v := 28) hx hb d_ThumbCore_mayGoTo_41 (by decide) ?_
      refine lv_iadd hx hb d_ThumbCore_mayGoTo_43 ?_
      refine tc_rd (va_runV (As := [.int (x2 + 28)]) (rest := []) ⟨hx, hb, hml, hown, hts⟩ (c_Memory_word l D cI cB cZ h_memory h_memory_words s.heap.size q_memory_size n_memory_words c_memory_words (x2 + 28) hm (tc_fitOk hm (tc_aT8 hm (tc_bT e_v2 g_31)) (by decide) (by decide))) (cwV 1 hts (tc_gV wl_ThumbCore_66 wm_Memory_word ws_Memory_word wi_Memory wc_Memory_word) rfl rfl rfl (by decide +kernel) ⟨Nat.le_of_ble_eq_true rfl, Nat.le_of_ble_eq_true rfl⟩) (tc_preV hK hN hP hD [1, 2] rfl (by decide) (q0 := 1) rfl rfl) rfl rfl hl.1 rfl (lv_room (Nat.le_of_ble_eq_true rfl)) d_ThumbCore_mayGoTo_44 (by decide)) ?_
      refine lv_topi (fun v3 e_v3 => ?_)
      have hq := tc_nm hq e_v3
      refine lv_bipush (v := 63) hx hb d_ThumbCore_mayGoTo_47 (by decide) ?_
      refine lv_iand hx hb d_ThumbCore_mayGoTo_49 ?_
      refine lv_topi (fun v4 e_v4 => ?_)
      have hq := tc_nm hq e_v4
      refine lv_istore_n (lv' := [(3, .int v4), (0, .ref h), (1, .int x1), (2, .int x2)]) hx hb d_ThumbCore_mayGoTo_50 rfl hl (by decide) rfl (fun ls hl => ?_)
      refine lv_iload_n hx hb d_ThumbCore_mayGoTo_51 rfl (lv_at hl 2 rfl) ?_
      refine lv_bipush (v := (-7)) hx hb d_ThumbCore_mayGoTo_52 (by decide) ?_
      refine lv_icmp_ne (tgt := 68) hx hb d_ThumbCore_mayGoTo_54 (by decide) (fun g_54 => ?_) (fun g_54 => ?_)
      · have hq := hq.trans (if_pos g_54)
        refine lv_aload_n hx hb d_ThumbCore_mayGoTo_68 rfl (lv_at hl 1 rfl) ?_
        refine va_get (D := D) (ci := 4) (v := .ref h_exceptions) (C := R_ThumbCore) (T := F_ThumbCore) (N := 8) hx hb hts u_ThumbCore hown hK hP 0 rfl rfl 3 (by decide) (hts _ wf_ThumbCore_41) (fun _ h9 => h9) rfl d_ThumbCore_mayGoTo_69 ?_
        refine lv_iload_n hx hb d_ThumbCore_mayGoTo_72 rfl (lv_at hl 0 rfl) ?_
        refine tc_rd (va_runV (As := [.int v4]) (rest := []) ⟨hx, hb, hml, hown, hts⟩ (c_Exceptions_mayEndFor l D cI cB cZ h_exceptions h_exceptions_priorities s.heap.size c_exceptions_pending c_exceptions_active c_exceptions_current c_exceptions_masked c_exceptions_priorities v4) (cwV 1 hts (tc_gV wl_ThumbCore_320 wm_Exceptions_mayEndFor ws_Exceptions_mayEndFor wi_Exceptions wc_Exceptions_mayEndFor) rfl rfl rfl (by decide +kernel) ⟨Nat.le_of_ble_eq_true rfl, Nat.le_of_ble_eq_true rfl⟩) (tc_preV hK hN hP hD [5, 6] rfl (by decide) (q0 := 5) rfl rfl) rfl rfl hl.1 rfl (lv_room (Nat.le_of_ble_eq_true rfl)) d_ThumbCore_mayGoTo_73 (by decide)) ?_
        refine tc_topb (fun v5 e_v5 => ?_)
        have hq := tc_nm hq e_v5
        exact RET ls 76 d_ThumbCore_mayGoTo_76 hq
      · have hq := hq.trans (if_neg (fun g => g g_54))
        refine lv_aload_n hx hb d_ThumbCore_mayGoTo_57 rfl (lv_at hl 1 rfl) ?_
        refine va_get (D := D) (ci := 4) (v := .ref h_exceptions) (C := R_ThumbCore) (T := F_ThumbCore) (N := 8) hx hb hts u_ThumbCore hown hK hP 0 rfl rfl 3 (by decide) (hts _ wf_ThumbCore_41) (fun _ h9 => h9) rfl d_ThumbCore_mayGoTo_58 ?_
        refine lv_iload_n hx hb d_ThumbCore_mayGoTo_61 rfl (lv_at hl 0 rfl) ?_
        refine tc_rd (va_runV (As := [.int v4]) (rest := []) ⟨hx, hb, hml, hown, hts⟩ (c_Exceptions_mayEndLast l D cI cB cZ h_exceptions h_exceptions_priorities s.heap.size c_exceptions_pending c_exceptions_active c_exceptions_current c_exceptions_masked c_exceptions_priorities v4) (cwV 1 hts (tc_gV wl_ThumbCore_317 wm_Exceptions_mayEndLast ws_Exceptions_mayEndLast wi_Exceptions wc_Exceptions_mayEndLast) rfl rfl rfl (by decide +kernel) ⟨Nat.le_of_ble_eq_true rfl, Nat.le_of_ble_eq_true rfl⟩) (tc_preV hK hN hP hD [5, 6] rfl (by decide) (q0 := 5) rfl rfl) rfl rfl hl.1 rfl (lv_room (Nat.le_of_ble_eq_true rfl)) d_ThumbCore_mayGoTo_62 (by decide)) ?_
        refine tc_topb (fun v6 e_v6 => ?_)
        have hq := tc_nm hq e_v6
        refine lv_goto (tgt := 76) hx hb d_ThumbCore_mayGoTo_65 (by decide) ?_
        exact RET ls 76 d_ThumbCore_mayGoTo_76 hq
    · have hq := hq.trans (if_neg (fun g => g g_31))
      refine lv_iconst (v := 0) hx hb d_ThumbCore_mayGoTo_34 (by decide) ?_
      exact RET ls 35 d_ThumbCore_mayGoTo_35 hq
  · have hq := hq.trans (if_neg (fun g => g g_5))
    refine lv_iload_n hx hb d_ThumbCore_mayGoTo_8 rfl (lv_at hl 1 rfl) ?_
    refine lv_iconst (v := 1) hx hb d_ThumbCore_mayGoTo_9 (by decide) ?_
    refine lv_iand hx hb d_ThumbCore_mayGoTo_10 ?_
    refine lv_iconst (v := 1) hx hb d_ThumbCore_mayGoTo_11 (by decide) ?_
    refine lv_icmp_ne (tgt := 19) hx hb d_ThumbCore_mayGoTo_12 (by decide) (fun g_12 => ?_) (fun g_12 => ?_)
    · have hq := hq.trans (if_pos g_12)
      refine lv_iconst (v := 0) hx hb d_ThumbCore_mayGoTo_19 (by decide) ?_
      exact RET ls 20 d_ThumbCore_mayGoTo_20 hq
    · have hq := hq.trans (if_neg (fun g => g g_12))
      refine lv_iconst (v := 1) hx hb d_ThumbCore_mayGoTo_15 (by decide) ?_
      refine lv_goto (tgt := 20) hx hb d_ThumbCore_mayGoTo_16 (by decide) ?_
      exact RET ls 20 d_ThumbCore_mayGoTo_20 hq
abbrev rm_ThumbCore_goTo : Room := { frames := 2, cells := 0, slots := 0, locals := 45 }
set_option maxHeartbeats 4000000 in
set_option maxRecDepth 100000 in
theorem c_ThumbCore_goTo (l : Launch) (D : va_G) (cI cB cZ : ClassId) (h h_memory h_memory_words h_registers h_flags h_exceptions h_exceptions_priorities h_counter tL sz : Nat) (q_memory_size : Int32) (n_memory_words : Nat) (c_asleep : Bool) (c_locked : Bool) (c_next : Int32) (c_memory_words : Nat → Int32) (c_registers : Nat → Int32) (c_flags_negative : Bool) (c_flags_zero : Bool) (c_flags_carry : Bool) (c_flags_overflow : Bool) (c_exceptions_pending : Int32) (c_exceptions_active : Int32) (c_exceptions_current : Int32) (c_exceptions_masked : Bool) (c_exceptions_priorities : Nat → Int32) (c_counter_number : Int32) (c_counter_reload : Int32) (c_counter_on : Bool) (x1 : Int32) (hm : tc_mem q_memory_size n_memory_words) (hg : f_ThumbCore_isReturn c_exceptions_active x1 = true → tc_fit q_memory_size (c_registers (13 : Int32).toNatClampNeg) 32) : Met l y_ThumbCore_goTo (.code y_ThumbCore_goTo b_ThumbCore_goTo 5 none :: tcb) rm_ThumbCore_goTo (tc_Pw D tcl (tys cI cB cZ) (wd_ThumbCore cI cB cZ h h_memory h_memory_words h_registers h_flags h_exceptions h_exceptions_priorities h_counter q_memory_size n_memory_words c_asleep c_locked c_next c_memory_words c_registers c_flags_negative c_flags_zero c_flags_carry c_flags_overflow c_exceptions_pending c_exceptions_active c_exceptions_current c_exceptions_masked c_exceptions_priorities c_counter_number c_counter_reload c_counter_on) sz ([.ref h, .int x1] : List Value) (some tL)) (tc_Qv D tcl (wd_ThumbCore cI cB cZ h h_memory h_memory_words h_registers h_flags h_exceptions h_exceptions_priorities h_counter q_memory_size n_memory_words c_asleep c_locked c_next c_memory_words c_registers c_flags_negative c_flags_zero c_flags_carry c_flags_overflow c_exceptions_pending c_exceptions_active c_exceptions_current c_exceptions_masked c_exceptions_priorities c_counter_number c_counter_reload c_counter_on) sz (fun u => (wd_ThumbCore cI cB cZ h h_memory h_memory_words h_registers h_flags h_exceptions h_exceptions_priorities h_counter q_memory_size n_memory_words c_asleep c_locked u.1 c_memory_words u.2.1 u.2.2.1 u.2.2.2.1 u.2.2.2.2.1 u.2.2.2.2.2.1 c_exceptions_pending u.2.2.2.2.2.2.1 u.2.2.2.2.2.2.2 c_exceptions_masked c_exceptions_priorities c_counter_number c_counter_reload c_counter_on)) (f_ThumbCore_goTo c_memory_words c_next c_registers c_flags_negative c_flags_zero c_flags_carry c_flags_overflow c_exceptions_active c_exceptions_current x1)) 0 0 (va_A (wd_ThumbCore cI cB cZ h h_memory h_memory_words h_registers h_flags h_exceptions h_exceptions_priorities h_counter q_memory_size n_memory_words c_asleep c_locked c_next c_memory_words c_registers c_flags_negative c_flags_zero c_flags_carry c_flags_overflow c_exceptions_pending c_exceptions_active c_exceptions_current c_exceptions_masked c_exceptions_priorities c_counter_number c_counter_reload c_counter_on) sz) := by
  refine tc_mu_v (by decide) (Nat.le_of_ble_eq_true rfl) ?_
  intro p e s m below meth c A Q ls hx hb hml hts hown hK hN hP hD hA hZ hl RET
  have hS : va_S A s.heap s.heap [] := va_S.rf
  have hZ : va_Z "ThumbCore" "LAID" "[I" (.ref tL) A s s.heap ∧ va_T .int tL 6 (fun j => .int (laid j)) A s s.heap := hZ
  have hl : lv_has ls 5 [(0, .ref h), (1, .int x1)] := hl
  generalize hF : f_ThumbCore_goTo c_memory_words c_next c_registers c_flags_negative c_flags_zero c_flags_carry c_flags_overflow c_exceptions_active c_exceptions_current x1 = FF at RET
  have J_121 : ∀ (H : Heap) (locs : List Loc) (ls : Array Slot) (c_next : Int32) (c_registers : Nat → Int32) (c_flags_negative : Bool) (c_flags_zero : Bool) (c_flags_carry : Bool) (c_flags_overflow : Bool) (c_exceptions_active : Int32) (c_exceptions_current : Int32) (y3 : Int32) (z2 : Int32) (z3 : Int32), va_P D tcl (wd_ThumbCore cI cB cZ h h_memory h_memory_words h_registers h_flags h_exceptions h_exceptions_priorities h_counter q_memory_size n_memory_words c_asleep c_locked c_next c_memory_words c_registers c_flags_negative c_flags_zero c_flags_carry c_flags_overflow c_exceptions_pending c_exceptions_active c_exceptions_current c_exceptions_masked c_exceptions_priorities c_counter_number c_counter_reload c_counter_on) H → va_D A (wd_ThumbCore cI cB cZ h h_memory h_memory_words h_registers h_flags h_exceptions h_exceptions_priorities h_counter q_memory_size n_memory_words c_asleep c_locked c_next c_memory_words c_registers c_flags_negative c_flags_zero c_flags_carry c_flags_overflow c_exceptions_pending c_exceptions_active c_exceptions_current c_exceptions_masked c_exceptions_priorities c_counter_number c_counter_reload c_counter_on) → va_S A s.heap H locs → lv_has ls 5 [(0, .ref h), (3, .int y3)] → FF = k_ThumbCore_goTo_121 c_memory_words c_next c_registers c_flags_negative c_flags_zero c_flags_carry c_flags_overflow c_exceptions_active c_exceptions_current y3 z2 z3 → W p l e rm_ThumbCore_goTo s m ([.ref h, .int x1] : List Value).toArray below meth c H locs 0 0 Q (F0 m 121 ls [.int z3, .int z2, .int 13, .ref h_registers]) := by
    intro H locs ls c_next c_registers c_flags_negative c_flags_zero c_flags_carry c_flags_overflow c_exceptions_active c_exceptions_current y3 z2 z3 hP hD hS hl hq
    refine lv_iadd hx hb d_ThumbCore_goTo_121 ?_
    refine va_iast hx hb hK hP hD hS 3 0 rfl rfl (by show ¬ (_ ∨ _); decide) d_ThumbCore_goTo_122 (fun H locs hP hD hS => ?_)
    have hP : va_P D tcl (wd_ThumbCore cI cB cZ h h_memory h_memory_words h_registers h_flags h_exceptions h_exceptions_priorities h_counter q_memory_size n_memory_words c_asleep c_locked c_next c_memory_words (upd c_registers (13 : Int32).toNatClampNeg (z2 + z3)) c_flags_negative c_flags_zero c_flags_carry c_flags_overflow c_exceptions_pending c_exceptions_active c_exceptions_current c_exceptions_masked c_exceptions_priorities c_counter_number c_counter_reload c_counter_on) H := hP
    have hD : va_D A (wd_ThumbCore cI cB cZ h h_memory h_memory_words h_registers h_flags h_exceptions h_exceptions_priorities h_counter q_memory_size n_memory_words c_asleep c_locked c_next c_memory_words (upd c_registers (13 : Int32).toNatClampNeg (z2 + z3)) c_flags_negative c_flags_zero c_flags_carry c_flags_overflow c_exceptions_pending c_exceptions_active c_exceptions_current c_exceptions_masked c_exceptions_priorities c_counter_number c_counter_reload c_counter_on) := hD
    refine lv_aload_n hx hb d_ThumbCore_goTo_123 rfl (lv_at hl 0 rfl) ?_
    refine va_get (D := D) (ci := 4) (v := .ref h_flags) (C := R_ThumbCore) (T := F_ThumbCore) (N := 8) hx hb hts u_ThumbCore hown hK hP 0 rfl rfl 2 (by decide) (hts _ wf_ThumbCore_34) (fun _ h9 => h9) rfl d_ThumbCore_goTo_124 ?_
    refine lv_iload_n hx hb d_ThumbCore_goTo_127 rfl (lv_at hl 1 rfl) ?_
    refine tc_mv (wo := fun u => (wd_ThumbCore cI cB cZ h h_memory h_memory_words h_registers h_flags h_exceptions h_exceptions_priorities h_counter q_memory_size n_memory_words c_asleep c_locked c_next c_memory_words (upd c_registers (13 : Int32).toNatClampNeg (z2 + z3)) u.1 u.2.1 u.2.2.1 u.2.2.2 c_exceptions_pending c_exceptions_active c_exceptions_current c_exceptions_masked c_exceptions_priorities c_counter_number c_counter_reload c_counter_on)) (va_runV (As := [.int y3]) (rest := []) ⟨hx, hb, hml, hown, hts⟩ (c_Flags_take l D cI cB cZ h_flags H.size c_flags_negative c_flags_zero c_flags_carry c_flags_overflow y3) (cwV 1 hts (tc_gV wl_ThumbCore_70 wm_Flags_take ws_Flags_take wi_Flags wc_Flags_take) rfl rfl rfl (by decide +kernel) ⟨Nat.le_of_ble_eq_true rfl, Nat.le_of_ble_eq_true rfl⟩) (tc_preV hK hN hP hD [4] rfl (by decide) (q0 := 4) rfl rfl) rfl rfl hl.1 rfl (lv_room (Nat.le_of_ble_eq_true rfl)) d_ThumbCore_goTo_128 (by decide)) hP hD hS hA [4] [0, 1, 2, 3, 5, 6, 7] [0, 1, 2, 3, 7, 4, 5, 6] rfl rfl (by decide) (by decide) (by decide) (fun _ => rfl) (fun u H locs hu hP hD hS => ?_)
    obtain ⟨s1, s2, s3, s4⟩ := u
    have hq := hq.trans (un4_eq hu _)
    have e_s1 := hu
    have hP : va_P D tcl (wd_ThumbCore cI cB cZ h h_memory h_memory_words h_registers h_flags h_exceptions h_exceptions_priorities h_counter q_memory_size n_memory_words c_asleep c_locked c_next c_memory_words (upd c_registers (13 : Int32).toNatClampNeg (z2 + z3)) s1 s2 s3 s4 c_exceptions_pending c_exceptions_active c_exceptions_current c_exceptions_masked c_exceptions_priorities c_counter_number c_counter_reload c_counter_on) H := hP
    have hD : va_D A (wd_ThumbCore cI cB cZ h h_memory h_memory_words h_registers h_flags h_exceptions h_exceptions_priorities h_counter q_memory_size n_memory_words c_asleep c_locked c_next c_memory_words (upd c_registers (13 : Int32).toNatClampNeg (z2 + z3)) s1 s2 s3 s4 c_exceptions_pending c_exceptions_active c_exceptions_current c_exceptions_masked c_exceptions_priorities c_counter_number c_counter_reload c_counter_on) := hD
    refine lv_aload_n hx hb d_ThumbCore_goTo_131 rfl (lv_at hl 0 rfl) ?_
    refine va_get (D := D) (ci := 4) (v := .ref h_exceptions) (C := R_ThumbCore) (T := F_ThumbCore) (N := 8) hx hb hts u_ThumbCore hown hK hP 0 rfl rfl 3 (by decide) (hts _ wf_ThumbCore_41) (fun _ h9 => h9) rfl d_ThumbCore_goTo_132 ?_
    refine lv_iload_n hx hb d_ThumbCore_goTo_135 rfl (lv_at hl 1 rfl) ?_
    refine lv_bipush (v := 63) hx hb d_ThumbCore_goTo_136 (by decide) ?_
    refine lv_iand hx hb d_ThumbCore_goTo_138 ?_
    refine tc_mv (wo := fun u => (wd_ThumbCore cI cB cZ h h_memory h_memory_words h_registers h_flags h_exceptions h_exceptions_priorities h_counter q_memory_size n_memory_words c_asleep c_locked c_next c_memory_words (upd c_registers (13 : Int32).toNatClampNeg (z2 + z3)) s1 s2 s3 s4 c_exceptions_pending u.1 u.2 c_exceptions_masked c_exceptions_priorities c_counter_number c_counter_reload c_counter_on)) (va_runV (As := [.int (y3 &&& 63)]) (rest := []) ⟨hx, hb, hml, hown, hts⟩ (c_Exceptions_endFor l D cI cB cZ h_exceptions h_exceptions_priorities H.size c_exceptions_pending c_exceptions_active c_exceptions_current c_exceptions_masked c_exceptions_priorities (y3 &&& 63)) (cwV 1 hts (tc_gV wl_ThumbCore_323 wm_Exceptions_endFor ws_Exceptions_endFor wi_Exceptions wc_Exceptions_endFor) rfl rfl rfl (by decide +kernel) ⟨Nat.le_of_ble_eq_true rfl, Nat.le_of_ble_eq_true rfl⟩) (tc_preV hK hN hP hD [5, 6] rfl (by decide) (q0 := 5) rfl rfl) rfl rfl hl.1 rfl (lv_room (Nat.le_of_ble_eq_true rfl)) d_ThumbCore_goTo_139 (by decide)) hP hD hS hA [5, 6] [0, 1, 2, 3, 4, 7] [0, 1, 2, 3, 4, 6, 7, 5] rfl rfl (by decide) (by decide) (by decide) (fun _ => rfl) (fun u H locs hu hP hD hS => ?_)
    obtain ⟨s5, s6⟩ := u
    have hq := hq.trans (un2_eq hu _)
    have e_s5 := hu
    have hP : va_P D tcl (wd_ThumbCore cI cB cZ h h_memory h_memory_words h_registers h_flags h_exceptions h_exceptions_priorities h_counter q_memory_size n_memory_words c_asleep c_locked c_next c_memory_words (upd c_registers (13 : Int32).toNatClampNeg (z2 + z3)) s1 s2 s3 s4 c_exceptions_pending s5 s6 c_exceptions_masked c_exceptions_priorities c_counter_number c_counter_reload c_counter_on) H := hP
    have hD : va_D A (wd_ThumbCore cI cB cZ h h_memory h_memory_words h_registers h_flags h_exceptions h_exceptions_priorities h_counter q_memory_size n_memory_words c_asleep c_locked c_next c_memory_words (upd c_registers (13 : Int32).toNatClampNeg (z2 + z3)) s1 s2 s3 s4 c_exceptions_pending s5 s6 c_exceptions_masked c_exceptions_priorities c_counter_number c_counter_reload c_counter_on) := hD
    exact RET H locs ls 142 (c_next, (upd c_registers (13 : Int32).toNatClampNeg (z2 + z3)), s1, s2, s3, s4, s5, s6) d_ThumbCore_goTo_142 hP hD hS hq
  have J_39 : ∀ n : Nat, ∀ (H : Heap) (locs : List Loc) (ls : Array Slot) (c_next : Int32) (c_registers : Nat → Int32) (c_flags_negative : Bool) (c_flags_zero : Bool) (c_flags_carry : Bool) (c_flags_overflow : Bool) (c_exceptions_active : Int32) (c_exceptions_current : Int32) (y2 : Int32) (y3 : Int32) (y4 : Int32), va_P D tcl (wd_ThumbCore cI cB cZ h h_memory h_memory_words h_registers h_flags h_exceptions h_exceptions_priorities h_counter q_memory_size n_memory_words c_asleep c_locked c_next c_memory_words c_registers c_flags_negative c_flags_zero c_flags_carry c_flags_overflow c_exceptions_pending c_exceptions_active c_exceptions_current c_exceptions_masked c_exceptions_priorities c_counter_number c_counter_reload c_counter_on) H → va_D A (wd_ThumbCore cI cB cZ h h_memory h_memory_words h_registers h_flags h_exceptions h_exceptions_priorities h_counter q_memory_size n_memory_words c_asleep c_locked c_next c_memory_words c_registers c_flags_negative c_flags_zero c_flags_carry c_flags_overflow c_exceptions_pending c_exceptions_active c_exceptions_current c_exceptions_masked c_exceptions_priorities c_counter_number c_counter_reload c_counter_on) → va_S A s.heap H locs → lv_has ls 5 [(0, .ref h), (2, .int y2), (3, .int y3), (4, .int y4)] → FF = k_ThumbCore_goTo_39 c_memory_words n c_next c_registers c_flags_negative c_flags_zero c_flags_carry c_flags_overflow c_exceptions_active c_exceptions_current y2 y3 y4 → (tc_lp y4 6 n) → (tc_fit q_memory_size y2 32) → W p l e rm_ThumbCore_goTo s m ([.ref h, .int x1] : List Value).toArray below meth c H locs 0 0 Q (F0 m 39 ls []) := by
    intro n
    induction n with
    | zero =>
      intro H locs ls c_next c_registers c_flags_negative c_flags_zero c_flags_carry c_flags_overflow c_exceptions_active c_exceptions_current y2 y3 y4 hP hD hS hl hq hinv hf
      exact (tc_lp0 hinv).elim
    | succ n_39 IH_39 =>
      intro H locs ls c_next c_registers c_flags_negative c_flags_zero c_flags_carry c_flags_overflow c_exceptions_active c_exceptions_current y2 y3 y4 hP hD hS hl hq hinv hf
      refine lv_iload hx hb d_ThumbCore_goTo_39 (lv_at hl 3 rfl) ?_
      refine va_gets hx hb hZ.1 hS hown (hts _ wf_ThumbCore_309) (fun _ h9 => h9) d_ThumbCore_goTo_41 ?_
      refine va_tlen (v := 6) hx hb hZ.2 hS rfl d_ThumbCore_goTo_44 ?_
      refine lv_icmp_ge (tgt := 78) hx hb d_ThumbCore_goTo_45 (by decide) (fun g_45 => ?_) (fun g_45 => ?_)
      · have hq := hq.trans (if_pos g_45)
        refine lv_aload_n hx hb d_ThumbCore_goTo_78 rfl (lv_at hl 0 rfl) ?_
        refine lv_aload_n hx hb d_ThumbCore_goTo_79 rfl (lv_at hl 0 rfl) ?_
        refine va_get (D := D) (ci := 4) (v := .ref h_memory) (C := R_ThumbCore) (T := F_ThumbCore) (N := 8) hx hb hts u_ThumbCore hown hK hP 0 rfl rfl 0 (by decide) (hts _ wf_ThumbCore_21) (fun _ h9 => h9) rfl d_ThumbCore_goTo_80 ?_
        refine lv_iload_n hx hb d_ThumbCore_goTo_83 rfl (lv_at hl 1 rfl) ?_
        refine lv_bipush (v := 24) hx hb d_ThumbCore_goTo_84 (by decide) ?_
        refine lv_iadd hx hb d_ThumbCore_goTo_86 ?_
        refine tc_rd (va_runV (As := [.int (y2 + 24)]) (rest := [.ref h]) ⟨hx, hb, hml, hown, hts⟩ (c_Memory_word l D cI cB cZ h_memory h_memory_words H.size q_memory_size n_memory_words c_memory_words (y2 + 24) hm (tc_fitOk hm hf (by decide) (by decide))) (cwV 1 hts (tc_gV wl_ThumbCore_66 wm_Memory_word ws_Memory_word wi_Memory wc_Memory_word) rfl rfl rfl (by decide +kernel) ⟨Nat.le_of_ble_eq_true rfl, Nat.le_of_ble_eq_true rfl⟩) (tc_preV hK hN hP hD [1, 2] rfl (by decide) (q0 := 1) rfl rfl) rfl rfl hl.1 rfl (lv_room (Nat.le_of_ble_eq_true rfl)) d_ThumbCore_goTo_87 (by decide)) ?_
        refine lv_topi (fun v1 e_v1 => ?_)
        have hq := tc_nm hq e_v1
        refine lv_bipush (v := (-2)) hx hb d_ThumbCore_goTo_90 (by decide) ?_
        refine lv_iand hx hb d_ThumbCore_goTo_92 ?_
        refine va_put (D := D) (ci := 4) (v := .int (v1 &&& (-2))) (ty := .int) (C := R_ThumbCore) (T := F_ThumbCore) (N := 8) hx hb hts u_ThumbCore t_ThumbCore t_ThumbCore_ok n_ThumbCore hown hK hP hD hS 0 rfl rfl 7 (by decide) (hts _ wf_ThumbCore_111) (fun _ h9 => h9) rfl (by decide +kernel) rfl rfl (Nat.le_of_ble_eq_true rfl) d_ThumbCore_goTo_93 (fun H locs hP hD hS => ?_)
        have hP : va_P D tcl (wd_ThumbCore cI cB cZ h h_memory h_memory_words h_registers h_flags h_exceptions h_exceptions_priorities h_counter q_memory_size n_memory_words c_asleep c_locked (v1 &&& (-2)) c_memory_words c_registers c_flags_negative c_flags_zero c_flags_carry c_flags_overflow c_exceptions_pending c_exceptions_active c_exceptions_current c_exceptions_masked c_exceptions_priorities c_counter_number c_counter_reload c_counter_on) H := hP
        have hD : va_D A (wd_ThumbCore cI cB cZ h h_memory h_memory_words h_registers h_flags h_exceptions h_exceptions_priorities h_counter q_memory_size n_memory_words c_asleep c_locked (v1 &&& (-2)) c_memory_words c_registers c_flags_negative c_flags_zero c_flags_carry c_flags_overflow c_exceptions_pending c_exceptions_active c_exceptions_current c_exceptions_masked c_exceptions_priorities c_counter_number c_counter_reload c_counter_on) := hD
        refine lv_aload_n hx hb d_ThumbCore_goTo_96 rfl (lv_at hl 0 rfl) ?_
        refine va_get (D := D) (ci := 4) (v := .ref h_registers) (C := R_ThumbCore) (T := F_ThumbCore) (N := 8) hx hb hts u_ThumbCore hown hK hP 0 rfl rfl 1 (by decide) (hts _ wf_ThumbCore_27) (fun _ h9 => h9) rfl d_ThumbCore_goTo_97 ?_
        refine lv_bipush (v := 13) hx hb d_ThumbCore_goTo_100 (by decide) ?_
        refine lv_iload_n hx hb d_ThumbCore_goTo_102 rfl (lv_at hl 1 rfl) ?_
        refine lv_bipush (v := 32) hx hb d_ThumbCore_goTo_103 (by decide) ?_
        refine lv_iadd hx hb d_ThumbCore_goTo_105 ?_
        refine lv_iload_n hx hb d_ThumbCore_goTo_106 rfl (lv_at hl 2 rfl) ?_
        refine lv_bipush (v := 9) hx hb d_ThumbCore_goTo_107 (by decide) ?_
        refine lv_iushr (v := (o_iushr y3 9)) hx hb d_ThumbCore_goTo_109 rfl ?_
        refine lv_iconst (v := 1) hx hb d_ThumbCore_goTo_110 (by decide) ?_
        refine lv_iand hx hb d_ThumbCore_goTo_111 ?_
        refine lv_iconst (v := 1) hx hb d_ThumbCore_goTo_112 (by decide) ?_
        refine lv_icmp_ne (tgt := 120) hx hb d_ThumbCore_goTo_113 (by decide) (fun g_113 => ?_) (fun g_113 => ?_)
        · have hq := hq.trans (if_pos g_113)
          refine lv_iconst (v := 0) hx hb d_ThumbCore_goTo_120 (by decide) ?_
          exact J_121 H locs ls (v1 &&& (-2)) c_registers c_flags_negative c_flags_zero c_flags_carry c_flags_overflow c_exceptions_active c_exceptions_current y3 (y2 + 32) 0 hP hD hS (lv_sub hl [0, 2] rfl) hq
        · have hq := hq.trans (if_neg (fun g => g g_113))
          refine lv_iconst (v := 4) hx hb d_ThumbCore_goTo_116 (by decide) ?_
          refine lv_goto (tgt := 121) hx hb d_ThumbCore_goTo_117 (by decide) ?_
          exact J_121 H locs ls (v1 &&& (-2)) c_registers c_flags_negative c_flags_zero c_flags_carry c_flags_overflow c_exceptions_active c_exceptions_current y3 (y2 + 32) 4 hP hD hS (lv_sub hl [0, 2] rfl) hq
      · have hq := hq.trans (if_neg g_45)
        have hgd : y4.toInt < ((6 : Nat) : Int) := tc_gge g_45 (by decide)
        refine lv_aload_n hx hb d_ThumbCore_goTo_48 rfl (lv_at hl 0 rfl) ?_
        refine va_get (D := D) (ci := 4) (v := .ref h_registers) (C := R_ThumbCore) (T := F_ThumbCore) (N := 8) hx hb hts u_ThumbCore hown hK hP 0 rfl rfl 1 (by decide) (hts _ wf_ThumbCore_27) (fun _ h9 => h9) rfl d_ThumbCore_goTo_49 ?_
        refine va_gets hx hb hZ.1 hS hown (hts _ wf_ThumbCore_309) (fun _ h9 => h9) d_ThumbCore_goTo_52 ?_
        refine lv_iload hx hb d_ThumbCore_goTo_55 (lv_at hl 3 rfl) ?_
        refine va_ti (v := .int (laid y4.toNatClampNeg)) hx hb hZ.2 hS (tc_lpI hinv hgd (by decide)) rfl d_ThumbCore_goTo_57 ?_
        refine lv_aload_n hx hb d_ThumbCore_goTo_58 rfl (lv_at hl 0 rfl) ?_
        refine va_get (D := D) (ci := 4) (v := .ref h_memory) (C := R_ThumbCore) (T := F_ThumbCore) (N := 8) hx hb hts u_ThumbCore hown hK hP 0 rfl rfl 0 (by decide) (hts _ wf_ThumbCore_21) (fun _ h9 => h9) rfl d_ThumbCore_goTo_59 ?_
        refine lv_iload_n hx hb d_ThumbCore_goTo_62 rfl (lv_at hl 1 rfl) ?_
        refine lv_iconst (v := 4) hx hb d_ThumbCore_goTo_63 (by decide) ?_
        refine lv_iload hx hb d_ThumbCore_goTo_64 (lv_at hl 3 rfl) ?_
        refine lv_imul hx hb d_ThumbCore_goTo_66 ?_
        refine lv_iadd hx hb d_ThumbCore_goTo_67 ?_
        refine tc_rd (va_runV (As := [.int (y2 + (4 * y4))]) (rest := [.int (laid y4.toNatClampNeg), .ref h_registers]) ⟨hx, hb, hml, hown, hts⟩ (c_Memory_word l D cI cB cZ h_memory h_memory_words H.size q_memory_size n_memory_words c_memory_words (y2 + (4 * y4)) hm (tc_fit4 hm hf hinv.1 (by omega))) (cwV 1 hts (tc_gV wl_ThumbCore_66 wm_Memory_word ws_Memory_word wi_Memory wc_Memory_word) rfl rfl rfl (by decide +kernel) ⟨Nat.le_of_ble_eq_true rfl, Nat.le_of_ble_eq_true rfl⟩) (tc_preV hK hN hP hD [1, 2] rfl (by decide) (q0 := 1) rfl rfl) rfl rfl hl.1 rfl (lv_room (Nat.le_of_ble_eq_true rfl)) d_ThumbCore_goTo_68 (by decide)) ?_
        refine lv_topi (fun v2 e_v2 => ?_)
        have hq := tc_nm hq e_v2
        refine va_iast hx hb hK hP hD hS 3 0 rfl rfl (tc_laidIn _) d_ThumbCore_goTo_71 (fun H locs hP hD hS => ?_)
        have hP : va_P D tcl (wd_ThumbCore cI cB cZ h h_memory h_memory_words h_registers h_flags h_exceptions h_exceptions_priorities h_counter q_memory_size n_memory_words c_asleep c_locked c_next c_memory_words (upd c_registers (laid y4.toNatClampNeg).toNatClampNeg v2) c_flags_negative c_flags_zero c_flags_carry c_flags_overflow c_exceptions_pending c_exceptions_active c_exceptions_current c_exceptions_masked c_exceptions_priorities c_counter_number c_counter_reload c_counter_on) H := hP
        have hD : va_D A (wd_ThumbCore cI cB cZ h h_memory h_memory_words h_registers h_flags h_exceptions h_exceptions_priorities h_counter q_memory_size n_memory_words c_asleep c_locked c_next c_memory_words (upd c_registers (laid y4.toNatClampNeg).toNatClampNeg v2) c_flags_negative c_flags_zero c_flags_carry c_flags_overflow c_exceptions_pending c_exceptions_active c_exceptions_current c_exceptions_masked c_exceptions_priorities c_counter_number c_counter_reload c_counter_on) := hD
        refine lv_iinc (k := 3) (v := (y4 + 1)) (lv' := [(4, .int (y4 + 1)), (0, .ref h), (2, .int y2), (3, .int y3)]) hx hb d_ThumbCore_goTo_72 hl rfl rfl (by decide) rfl (fun ls hl => ?_)
        refine lv_goto (tgt := 39) hx hb d_ThumbCore_goTo_75 (by decide) ?_
        exact IH_39 H locs ls c_next (upd c_registers (laid y4.toNatClampNeg).toNatClampNeg v2) c_flags_negative c_flags_zero c_flags_carry c_flags_overflow c_exceptions_active c_exceptions_current y2 y3 (y4 + 1) hP hD hS (lv_sub hl [1, 2, 3, 0] rfl) hq (tc_lpS hinv hgd (by decide)) (by assumption)
  have hq : FF = f_ThumbCore_goTo c_memory_words c_next c_registers c_flags_negative c_flags_zero c_flags_carry c_flags_overflow c_exceptions_active c_exceptions_current x1 := hF.symm
  revert hP hD hS
  suffices G : ∀ (H : Heap) (locs : List Loc), va_P D tcl (wd_ThumbCore cI cB cZ h h_memory h_memory_words h_registers h_flags h_exceptions h_exceptions_priorities h_counter q_memory_size n_memory_words c_asleep c_locked c_next c_memory_words c_registers c_flags_negative c_flags_zero c_flags_carry c_flags_overflow c_exceptions_pending c_exceptions_active c_exceptions_current c_exceptions_masked c_exceptions_priorities c_counter_number c_counter_reload c_counter_on) H → va_D A (wd_ThumbCore cI cB cZ h h_memory h_memory_words h_registers h_flags h_exceptions h_exceptions_priorities h_counter q_memory_size n_memory_words c_asleep c_locked c_next c_memory_words c_registers c_flags_negative c_flags_zero c_flags_carry c_flags_overflow c_exceptions_pending c_exceptions_active c_exceptions_current c_exceptions_masked c_exceptions_priorities c_counter_number c_counter_reload c_counter_on) → va_S A s.heap H locs → W p l e rm_ThumbCore_goTo s m ([.ref h, .int x1] : List Value).toArray below meth c H locs 0 0 Q (F0 m 0 ls []) from fun hP hD hS => G _ _ hP hD hS
  intro H locs hP hD hS
  refine lv_aload_n hx hb d_ThumbCore_goTo_0 rfl (lv_at hl 0 rfl) ?_
  refine lv_iload_n hx hb d_ThumbCore_goTo_1 rfl (lv_at hl 1 rfl) ?_
  refine tc_rd (va_runV (As := [.int x1]) (rest := []) ⟨hx, hb, hml, hown, hts⟩ (c_ThumbCore_isReturn l D cI cB cZ h h_memory h_memory_words h_registers h_flags h_exceptions h_exceptions_priorities h_counter H.size q_memory_size n_memory_words c_asleep c_locked c_next c_memory_words c_registers c_flags_negative c_flags_zero c_flags_carry c_flags_overflow c_exceptions_pending c_exceptions_active c_exceptions_current c_exceptions_masked c_exceptions_priorities c_counter_number c_counter_reload c_counter_on x1) (cwV 1 hts (tc_gV wl_ThumbCore_238 wm_ThumbCore_isReturn ws_ThumbCore_isReturn wi_ThumbCore wc_ThumbCore_isReturn) rfl rfl rfl (by decide +kernel) ⟨Nat.le_of_ble_eq_true rfl, Nat.le_of_ble_eq_true rfl⟩) (tc_preV hK hN hP hD [0, 1, 2, 3, 4, 5, 6, 7] rfl (by decide) (q0 := 0) rfl rfl) rfl rfl hl.1 rfl (lv_room (Nat.le_of_ble_eq_true rfl)) d_ThumbCore_goTo_2 (by decide)) ?_
  refine tc_topb (fun v1 e_v1 => ?_)
  have hq := tc_nm hq e_v1
  refine lv_if_ne (tgt := 16) hx hb d_ThumbCore_goTo_5 (by decide) (fun g_5 => ?_) (fun g_5 => ?_)
  · have hq := hq.trans (if_pos g_5)
    refine lv_aload_n hx hb d_ThumbCore_goTo_16 rfl (lv_at hl 0 rfl) ?_
    refine va_get (D := D) (ci := 4) (v := .ref h_registers) (C := R_ThumbCore) (T := F_ThumbCore) (N := 8) hx hb hts u_ThumbCore hown hK hP 0 rfl rfl 1 (by decide) (hts _ wf_ThumbCore_27) (fun _ h9 => h9) rfl d_ThumbCore_goTo_17 ?_
    refine lv_bipush (v := 13) hx hb d_ThumbCore_goTo_20 (by decide) ?_
    refine va_iald hx hb hK hP 3 0 rfl rfl (by show ¬ (_ ∨ _); decide) d_ThumbCore_goTo_22 ?_
    refine lv_topi (fun v2 e_v2 => ?_)
    have hq := tc_nm hq e_v2
    refine lv_istore_n (lv' := [(2, .int v2), (0, .ref h), (1, .int x1)]) hx hb d_ThumbCore_goTo_23 rfl hl (by decide) rfl (fun ls hl => ?_)
    refine lv_aload_n hx hb d_ThumbCore_goTo_24 rfl (lv_at hl 1 rfl) ?_
    refine va_get (D := D) (ci := 4) (v := .ref h_memory) (C := R_ThumbCore) (T := F_ThumbCore) (N := 8) hx hb hts u_ThumbCore hown hK hP 0 rfl rfl 0 (by decide) (hts _ wf_ThumbCore_21) (fun _ h9 => h9) rfl d_ThumbCore_goTo_25 ?_
    refine lv_iload_n hx hb d_ThumbCore_goTo_28 rfl (lv_at hl 0 rfl) ?_
    refine lv_bipush (v := 28) hx hb d_ThumbCore_goTo_29 (by decide) ?_
    refine lv_iadd hx hb d_ThumbCore_goTo_31 ?_
    refine tc_rd (va_runV (As := [.int (v2 + 28)]) (rest := []) ⟨hx, hb, hml, hown, hts⟩ (c_Memory_word l D cI cB cZ h_memory h_memory_words H.size q_memory_size n_memory_words c_memory_words (v2 + 28) hm (by rw [e_v2]; exact tc_fitOk hm (hg (tc_bT e_v1 g_5)) (by decide) (by decide))) (cwV 1 hts (tc_gV wl_ThumbCore_66 wm_Memory_word ws_Memory_word wi_Memory wc_Memory_word) rfl rfl rfl (by decide +kernel) ⟨Nat.le_of_ble_eq_true rfl, Nat.le_of_ble_eq_true rfl⟩) (tc_preV hK hN hP hD [1, 2] rfl (by decide) (q0 := 1) rfl rfl) rfl rfl hl.1 rfl (lv_room (Nat.le_of_ble_eq_true rfl)) d_ThumbCore_goTo_32 (by decide)) ?_
    refine lv_topi (fun v3 e_v3 => ?_)
    have hq := tc_nm hq e_v3
    refine lv_istore_n (lv' := [(3, .int v3), (2, .int v2), (0, .ref h), (1, .int x1)]) hx hb d_ThumbCore_goTo_35 rfl hl (by decide) rfl (fun ls hl => ?_)
    refine lv_iconst (v := 0) hx hb d_ThumbCore_goTo_36 (by decide) ?_
    refine lv_istore (lv' := [(4, .int 0), (3, .int v3), (2, .int v2), (0, .ref h), (1, .int x1)]) hx hb d_ThumbCore_goTo_37 hl (by decide) rfl (fun ls hl => ?_)
    exact J_39 (7) H locs ls c_next c_registers c_flags_negative c_flags_zero c_flags_carry c_flags_overflow c_exceptions_active c_exceptions_current v2 v3 0 hP hD hS (lv_sub hl [3, 2, 1, 0] rfl) hq (tc_lpE _) (by rw [e_v2]; exact hg (tc_bT e_v1 g_5))
  · have hq := hq.trans (if_neg (fun g => g g_5))
    refine lv_aload_n hx hb d_ThumbCore_goTo_8 rfl (lv_at hl 0 rfl) ?_
    refine lv_iload_n hx hb d_ThumbCore_goTo_9 rfl (lv_at hl 1 rfl) ?_
    refine lv_iconst (v := 1) hx hb d_ThumbCore_goTo_10 (by decide) ?_
    refine lv_isub hx hb d_ThumbCore_goTo_11 ?_
    refine va_put (D := D) (ci := 4) (v := .int (x1 - 1)) (ty := .int) (C := R_ThumbCore) (T := F_ThumbCore) (N := 8) hx hb hts u_ThumbCore t_ThumbCore t_ThumbCore_ok n_ThumbCore hown hK hP hD hS 0 rfl rfl 7 (by decide) (hts _ wf_ThumbCore_111) (fun _ h9 => h9) rfl (by decide +kernel) rfl rfl (Nat.le_of_ble_eq_true rfl) d_ThumbCore_goTo_12 (fun H locs hP hD hS => ?_)
    have hP : va_P D tcl (wd_ThumbCore cI cB cZ h h_memory h_memory_words h_registers h_flags h_exceptions h_exceptions_priorities h_counter q_memory_size n_memory_words c_asleep c_locked (x1 - 1) c_memory_words c_registers c_flags_negative c_flags_zero c_flags_carry c_flags_overflow c_exceptions_pending c_exceptions_active c_exceptions_current c_exceptions_masked c_exceptions_priorities c_counter_number c_counter_reload c_counter_on) H := hP
    have hD : va_D A (wd_ThumbCore cI cB cZ h h_memory h_memory_words h_registers h_flags h_exceptions h_exceptions_priorities h_counter q_memory_size n_memory_words c_asleep c_locked (x1 - 1) c_memory_words c_registers c_flags_negative c_flags_zero c_flags_carry c_flags_overflow c_exceptions_pending c_exceptions_active c_exceptions_current c_exceptions_masked c_exceptions_priorities c_counter_number c_counter_reload c_counter_on) := hD
    exact RET H locs ls 15 ((x1 - 1), c_registers, c_flags_negative, c_flags_zero, c_flags_carry, c_flags_overflow, c_exceptions_active, c_exceptions_current) d_ThumbCore_goTo_15 hP hD hS hq
abbrev rm_ThumbCore_branchTo : Room := { frames := 4, cells := 0, slots := 0, locals := 89 }
set_option maxHeartbeats 4000000 in
set_option maxRecDepth 100000 in
theorem c_ThumbCore_branchTo (l : Launch) (D : va_G) (cI cB cZ : ClassId) (h h_memory h_memory_words h_registers h_flags h_exceptions h_exceptions_priorities h_counter tL sz : Nat) (q_memory_size : Int32) (n_memory_words : Nat) (c_asleep : Bool) (c_locked : Bool) (c_next : Int32) (c_memory_words : Nat → Int32) (c_registers : Nat → Int32) (c_flags_negative : Bool) (c_flags_zero : Bool) (c_flags_carry : Bool) (c_flags_overflow : Bool) (c_exceptions_pending : Int32) (c_exceptions_active : Int32) (c_exceptions_current : Int32) (c_exceptions_masked : Bool) (c_exceptions_priorities : Nat → Int32) (c_counter_number : Int32) (c_counter_reload : Int32) (c_counter_on : Bool) (x1 : Int32) (x2 : Bool) (hm : tc_mem q_memory_size n_memory_words) : Met l y_ThumbCore_branchTo (.code y_ThumbCore_branchTo b_ThumbCore_branchTo 3 (some .boolean) :: tcb) rm_ThumbCore_branchTo (tc_Pw D tcl (tys cI cB cZ) (wd_ThumbCore cI cB cZ h h_memory h_memory_words h_registers h_flags h_exceptions h_exceptions_priorities h_counter q_memory_size n_memory_words c_asleep c_locked c_next c_memory_words c_registers c_flags_negative c_flags_zero c_flags_carry c_flags_overflow c_exceptions_pending c_exceptions_active c_exceptions_current c_exceptions_masked c_exceptions_priorities c_counter_number c_counter_reload c_counter_on) sz ([.ref h, .int x1, .int (bI x2)] : List Value) (some tL)) (tc_Qz D tcl (wd_ThumbCore cI cB cZ h h_memory h_memory_words h_registers h_flags h_exceptions h_exceptions_priorities h_counter q_memory_size n_memory_words c_asleep c_locked c_next c_memory_words c_registers c_flags_negative c_flags_zero c_flags_carry c_flags_overflow c_exceptions_pending c_exceptions_active c_exceptions_current c_exceptions_masked c_exceptions_priorities c_counter_number c_counter_reload c_counter_on) sz (fun u => (wd_ThumbCore cI cB cZ h h_memory h_memory_words h_registers h_flags h_exceptions h_exceptions_priorities h_counter q_memory_size n_memory_words c_asleep c_locked u.2.1 c_memory_words u.2.2.1 u.2.2.2.1 u.2.2.2.2.1 u.2.2.2.2.2.1 u.2.2.2.2.2.2.1 c_exceptions_pending u.2.2.2.2.2.2.2.1 u.2.2.2.2.2.2.2.2 c_exceptions_masked c_exceptions_priorities c_counter_number c_counter_reload c_counter_on)) (f_ThumbCore_branchTo q_memory_size c_memory_words c_next c_registers c_flags_negative c_flags_zero c_flags_carry c_flags_overflow c_exceptions_active c_exceptions_current x1 x2)) 0 0 (va_A (wd_ThumbCore cI cB cZ h h_memory h_memory_words h_registers h_flags h_exceptions h_exceptions_priorities h_counter q_memory_size n_memory_words c_asleep c_locked c_next c_memory_words c_registers c_flags_negative c_flags_zero c_flags_carry c_flags_overflow c_exceptions_pending c_exceptions_active c_exceptions_current c_exceptions_masked c_exceptions_priorities c_counter_number c_counter_reload c_counter_on) sz) := by
  refine tc_mu_z (by decide) (Nat.le_of_ble_eq_true rfl) ?_
  intro p e s m below meth c A Q ls hx hb hml hts hown hK hN hP hD hA hZ hl RET
  have hS : va_S A s.heap s.heap [] := va_S.rf
  have hZ : va_Z "ThumbCore" "LAID" "[I" (.ref tL) A s s.heap ∧ va_T .int tL 6 (fun j => .int (laid j)) A s s.heap := hZ
  have hl : lv_has ls 3 [(0, .ref h), (1, .int x1), (2, .int (bI x2))] := hl
  generalize hF : f_ThumbCore_branchTo q_memory_size c_memory_words c_next c_registers c_flags_negative c_flags_zero c_flags_carry c_flags_overflow c_exceptions_active c_exceptions_current x1 x2 = FF at RET
  have J_42 : ∀ (H : Heap) (locs : List Loc) (ls : Array Slot) (c_next : Int32) (c_registers : Nat → Int32) (c_flags_negative : Bool) (c_flags_zero : Bool) (c_flags_carry : Bool) (c_flags_overflow : Bool) (c_exceptions_active : Int32) (c_exceptions_current : Int32) (y1 : Int32), va_P D tcl (wd_ThumbCore cI cB cZ h h_memory h_memory_words h_registers h_flags h_exceptions h_exceptions_priorities h_counter q_memory_size n_memory_words c_asleep c_locked c_next c_memory_words c_registers c_flags_negative c_flags_zero c_flags_carry c_flags_overflow c_exceptions_pending c_exceptions_active c_exceptions_current c_exceptions_masked c_exceptions_priorities c_counter_number c_counter_reload c_counter_on) H → va_D A (wd_ThumbCore cI cB cZ h h_memory h_memory_words h_registers h_flags h_exceptions h_exceptions_priorities h_counter q_memory_size n_memory_words c_asleep c_locked c_next c_memory_words c_registers c_flags_negative c_flags_zero c_flags_carry c_flags_overflow c_exceptions_pending c_exceptions_active c_exceptions_current c_exceptions_masked c_exceptions_priorities c_counter_number c_counter_reload c_counter_on) → va_S A s.heap H locs → lv_has ls 3 [(0, .ref h), (1, .int y1)] → FF = k_ThumbCore_branchTo_42 q_memory_size c_memory_words c_next c_registers c_flags_negative c_flags_zero c_flags_carry c_flags_overflow c_exceptions_active c_exceptions_current y1 → (f_ThumbCore_isReturn c_exceptions_active y1 = true → tc_fit q_memory_size (c_registers (13 : Int32).toNatClampNeg) 32) → W p l e rm_ThumbCore_branchTo s m ([.ref h, .int x1, .int (bI x2)] : List Value).toArray below meth c H locs 0 0 Q (F0 m 42 ls []) := by
    intro H locs ls c_next c_registers c_flags_negative c_flags_zero c_flags_carry c_flags_overflow c_exceptions_active c_exceptions_current y1 hP hD hS hl hq hg42
    refine lv_aload_n hx hb d_ThumbCore_branchTo_42 rfl (lv_at hl 0 rfl) ?_
    refine lv_iload_n hx hb d_ThumbCore_branchTo_43 rfl (lv_at hl 1 rfl) ?_
    refine tc_mv (wo := fun u => (wd_ThumbCore cI cB cZ h h_memory h_memory_words h_registers h_flags h_exceptions h_exceptions_priorities h_counter q_memory_size n_memory_words c_asleep c_locked u.1 c_memory_words u.2.1 u.2.2.1 u.2.2.2.1 u.2.2.2.2.1 u.2.2.2.2.2.1 c_exceptions_pending u.2.2.2.2.2.2.1 u.2.2.2.2.2.2.2 c_exceptions_masked c_exceptions_priorities c_counter_number c_counter_reload c_counter_on)) (va_runV (As := [.int y1]) (rest := []) ⟨hx, hb, hml, hown, hts⟩ (c_ThumbCore_goTo l D cI cB cZ h h_memory h_memory_words h_registers h_flags h_exceptions h_exceptions_priorities h_counter tL H.size q_memory_size n_memory_words c_asleep c_locked c_next c_memory_words c_registers c_flags_negative c_flags_zero c_flags_carry c_flags_overflow c_exceptions_pending c_exceptions_active c_exceptions_current c_exceptions_masked c_exceptions_priorities c_counter_number c_counter_reload c_counter_on y1 hm hg42) (cwV 1 hts (tc_gV wl_ThumbCore_241 wm_ThumbCore_goTo ws_ThumbCore_goTo wi_ThumbCore wc_ThumbCore_goTo) rfl rfl rfl (by decide +kernel) ⟨Nat.le_of_ble_eq_true rfl, Nat.le_of_ble_eq_true rfl⟩) (tc_preVZ hK hN hP hD hS hA hZ [0, 1, 2, 3, 4, 5, 6, 7] rfl (by decide) (q0 := 0) rfl rfl) rfl rfl hl.1 rfl (lv_room (Nat.le_of_ble_eq_true rfl)) d_ThumbCore_branchTo_44 (by decide)) hP hD hS hA [0, 1, 2, 3, 4, 5, 6, 7] [] [0, 1, 2, 3, 4, 5, 6, 7] rfl rfl (by decide) (by decide) (by decide) (fun _ => rfl) (fun u H locs hu hP hD hS => ?_)
    obtain ⟨s1, s2, s3, s4, s5, s6, s7, s8⟩ := u
    have hq := hq.trans (un8_eq hu _)
    have e_s1 := hu
    have hP : va_P D tcl (wd_ThumbCore cI cB cZ h h_memory h_memory_words h_registers h_flags h_exceptions h_exceptions_priorities h_counter q_memory_size n_memory_words c_asleep c_locked s1 c_memory_words s2 s3 s4 s5 s6 c_exceptions_pending s7 s8 c_exceptions_masked c_exceptions_priorities c_counter_number c_counter_reload c_counter_on) H := hP
    have hD : va_D A (wd_ThumbCore cI cB cZ h h_memory h_memory_words h_registers h_flags h_exceptions h_exceptions_priorities h_counter q_memory_size n_memory_words c_asleep c_locked s1 c_memory_words s2 s3 s4 s5 s6 c_exceptions_pending s7 s8 c_exceptions_masked c_exceptions_priorities c_counter_number c_counter_reload c_counter_on) := hD
    refine lv_iconst (v := 1) hx hb d_ThumbCore_branchTo_47 (by decide) ?_
    exact RET H locs ls 48 (true, s1, s2, s3, s4, s5, s6, s7, s8) d_ThumbCore_branchTo_48 hP hD hS hq
  have hq : FF = f_ThumbCore_branchTo q_memory_size c_memory_words c_next c_registers c_flags_negative c_flags_zero c_flags_carry c_flags_overflow c_exceptions_active c_exceptions_current x1 x2 := hF.symm
  revert hP hD hS
  suffices G : ∀ (H : Heap) (locs : List Loc), va_P D tcl (wd_ThumbCore cI cB cZ h h_memory h_memory_words h_registers h_flags h_exceptions h_exceptions_priorities h_counter q_memory_size n_memory_words c_asleep c_locked c_next c_memory_words c_registers c_flags_negative c_flags_zero c_flags_carry c_flags_overflow c_exceptions_pending c_exceptions_active c_exceptions_current c_exceptions_masked c_exceptions_priorities c_counter_number c_counter_reload c_counter_on) H → va_D A (wd_ThumbCore cI cB cZ h h_memory h_memory_words h_registers h_flags h_exceptions h_exceptions_priorities h_counter q_memory_size n_memory_words c_asleep c_locked c_next c_memory_words c_registers c_flags_negative c_flags_zero c_flags_carry c_flags_overflow c_exceptions_pending c_exceptions_active c_exceptions_current c_exceptions_masked c_exceptions_priorities c_counter_number c_counter_reload c_counter_on) → va_S A s.heap H locs → W p l e rm_ThumbCore_branchTo s m ([.ref h, .int x1, .int (bI x2)] : List Value).toArray below meth c H locs 0 0 Q (F0 m 0 ls []) from fun hP hD hS => G _ _ hP hD hS
  intro H locs hP hD hS
  refine lv_aload_n hx hb d_ThumbCore_branchTo_0 rfl (lv_at hl 0 rfl) ?_
  refine lv_iload_n hx hb d_ThumbCore_branchTo_1 rfl (lv_at hl 1 rfl) ?_
  refine lv_aload_n hx hb d_ThumbCore_branchTo_2 rfl (lv_at hl 0 rfl) ?_
  refine va_get (D := D) (ci := 4) (v := .ref h_registers) (C := R_ThumbCore) (T := F_ThumbCore) (N := 8) hx hb hts u_ThumbCore hown hK hP 0 rfl rfl 1 (by decide) (hts _ wf_ThumbCore_27) (fun _ h9 => h9) rfl d_ThumbCore_branchTo_3 ?_
  refine lv_bipush (v := 13) hx hb d_ThumbCore_branchTo_6 (by decide) ?_
  refine va_iald hx hb hK hP 3 0 rfl rfl (by show ¬ (_ ∨ _); decide) d_ThumbCore_branchTo_8 ?_
  refine tc_rd (va_runV (As := [.int x1, .int (c_registers (13 : Int32).toNatClampNeg)]) (rest := []) ⟨hx, hb, hml, hown, hts⟩ (c_ThumbCore_mayGoTo l D cI cB cZ h h_memory h_memory_words h_registers h_flags h_exceptions h_exceptions_priorities h_counter H.size q_memory_size n_memory_words c_asleep c_locked c_next c_memory_words c_registers c_flags_negative c_flags_zero c_flags_carry c_flags_overflow c_exceptions_pending c_exceptions_active c_exceptions_current c_exceptions_masked c_exceptions_priorities c_counter_number c_counter_reload c_counter_on x1 (c_registers (13 : Int32).toNatClampNeg) hm) (cwV 2 hts (tc_gV wl_ThumbCore_235 wm_ThumbCore_mayGoTo ws_ThumbCore_mayGoTo wi_ThumbCore wc_ThumbCore_mayGoTo) rfl rfl rfl (by decide +kernel) ⟨Nat.le_of_ble_eq_true rfl, Nat.le_of_ble_eq_true rfl⟩) (tc_preV hK hN hP hD [0, 1, 2, 3, 4, 5, 6, 7] rfl (by decide) (q0 := 0) rfl rfl) rfl rfl hl.1 rfl (lv_room (Nat.le_of_ble_eq_true rfl)) d_ThumbCore_branchTo_9 (by decide)) ?_
  refine tc_topb (fun v1 e_v1 => ?_)
  have hq := tc_nm hq e_v1
  refine lv_if_ne (tgt := 17) hx hb d_ThumbCore_branchTo_12 (by decide) (fun g_12 => ?_) (fun g_12 => ?_)
  · have hq := hq.trans (if_pos g_12)
    refine lv_iload_n hx hb d_ThumbCore_branchTo_17 rfl (lv_at hl 2 rfl) ?_
    refine lv_if_eq (tgt := 42) hx hb d_ThumbCore_branchTo_18 (by decide) (fun g_18 => ?_) (fun g_18 => ?_)
    · have hq := hq.trans (if_pos g_18)
      exact J_42 H locs ls c_next c_registers c_flags_negative c_flags_zero c_flags_carry c_flags_overflow c_exceptions_active c_exceptions_current x1 hP hD hS (lv_sub hl [0, 1] rfl) hq (fun hr => tc_mayT hm (tc_bT e_v1 g_12) hr)
    · have hq := hq.trans (if_neg g_18)
      refine lv_aload_n hx hb d_ThumbCore_branchTo_21 rfl (lv_at hl 0 rfl) ?_
      refine lv_iload_n hx hb d_ThumbCore_branchTo_22 rfl (lv_at hl 1 rfl) ?_
      refine tc_rd (va_runV (As := [.int x1]) (rest := []) ⟨hx, hb, hml, hown, hts⟩ (c_ThumbCore_isReturn l D cI cB cZ h h_memory h_memory_words h_registers h_flags h_exceptions h_exceptions_priorities h_counter H.size q_memory_size n_memory_words c_asleep c_locked c_next c_memory_words c_registers c_flags_negative c_flags_zero c_flags_carry c_flags_overflow c_exceptions_pending c_exceptions_active c_exceptions_current c_exceptions_masked c_exceptions_priorities c_counter_number c_counter_reload c_counter_on x1) (cwV 1 hts (tc_gV wl_ThumbCore_238 wm_ThumbCore_isReturn ws_ThumbCore_isReturn wi_ThumbCore wc_ThumbCore_isReturn) rfl rfl rfl (by decide +kernel) ⟨Nat.le_of_ble_eq_true rfl, Nat.le_of_ble_eq_true rfl⟩) (tc_preV hK hN hP hD [0, 1, 2, 3, 4, 5, 6, 7] rfl (by decide) (q0 := 0) rfl rfl) rfl rfl hl.1 rfl (lv_room (Nat.le_of_ble_eq_true rfl)) d_ThumbCore_branchTo_23 (by decide)) ?_
      refine tc_topb (fun v2 e_v2 => ?_)
      have hq := tc_nm hq e_v2
      refine lv_if_ne (tgt := 42) hx hb d_ThumbCore_branchTo_26 (by decide) (fun g_26 => ?_) (fun g_26 => ?_)
      · have hq := hq.trans (if_pos g_26)
        exact J_42 H locs ls c_next c_registers c_flags_negative c_flags_zero c_flags_carry c_flags_overflow c_exceptions_active c_exceptions_current x1 hP hD hS (lv_sub hl [0, 1] rfl) hq (fun hr => tc_mayT hm (tc_bT e_v1 g_12) hr)
      · have hq := hq.trans (if_neg (fun g => g g_26))
        refine lv_aload_n hx hb d_ThumbCore_branchTo_29 rfl (lv_at hl 0 rfl) ?_
        refine va_get (D := D) (ci := 4) (v := .ref h_registers) (C := R_ThumbCore) (T := F_ThumbCore) (N := 8) hx hb hts u_ThumbCore hown hK hP 0 rfl rfl 1 (by decide) (hts _ wf_ThumbCore_27) (fun _ h9 => h9) rfl d_ThumbCore_branchTo_30 ?_
        refine lv_bipush (v := 14) hx hb d_ThumbCore_branchTo_33 (by decide) ?_
        refine lv_aload_n hx hb d_ThumbCore_branchTo_35 rfl (lv_at hl 0 rfl) ?_
        refine va_get (D := D) (ci := 4) (v := .int c_next) (C := R_ThumbCore) (T := F_ThumbCore) (N := 8) hx hb hts u_ThumbCore hown hK hP 0 rfl rfl 7 (by decide) (hts _ wf_ThumbCore_111) (fun _ h9 => h9) rfl d_ThumbCore_branchTo_36 ?_
        refine lv_iconst (v := 1) hx hb d_ThumbCore_branchTo_39 (by decide) ?_
        refine lv_iadd hx hb d_ThumbCore_branchTo_40 ?_
        refine va_iast hx hb hK hP hD hS 3 0 rfl rfl (by show ¬ (_ ∨ _); decide) d_ThumbCore_branchTo_41 (fun H locs hP hD hS => ?_)
        have hP : va_P D tcl (wd_ThumbCore cI cB cZ h h_memory h_memory_words h_registers h_flags h_exceptions h_exceptions_priorities h_counter q_memory_size n_memory_words c_asleep c_locked c_next c_memory_words (upd c_registers (14 : Int32).toNatClampNeg (c_next + 1)) c_flags_negative c_flags_zero c_flags_carry c_flags_overflow c_exceptions_pending c_exceptions_active c_exceptions_current c_exceptions_masked c_exceptions_priorities c_counter_number c_counter_reload c_counter_on) H := hP
        have hD : va_D A (wd_ThumbCore cI cB cZ h h_memory h_memory_words h_registers h_flags h_exceptions h_exceptions_priorities h_counter q_memory_size n_memory_words c_asleep c_locked c_next c_memory_words (upd c_registers (14 : Int32).toNatClampNeg (c_next + 1)) c_flags_negative c_flags_zero c_flags_carry c_flags_overflow c_exceptions_pending c_exceptions_active c_exceptions_current c_exceptions_masked c_exceptions_priorities c_counter_number c_counter_reload c_counter_on) := hD
        exact J_42 H locs ls c_next (upd c_registers (14 : Int32).toNatClampNeg (c_next + 1)) c_flags_negative c_flags_zero c_flags_carry c_flags_overflow c_exceptions_active c_exceptions_current x1 hP hD hS (lv_sub hl [0, 1] rfl) hq (fun hr => tc_fitU (tc_mayT hm (tc_bT e_v1 g_12) hr))
  · have hq := hq.trans (if_neg (fun g => g g_12))
    refine lv_iconst (v := 0) hx hb d_ThumbCore_branchTo_15 (by decide) ?_
    exact RET H locs ls 16 (false, c_next, c_registers, c_flags_negative, c_flags_zero, c_flags_carry, c_flags_overflow, c_exceptions_active, c_exceptions_current) d_ThumbCore_branchTo_16 hP hD hS hq
abbrev rm_ThumbCore_withHigh : Room := { frames := 5, cells := 0, slots := 0, locals := 111 }
set_option maxHeartbeats 4000000 in
set_option maxRecDepth 100000 in
theorem c_ThumbCore_withHigh (l : Launch) (D : va_G) (cI cB cZ : ClassId) (h h_memory h_memory_words h_registers h_flags h_exceptions h_exceptions_priorities h_counter tL sz : Nat) (q_memory_size : Int32) (n_memory_words : Nat) (c_asleep : Bool) (c_locked : Bool) (c_next : Int32) (c_memory_words : Nat → Int32) (c_registers : Nat → Int32) (c_flags_negative : Bool) (c_flags_zero : Bool) (c_flags_carry : Bool) (c_flags_overflow : Bool) (c_exceptions_pending : Int32) (c_exceptions_active : Int32) (c_exceptions_current : Int32) (c_exceptions_masked : Bool) (c_exceptions_priorities : Nat → Int32) (c_counter_number : Int32) (c_counter_reload : Int32) (c_counter_on : Bool) (x1 : Int32) (hm : tc_mem q_memory_size n_memory_words) : Met l y_ThumbCore_withHigh (.code y_ThumbCore_withHigh b_ThumbCore_withHigh 4 (some .boolean) :: tcb) rm_ThumbCore_withHigh (tc_Pw D tcl (tys cI cB cZ) (wd_ThumbCore cI cB cZ h h_memory h_memory_words h_registers h_flags h_exceptions h_exceptions_priorities h_counter q_memory_size n_memory_words c_asleep c_locked c_next c_memory_words c_registers c_flags_negative c_flags_zero c_flags_carry c_flags_overflow c_exceptions_pending c_exceptions_active c_exceptions_current c_exceptions_masked c_exceptions_priorities c_counter_number c_counter_reload c_counter_on) sz ([.ref h, .int x1] : List Value) (some tL)) (tc_Qz D tcl (wd_ThumbCore cI cB cZ h h_memory h_memory_words h_registers h_flags h_exceptions h_exceptions_priorities h_counter q_memory_size n_memory_words c_asleep c_locked c_next c_memory_words c_registers c_flags_negative c_flags_zero c_flags_carry c_flags_overflow c_exceptions_pending c_exceptions_active c_exceptions_current c_exceptions_masked c_exceptions_priorities c_counter_number c_counter_reload c_counter_on) sz (fun u => (wd_ThumbCore cI cB cZ h h_memory h_memory_words h_registers h_flags h_exceptions h_exceptions_priorities h_counter q_memory_size n_memory_words c_asleep c_locked u.2.1 c_memory_words u.2.2.1 u.2.2.2.1 u.2.2.2.2.1 u.2.2.2.2.2.1 u.2.2.2.2.2.2.1 c_exceptions_pending u.2.2.2.2.2.2.2.1 u.2.2.2.2.2.2.2.2 c_exceptions_masked c_exceptions_priorities c_counter_number c_counter_reload c_counter_on)) (f_ThumbCore_withHigh q_memory_size c_memory_words c_next c_registers c_flags_negative c_flags_zero c_flags_carry c_flags_overflow c_exceptions_active c_exceptions_current x1)) 0 0 (va_A (wd_ThumbCore cI cB cZ h h_memory h_memory_words h_registers h_flags h_exceptions h_exceptions_priorities h_counter q_memory_size n_memory_words c_asleep c_locked c_next c_memory_words c_registers c_flags_negative c_flags_zero c_flags_carry c_flags_overflow c_exceptions_pending c_exceptions_active c_exceptions_current c_exceptions_masked c_exceptions_priorities c_counter_number c_counter_reload c_counter_on) sz) := by
  refine tc_mu_z (by decide) (Nat.le_of_ble_eq_true rfl) ?_
  intro p e s m below meth c A Q ls hx hb hml hts hown hK hN hP hD hA hZ hl RET
  have hS : va_S A s.heap s.heap [] := va_S.rf
  have hZ : va_Z "ThumbCore" "LAID" "[I" (.ref tL) A s s.heap ∧ va_T .int tL 6 (fun j => .int (laid j)) A s s.heap := hZ
  have hl : lv_has ls 4 [(0, .ref h), (1, .int x1)] := hl
  generalize hF : f_ThumbCore_withHigh q_memory_size c_memory_words c_next c_registers c_flags_negative c_flags_zero c_flags_carry c_flags_overflow c_exceptions_active c_exceptions_current x1 = FF at RET
  have J_82 : ∀ (H : Heap) (locs : List Loc) (ls : Array Slot) (c_next : Int32) (c_registers : Nat → Int32) (c_flags_negative : Bool) (c_flags_zero : Bool) (c_flags_carry : Bool) (c_flags_overflow : Bool) (c_exceptions_active : Int32) (c_exceptions_current : Int32) (y2 : Int32) (y3 : Int32), va_P D tcl (wd_ThumbCore cI cB cZ h h_memory h_memory_words h_registers h_flags h_exceptions h_exceptions_priorities h_counter q_memory_size n_memory_words c_asleep c_locked c_next c_memory_words c_registers c_flags_negative c_flags_zero c_flags_carry c_flags_overflow c_exceptions_pending c_exceptions_active c_exceptions_current c_exceptions_masked c_exceptions_priorities c_counter_number c_counter_reload c_counter_on) H → va_D A (wd_ThumbCore cI cB cZ h h_memory h_memory_words h_registers h_flags h_exceptions h_exceptions_priorities h_counter q_memory_size n_memory_words c_asleep c_locked c_next c_memory_words c_registers c_flags_negative c_flags_zero c_flags_carry c_flags_overflow c_exceptions_pending c_exceptions_active c_exceptions_current c_exceptions_masked c_exceptions_priorities c_counter_number c_counter_reload c_counter_on) → va_S A s.heap H locs → lv_has ls 4 [(0, .ref h), (2, .int y2), (3, .int y3)] → FF = k_ThumbCore_withHigh_82 q_memory_size c_memory_words c_next c_registers c_flags_negative c_flags_zero c_flags_carry c_flags_overflow c_exceptions_active c_exceptions_current y2 y3 → (vp_in y2 16) → (vp_in y3 16) → W p l e rm_ThumbCore_withHigh s m ([.ref h, .int x1] : List Value).toArray below meth c H locs 0 0 Q (F0 m 82 ls []) := by
    intro H locs ls c_next c_registers c_flags_negative c_flags_zero c_flags_carry c_flags_overflow c_exceptions_active c_exceptions_current y2 y3 hP hD hS hl hq hi_y2 hi_y3
    refine lv_iload_n hx hb d_ThumbCore_withHigh_82 rfl (lv_at hl 1 rfl) ?_
    refine lv_bipush (v := 15) hx hb d_ThumbCore_withHigh_83 (by decide) ?_
    refine lv_icmp_eq (tgt := 94) hx hb d_ThumbCore_withHigh_85 (by decide) (fun g_85 => ?_) (fun g_85 => ?_)
    · have hq := hq.trans (if_pos g_85)
      refine lv_iconst (v := 0) hx hb d_ThumbCore_withHigh_94 (by decide) ?_
      exact RET H locs ls 95 (false, c_next, c_registers, c_flags_negative, c_flags_zero, c_flags_carry, c_flags_overflow, c_exceptions_active, c_exceptions_current) d_ThumbCore_withHigh_95 hP hD hS hq
    · have hq := hq.trans (if_neg g_85)
      refine lv_iload_n hx hb d_ThumbCore_withHigh_88 rfl (lv_at hl 2 rfl) ?_
      refine lv_bipush (v := 15) hx hb d_ThumbCore_withHigh_89 (by decide) ?_
      refine lv_icmp_ne (tgt := 96) hx hb d_ThumbCore_withHigh_91 (by decide) (fun g_91 => ?_) (fun g_91 => ?_)
      · have hq := hq.trans (if_pos g_91)
        refine lv_aload_n hx hb d_ThumbCore_withHigh_96 rfl (lv_at hl 0 rfl) ?_
        refine va_get (D := D) (ci := 4) (v := .ref h_flags) (C := R_ThumbCore) (T := F_ThumbCore) (N := 8) hx hb hts u_ThumbCore hown hK hP 0 rfl rfl 2 (by decide) (hts _ wf_ThumbCore_34) (fun _ h9 => h9) rfl d_ThumbCore_withHigh_97 ?_
        refine lv_aload_n hx hb d_ThumbCore_withHigh_100 rfl (lv_at hl 0 rfl) ?_
        refine va_get (D := D) (ci := 4) (v := .ref h_registers) (C := R_ThumbCore) (T := F_ThumbCore) (N := 8) hx hb hts u_ThumbCore hown hK hP 0 rfl rfl 1 (by decide) (hts _ wf_ThumbCore_27) (fun _ h9 => h9) rfl d_ThumbCore_withHigh_101 ?_
        refine lv_iload_n hx hb d_ThumbCore_withHigh_104 rfl (lv_at hl 1 rfl) ?_
        refine va_iald hx hb hK hP 3 0 rfl rfl hi_y2 d_ThumbCore_withHigh_105 ?_
        refine lv_aload_n hx hb d_ThumbCore_withHigh_106 rfl (lv_at hl 0 rfl) ?_
        refine va_get (D := D) (ci := 4) (v := .ref h_registers) (C := R_ThumbCore) (T := F_ThumbCore) (N := 8) hx hb hts u_ThumbCore hown hK hP 0 rfl rfl 1 (by decide) (hts _ wf_ThumbCore_27) (fun _ h9 => h9) rfl d_ThumbCore_withHigh_107 ?_
        refine lv_iload_n hx hb d_ThumbCore_withHigh_110 rfl (lv_at hl 2 rfl) ?_
        refine va_iald hx hb hK hP 3 0 rfl rfl hi_y3 d_ThumbCore_withHigh_111 ?_
        refine lv_iconst (v := (-1)) hx hb d_ThumbCore_withHigh_112 (by decide) ?_
        refine lv_ixor hx hb d_ThumbCore_withHigh_113 ?_
        refine lv_iconst (v := 1) hx hb d_ThumbCore_withHigh_114 (by decide) ?_
        refine tc_mi (wo := fun u => (wd_ThumbCore cI cB cZ h h_memory h_memory_words h_registers h_flags h_exceptions h_exceptions_priorities h_counter q_memory_size n_memory_words c_asleep c_locked c_next c_memory_words c_registers u.2.1 u.2.2.1 u.2.2.2.1 u.2.2.2.2 c_exceptions_pending c_exceptions_active c_exceptions_current c_exceptions_masked c_exceptions_priorities c_counter_number c_counter_reload c_counter_on)) (va_runV (As := [.int (c_registers y2.toNatClampNeg), .int ((c_registers y3.toNatClampNeg) ^^^ (-1)), .int 1]) (rest := []) ⟨hx, hb, hml, hown, hts⟩ (c_Flags_add l D cI cB cZ h_flags H.size c_flags_negative c_flags_zero c_flags_carry c_flags_overflow (c_registers y2.toNatClampNeg) ((c_registers y3.toNatClampNeg) ^^^ (-1)) 1) (cwV 3 hts (tc_gV wl_ThumbCore_209 wm_Flags_add ws_Flags_add wi_Flags wc_Flags_add) rfl rfl rfl (by decide +kernel) ⟨Nat.le_of_ble_eq_true rfl, Nat.le_of_ble_eq_true rfl⟩) (tc_preV hK hN hP hD [4] rfl (by decide) (q0 := 4) rfl rfl) rfl rfl hl.1 rfl (lv_room (Nat.le_of_ble_eq_true rfl)) d_ThumbCore_withHigh_115 (by decide)) hP hD hS hA [4] [0, 1, 2, 3, 5, 6, 7] [0, 1, 2, 3, 7, 4, 5, 6] rfl rfl (by decide) (by decide) (by decide) (fun _ => rfl) (fun u H locs hu hP hD hS => ?_)
        obtain ⟨r1, s2, s3, s4, s5⟩ := u
        have hq := hq.trans (un5_eq hu _)
        have e_r1 := hu
        have hP : va_P D tcl (wd_ThumbCore cI cB cZ h h_memory h_memory_words h_registers h_flags h_exceptions h_exceptions_priorities h_counter q_memory_size n_memory_words c_asleep c_locked c_next c_memory_words c_registers s2 s3 s4 s5 c_exceptions_pending c_exceptions_active c_exceptions_current c_exceptions_masked c_exceptions_priorities c_counter_number c_counter_reload c_counter_on) H := hP
        have hD : va_D A (wd_ThumbCore cI cB cZ h h_memory h_memory_words h_registers h_flags h_exceptions h_exceptions_priorities h_counter q_memory_size n_memory_words c_asleep c_locked c_next c_memory_words c_registers s2 s3 s4 s5 c_exceptions_pending c_exceptions_active c_exceptions_current c_exceptions_masked c_exceptions_priorities c_counter_number c_counter_reload c_counter_on) := hD
        refine W.eq (g2 := F0 m 118 ls [.int r1]) rfl ?_
        refine lv_pop hx hb d_ThumbCore_withHigh_118 rfl ?_
        refine lv_iconst (v := 1) hx hb d_ThumbCore_withHigh_119 (by decide) ?_
        exact RET H locs ls 120 (true, c_next, c_registers, s2, s3, s4, s5, c_exceptions_active, c_exceptions_current) d_ThumbCore_withHigh_120 hP hD hS hq
      · have hq := hq.trans (if_neg (fun g => g g_91))
        refine lv_iconst (v := 0) hx hb d_ThumbCore_withHigh_94 (by decide) ?_
        exact RET H locs ls 95 (false, c_next, c_registers, c_flags_negative, c_flags_zero, c_flags_carry, c_flags_overflow, c_exceptions_active, c_exceptions_current) d_ThumbCore_withHigh_95 hP hD hS hq
  have J_170 : ∀ (H : Heap) (locs : List Loc) (ls : Array Slot) (c_next : Int32) (c_registers : Nat → Int32) (c_flags_negative : Bool) (c_flags_zero : Bool) (c_flags_carry : Bool) (c_flags_overflow : Bool) (c_exceptions_active : Int32) (c_exceptions_current : Int32) (z1 : Int32) (z2 : Bool), va_P D tcl (wd_ThumbCore cI cB cZ h h_memory h_memory_words h_registers h_flags h_exceptions h_exceptions_priorities h_counter q_memory_size n_memory_words c_asleep c_locked c_next c_memory_words c_registers c_flags_negative c_flags_zero c_flags_carry c_flags_overflow c_exceptions_pending c_exceptions_active c_exceptions_current c_exceptions_masked c_exceptions_priorities c_counter_number c_counter_reload c_counter_on) H → va_D A (wd_ThumbCore cI cB cZ h h_memory h_memory_words h_registers h_flags h_exceptions h_exceptions_priorities h_counter q_memory_size n_memory_words c_asleep c_locked c_next c_memory_words c_registers c_flags_negative c_flags_zero c_flags_carry c_flags_overflow c_exceptions_pending c_exceptions_active c_exceptions_current c_exceptions_masked c_exceptions_priorities c_counter_number c_counter_reload c_counter_on) → va_S A s.heap H locs → lv_has ls 4 [] → FF = k_ThumbCore_withHigh_170 q_memory_size c_memory_words c_next c_registers c_flags_negative c_flags_zero c_flags_carry c_flags_overflow c_exceptions_active c_exceptions_current z1 z2 → W p l e rm_ThumbCore_withHigh s m ([.ref h, .int x1] : List Value).toArray below meth c H locs 0 0 Q (F0 m 170 ls [.int (bI z2), .int z1, .ref h]) := by
    intro H locs ls c_next c_registers c_flags_negative c_flags_zero c_flags_carry c_flags_overflow c_exceptions_active c_exceptions_current z1 z2 hP hD hS hl hq
    refine tc_mz (wo := fun u => (wd_ThumbCore cI cB cZ h h_memory h_memory_words h_registers h_flags h_exceptions h_exceptions_priorities h_counter q_memory_size n_memory_words c_asleep c_locked u.2.1 c_memory_words u.2.2.1 u.2.2.2.1 u.2.2.2.2.1 u.2.2.2.2.2.1 u.2.2.2.2.2.2.1 c_exceptions_pending u.2.2.2.2.2.2.2.1 u.2.2.2.2.2.2.2.2 c_exceptions_masked c_exceptions_priorities c_counter_number c_counter_reload c_counter_on)) (va_runV (As := [.int z1, .int (bI z2)]) (rest := []) ⟨hx, hb, hml, hown, hts⟩ (c_ThumbCore_branchTo l D cI cB cZ h h_memory h_memory_words h_registers h_flags h_exceptions h_exceptions_priorities h_counter tL H.size q_memory_size n_memory_words c_asleep c_locked c_next c_memory_words c_registers c_flags_negative c_flags_zero c_flags_carry c_flags_overflow c_exceptions_pending c_exceptions_active c_exceptions_current c_exceptions_masked c_exceptions_priorities c_counter_number c_counter_reload c_counter_on z1 z2 hm) (cwV 2 hts (tc_gV wl_ThumbCore_231 wm_ThumbCore_branchTo ws_ThumbCore_branchTo wi_ThumbCore wc_ThumbCore_branchTo) rfl rfl rfl (by decide +kernel) ⟨Nat.le_of_ble_eq_true rfl, Nat.le_of_ble_eq_true rfl⟩) (tc_preVZ hK hN hP hD hS hA hZ [0, 1, 2, 3, 4, 5, 6, 7] rfl (by decide) (q0 := 0) rfl rfl) rfl rfl hl.1 rfl (lv_room (Nat.le_of_ble_eq_true rfl)) d_ThumbCore_withHigh_170 (by decide)) hP hD hS hA [0, 1, 2, 3, 4, 5, 6, 7] [] [0, 1, 2, 3, 4, 5, 6, 7] rfl rfl (by decide) (by decide) (by decide) (fun _ => rfl) (fun u H locs hu hP hD hS => ?_)
    obtain ⟨r1, s2, s3, s4, s5, s6, s7, s8, s9⟩ := u
    have hq := hq.trans (un9_eq hu _)
    have e_r1 := hu
    have hP : va_P D tcl (wd_ThumbCore cI cB cZ h h_memory h_memory_words h_registers h_flags h_exceptions h_exceptions_priorities h_counter q_memory_size n_memory_words c_asleep c_locked s2 c_memory_words s3 s4 s5 s6 s7 c_exceptions_pending s8 s9 c_exceptions_masked c_exceptions_priorities c_counter_number c_counter_reload c_counter_on) H := hP
    have hD : va_D A (wd_ThumbCore cI cB cZ h h_memory h_memory_words h_registers h_flags h_exceptions h_exceptions_priorities h_counter q_memory_size n_memory_words c_asleep c_locked s2 c_memory_words s3 s4 s5 s6 s7 c_exceptions_pending s8 s9 c_exceptions_masked c_exceptions_priorities c_counter_number c_counter_reload c_counter_on) := hD
    refine W.eq (g2 := F0 m 173 ls [.int (bI r1)]) rfl ?_
    exact RET H locs ls 173 (r1, s2, s3, s4, s5, s6, s7, s8, s9) d_ThumbCore_withHigh_173 hP hD hS hq
  have hq : FF = f_ThumbCore_withHigh q_memory_size c_memory_words c_next c_registers c_flags_negative c_flags_zero c_flags_carry c_flags_overflow c_exceptions_active c_exceptions_current x1 := hF.symm
  revert hP hD hS
  suffices G : ∀ (H : Heap) (locs : List Loc), va_P D tcl (wd_ThumbCore cI cB cZ h h_memory h_memory_words h_registers h_flags h_exceptions h_exceptions_priorities h_counter q_memory_size n_memory_words c_asleep c_locked c_next c_memory_words c_registers c_flags_negative c_flags_zero c_flags_carry c_flags_overflow c_exceptions_pending c_exceptions_active c_exceptions_current c_exceptions_masked c_exceptions_priorities c_counter_number c_counter_reload c_counter_on) H → va_D A (wd_ThumbCore cI cB cZ h h_memory h_memory_words h_registers h_flags h_exceptions h_exceptions_priorities h_counter q_memory_size n_memory_words c_asleep c_locked c_next c_memory_words c_registers c_flags_negative c_flags_zero c_flags_carry c_flags_overflow c_exceptions_pending c_exceptions_active c_exceptions_current c_exceptions_masked c_exceptions_priorities c_counter_number c_counter_reload c_counter_on) → va_S A s.heap H locs → W p l e rm_ThumbCore_withHigh s m ([.ref h, .int x1] : List Value).toArray below meth c H locs 0 0 Q (F0 m 0 ls []) from fun hP hD hS => G _ _ hP hD hS
  intro H locs hP hD hS
  refine lv_iload_n hx hb d_ThumbCore_withHigh_0 rfl (lv_at hl 1 rfl) ?_
  refine lv_bipush (v := 7) hx hb d_ThumbCore_withHigh_1 (by decide) ?_
  refine lv_iand hx hb d_ThumbCore_withHigh_3 ?_
  refine lv_iload_n hx hb d_ThumbCore_withHigh_4 rfl (lv_at hl 1 rfl) ?_
  refine lv_iconst (v := 4) hx hb d_ThumbCore_withHigh_5 (by decide) ?_
  refine lv_iushr (v := (o_iushr x1 4)) hx hb d_ThumbCore_withHigh_6 rfl ?_
  refine lv_bipush (v := 8) hx hb d_ThumbCore_withHigh_7 (by decide) ?_
  refine lv_iand hx hb d_ThumbCore_withHigh_9 ?_
  refine lv_ior hx hb d_ThumbCore_withHigh_10 ?_
  refine lv_topi (fun v1 e_v1 => ?_)
  have hq := tc_nm hq e_v1
  refine lv_istore_n (lv' := [(2, .int v1), (0, .ref h), (1, .int x1)]) hx hb d_ThumbCore_withHigh_11 rfl hl (by decide) rfl (fun ls hl => ?_)
  refine lv_iload_n hx hb d_ThumbCore_withHigh_12 rfl (lv_at hl 2 rfl) ?_
  refine lv_iconst (v := 3) hx hb d_ThumbCore_withHigh_13 (by decide) ?_
  refine lv_iushr (v := (o_iushr x1 3)) hx hb d_ThumbCore_withHigh_14 rfl ?_
  refine lv_bipush (v := 15) hx hb d_ThumbCore_withHigh_15 (by decide) ?_
  refine lv_iand hx hb d_ThumbCore_withHigh_17 ?_
  refine lv_topi (fun v2 e_v2 => ?_)
  have hq := tc_nm hq e_v2
  refine lv_istore_n (lv' := [(3, .int v2), (2, .int v1), (0, .ref h), (1, .int x1)]) hx hb d_ThumbCore_withHigh_18 rfl hl (by decide) rfl (fun ls hl => ?_)
  refine lv_iload_n hx hb d_ThumbCore_withHigh_19 rfl (lv_at hl 3 rfl) ?_
  refine lv_bipush (v := 8) hx hb d_ThumbCore_withHigh_20 (by decide) ?_
  refine lv_iushr (v := (o_iushr x1 8)) hx hb d_ThumbCore_withHigh_22 rfl ?_
  refine lv_iconst (v := 3) hx hb d_ThumbCore_withHigh_23 (by decide) ?_
  refine lv_iand hx hb d_ThumbCore_withHigh_24 ?_
  by_cases g_25_0 : ((o_iushr x1 8) &&& 3) = 0
  · have hq := hq.trans (if_pos g_25_0)
    refine tc_tabIn (k := 0) (off := 27) (tgt := 52) hx hb d_ThumbCore_withHigh_25 g_25_0 (by decide) (by decide) (by decide +kernel) (by decide) ?_
    refine lv_aload_n hx hb d_ThumbCore_withHigh_52 rfl (lv_at hl 2 rfl) ?_
    refine lv_iload_n hx hb d_ThumbCore_withHigh_53 rfl (lv_at hl 1 rfl) ?_
    refine lv_aload_n hx hb d_ThumbCore_withHigh_54 rfl (lv_at hl 2 rfl) ?_
    refine lv_iload_n hx hb d_ThumbCore_withHigh_55 rfl (lv_at hl 1 rfl) ?_
    refine tc_rd (va_runV (As := [.int v1]) (rest := [.int v1, .ref h]) ⟨hx, hb, hml, hown, hts⟩ (c_ThumbCore_readHigh l D cI cB cZ h h_memory h_memory_words h_registers h_flags h_exceptions h_exceptions_priorities h_counter H.size q_memory_size n_memory_words c_asleep c_locked c_next c_memory_words c_registers c_flags_negative c_flags_zero c_flags_carry c_flags_overflow c_exceptions_pending c_exceptions_active c_exceptions_current c_exceptions_masked c_exceptions_priorities c_counter_number c_counter_reload c_counter_on v1 (tc_en8 e_v1)) (cwV 1 hts (tc_gV wl_ThumbCore_225 wm_ThumbCore_readHigh ws_ThumbCore_readHigh wi_ThumbCore wc_ThumbCore_readHigh) rfl rfl rfl (by decide +kernel) ⟨Nat.le_of_ble_eq_true rfl, Nat.le_of_ble_eq_true rfl⟩) (tc_preV hK hN hP hD [0, 1, 2, 3, 4, 5, 6, 7] rfl (by decide) (q0 := 0) rfl rfl) rfl rfl hl.1 rfl (lv_room (Nat.le_of_ble_eq_true rfl)) d_ThumbCore_withHigh_56 (by decide)) ?_
    refine lv_topi (fun v3 e_v3 => ?_)
    have hq := tc_nm hq e_v3
    refine lv_aload_n hx hb d_ThumbCore_withHigh_59 rfl (lv_at hl 2 rfl) ?_
    refine lv_iload_n hx hb d_ThumbCore_withHigh_60 rfl (lv_at hl 0 rfl) ?_
    refine tc_rd (va_runV (As := [.int v2]) (rest := [.int v3, .int v1, .ref h]) ⟨hx, hb, hml, hown, hts⟩ (c_ThumbCore_readHigh l D cI cB cZ h h_memory h_memory_words h_registers h_flags h_exceptions h_exceptions_priorities h_counter H.size q_memory_size n_memory_words c_asleep c_locked c_next c_memory_words c_registers c_flags_negative c_flags_zero c_flags_carry c_flags_overflow c_exceptions_pending c_exceptions_active c_exceptions_current c_exceptions_masked c_exceptions_priorities c_counter_number c_counter_reload c_counter_on v2 (tc_en15 e_v2)) (cwV 1 hts (tc_gV wl_ThumbCore_225 wm_ThumbCore_readHigh ws_ThumbCore_readHigh wi_ThumbCore wc_ThumbCore_readHigh) rfl rfl rfl (by decide +kernel) ⟨Nat.le_of_ble_eq_true rfl, Nat.le_of_ble_eq_true rfl⟩) (tc_preV hK hN hP hD [0, 1, 2, 3, 4, 5, 6, 7] rfl (by decide) (q0 := 0) rfl rfl) rfl rfl hl.1 rfl (lv_room (Nat.le_of_ble_eq_true rfl)) d_ThumbCore_withHigh_61 (by decide)) ?_
    refine lv_topi (fun v4 e_v4 => ?_)
    have hq := tc_nm hq e_v4
    refine lv_iadd hx hb d_ThumbCore_withHigh_64 ?_
    refine tc_mv (wo := fun u => (wd_ThumbCore cI cB cZ h h_memory h_memory_words h_registers h_flags h_exceptions h_exceptions_priorities h_counter q_memory_size n_memory_words c_asleep c_locked u.1 c_memory_words u.2 c_flags_negative c_flags_zero c_flags_carry c_flags_overflow c_exceptions_pending c_exceptions_active c_exceptions_current c_exceptions_masked c_exceptions_priorities c_counter_number c_counter_reload c_counter_on)) (va_runV (As := [.int v1, .int (v3 + v4)]) (rest := []) ⟨hx, hb, hml, hown, hts⟩ (c_ThumbCore_put l D cI cB cZ h h_memory h_memory_words h_registers h_flags h_exceptions h_exceptions_priorities h_counter H.size q_memory_size n_memory_words c_asleep c_locked c_next c_memory_words c_registers c_flags_negative c_flags_zero c_flags_carry c_flags_overflow c_exceptions_pending c_exceptions_active c_exceptions_current c_exceptions_masked c_exceptions_priorities c_counter_number c_counter_reload c_counter_on v1 (v3 + v4) (tc_en8 e_v1)) (cwV 2 hts (tc_gV wl_ThumbCore_228 wm_ThumbCore_put ws_ThumbCore_put wi_ThumbCore wc_ThumbCore_put) rfl rfl rfl (by decide +kernel) ⟨Nat.le_of_ble_eq_true rfl, Nat.le_of_ble_eq_true rfl⟩) (tc_preV hK hN hP hD [0, 1, 2, 3, 4, 5, 6, 7] rfl (by decide) (q0 := 0) rfl rfl) rfl rfl hl.1 rfl (lv_room (Nat.le_of_ble_eq_true rfl)) d_ThumbCore_withHigh_65 (by decide)) hP hD hS hA [0, 1, 2, 3, 4, 5, 6, 7] [] [0, 1, 2, 3, 4, 5, 6, 7] rfl rfl (by decide) (by decide) (by decide) (fun _ => rfl) (fun u H locs hu hP hD hS => ?_)
    obtain ⟨s5, s6⟩ := u
    have hq := hq.trans (un2_eq hu _)
    have e_s5 := hu
    have hP : va_P D tcl (wd_ThumbCore cI cB cZ h h_memory h_memory_words h_registers h_flags h_exceptions h_exceptions_priorities h_counter q_memory_size n_memory_words c_asleep c_locked s5 c_memory_words s6 c_flags_negative c_flags_zero c_flags_carry c_flags_overflow c_exceptions_pending c_exceptions_active c_exceptions_current c_exceptions_masked c_exceptions_priorities c_counter_number c_counter_reload c_counter_on) H := hP
    have hD : va_D A (wd_ThumbCore cI cB cZ h h_memory h_memory_words h_registers h_flags h_exceptions h_exceptions_priorities h_counter q_memory_size n_memory_words c_asleep c_locked s5 c_memory_words s6 c_flags_negative c_flags_zero c_flags_carry c_flags_overflow c_exceptions_pending c_exceptions_active c_exceptions_current c_exceptions_masked c_exceptions_priorities c_counter_number c_counter_reload c_counter_on) := hD
    refine lv_iconst (v := 1) hx hb d_ThumbCore_withHigh_68 (by decide) ?_
    exact RET H locs ls 69 (true, s5, s6, c_flags_negative, c_flags_zero, c_flags_carry, c_flags_overflow, c_exceptions_active, c_exceptions_current) d_ThumbCore_withHigh_69 hP hD hS hq
  have hq := hq.trans (if_neg g_25_0)
  by_cases g_25_1 : ((o_iushr x1 8) &&& 3) = 1
  · have hq := hq.trans (if_pos g_25_1)
    refine tc_tabIn (k := 1) (off := 45) (tgt := 70) hx hb d_ThumbCore_withHigh_25 g_25_1 (by decide) (by decide) (by decide +kernel) (by decide) ?_
    refine lv_iload_n hx hb d_ThumbCore_withHigh_70 rfl (lv_at hl 1 rfl) ?_
    refine lv_bipush (v := 8) hx hb d_ThumbCore_withHigh_71 (by decide) ?_
    refine lv_icmp_ge (tgt := 82) hx hb d_ThumbCore_withHigh_73 (by decide) (fun g_73 => ?_) (fun g_73 => ?_)
    · have hq := hq.trans (if_pos g_73)
      exact J_82 H locs ls c_next c_registers c_flags_negative c_flags_zero c_flags_carry c_flags_overflow c_exceptions_active c_exceptions_current v1 v2 hP hD hS (lv_sub hl [2, 1, 0] rfl) hq (tc_en8 e_v1) (tc_en15 e_v2)
    · have hq := hq.trans (if_neg g_73)
      refine lv_iload_n hx hb d_ThumbCore_withHigh_76 rfl (lv_at hl 0 rfl) ?_
      refine lv_bipush (v := 8) hx hb d_ThumbCore_withHigh_77 (by decide) ?_
      refine lv_icmp_lt (tgt := 94) hx hb d_ThumbCore_withHigh_79 (by decide) (fun g_79 => ?_) (fun g_79 => ?_)
      · have hq := hq.trans (if_pos g_79)
        refine lv_iconst (v := 0) hx hb d_ThumbCore_withHigh_94 (by decide) ?_
        exact RET H locs ls 95 (false, c_next, c_registers, c_flags_negative, c_flags_zero, c_flags_carry, c_flags_overflow, c_exceptions_active, c_exceptions_current) d_ThumbCore_withHigh_95 hP hD hS hq
      · have hq := hq.trans (if_neg g_79)
        exact J_82 H locs ls c_next c_registers c_flags_negative c_flags_zero c_flags_carry c_flags_overflow c_exceptions_active c_exceptions_current v1 v2 hP hD hS (lv_sub hl [2, 1, 0] rfl) hq (tc_en8 e_v1) (tc_en15 e_v2)
  have hq := hq.trans (if_neg g_25_1)
  by_cases g_25_2 : ((o_iushr x1 8) &&& 3) = 2
  · have hq := hq.trans (if_pos g_25_2)
    refine tc_tabIn (k := 2) (off := 96) (tgt := 121) hx hb d_ThumbCore_withHigh_25 g_25_2 (by decide) (by decide) (by decide +kernel) (by decide) ?_
    refine lv_aload_n hx hb d_ThumbCore_withHigh_121 rfl (lv_at hl 2 rfl) ?_
    refine lv_iload_n hx hb d_ThumbCore_withHigh_122 rfl (lv_at hl 1 rfl) ?_
    refine lv_aload_n hx hb d_ThumbCore_withHigh_123 rfl (lv_at hl 2 rfl) ?_
    refine lv_iload_n hx hb d_ThumbCore_withHigh_124 rfl (lv_at hl 0 rfl) ?_
    refine tc_rd (va_runV (As := [.int v2]) (rest := [.int v1, .ref h]) ⟨hx, hb, hml, hown, hts⟩ (c_ThumbCore_readHigh l D cI cB cZ h h_memory h_memory_words h_registers h_flags h_exceptions h_exceptions_priorities h_counter H.size q_memory_size n_memory_words c_asleep c_locked c_next c_memory_words c_registers c_flags_negative c_flags_zero c_flags_carry c_flags_overflow c_exceptions_pending c_exceptions_active c_exceptions_current c_exceptions_masked c_exceptions_priorities c_counter_number c_counter_reload c_counter_on v2 (tc_en15 e_v2)) (cwV 1 hts (tc_gV wl_ThumbCore_225 wm_ThumbCore_readHigh ws_ThumbCore_readHigh wi_ThumbCore wc_ThumbCore_readHigh) rfl rfl rfl (by decide +kernel) ⟨Nat.le_of_ble_eq_true rfl, Nat.le_of_ble_eq_true rfl⟩) (tc_preV hK hN hP hD [0, 1, 2, 3, 4, 5, 6, 7] rfl (by decide) (q0 := 0) rfl rfl) rfl rfl hl.1 rfl (lv_room (Nat.le_of_ble_eq_true rfl)) d_ThumbCore_withHigh_125 (by decide)) ?_
    refine lv_topi (fun v7 e_v7 => ?_)
    have hq := tc_nm hq e_v7
    refine tc_mv (wo := fun u => (wd_ThumbCore cI cB cZ h h_memory h_memory_words h_registers h_flags h_exceptions h_exceptions_priorities h_counter q_memory_size n_memory_words c_asleep c_locked u.1 c_memory_words u.2 c_flags_negative c_flags_zero c_flags_carry c_flags_overflow c_exceptions_pending c_exceptions_active c_exceptions_current c_exceptions_masked c_exceptions_priorities c_counter_number c_counter_reload c_counter_on)) (va_runV (As := [.int v1, .int v7]) (rest := []) ⟨hx, hb, hml, hown, hts⟩ (c_ThumbCore_put l D cI cB cZ h h_memory h_memory_words h_registers h_flags h_exceptions h_exceptions_priorities h_counter H.size q_memory_size n_memory_words c_asleep c_locked c_next c_memory_words c_registers c_flags_negative c_flags_zero c_flags_carry c_flags_overflow c_exceptions_pending c_exceptions_active c_exceptions_current c_exceptions_masked c_exceptions_priorities c_counter_number c_counter_reload c_counter_on v1 v7 (tc_en8 e_v1)) (cwV 2 hts (tc_gV wl_ThumbCore_228 wm_ThumbCore_put ws_ThumbCore_put wi_ThumbCore wc_ThumbCore_put) rfl rfl rfl (by decide +kernel) ⟨Nat.le_of_ble_eq_true rfl, Nat.le_of_ble_eq_true rfl⟩) (tc_preV hK hN hP hD [0, 1, 2, 3, 4, 5, 6, 7] rfl (by decide) (q0 := 0) rfl rfl) rfl rfl hl.1 rfl (lv_room (Nat.le_of_ble_eq_true rfl)) d_ThumbCore_withHigh_128 (by decide)) hP hD hS hA [0, 1, 2, 3, 4, 5, 6, 7] [] [0, 1, 2, 3, 4, 5, 6, 7] rfl rfl (by decide) (by decide) (by decide) (fun _ => rfl) (fun u H locs hu hP hD hS => ?_)
    obtain ⟨s8, s9⟩ := u
    have hq := hq.trans (un2_eq hu _)
    have e_s8 := hu
    have hP : va_P D tcl (wd_ThumbCore cI cB cZ h h_memory h_memory_words h_registers h_flags h_exceptions h_exceptions_priorities h_counter q_memory_size n_memory_words c_asleep c_locked s8 c_memory_words s9 c_flags_negative c_flags_zero c_flags_carry c_flags_overflow c_exceptions_pending c_exceptions_active c_exceptions_current c_exceptions_masked c_exceptions_priorities c_counter_number c_counter_reload c_counter_on) H := hP
    have hD : va_D A (wd_ThumbCore cI cB cZ h h_memory h_memory_words h_registers h_flags h_exceptions h_exceptions_priorities h_counter q_memory_size n_memory_words c_asleep c_locked s8 c_memory_words s9 c_flags_negative c_flags_zero c_flags_carry c_flags_overflow c_exceptions_pending c_exceptions_active c_exceptions_current c_exceptions_masked c_exceptions_priorities c_counter_number c_counter_reload c_counter_on) := hD
    refine lv_iconst (v := 1) hx hb d_ThumbCore_withHigh_131 (by decide) ?_
    exact RET H locs ls 132 (true, s8, s9, c_flags_negative, c_flags_zero, c_flags_carry, c_flags_overflow, c_exceptions_active, c_exceptions_current) d_ThumbCore_withHigh_132 hP hD hS hq
  have hq := hq.trans (if_neg g_25_2)
  have DF : W p l e rm_ThumbCore_withHigh s m ([.ref h, .int x1] : List Value).toArray below meth c H locs 0 0 Q (F0 m 133 ls []) := by
    refine lv_iload_n hx hb d_ThumbCore_withHigh_133 rfl (lv_at hl 3 rfl) ?_
    refine lv_bipush (v := 7) hx hb d_ThumbCore_withHigh_134 (by decide) ?_
    refine lv_iand hx hb d_ThumbCore_withHigh_136 ?_
    refine lv_if_ne (tgt := 146) hx hb d_ThumbCore_withHigh_137 (by decide) (fun g_137 => ?_) (fun g_137 => ?_)
    · have hq := hq.trans (if_pos g_137)
      refine lv_iconst (v := 0) hx hb d_ThumbCore_withHigh_146 (by decide) ?_
      exact RET H locs ls 147 (false, c_next, c_registers, c_flags_negative, c_flags_zero, c_flags_carry, c_flags_overflow, c_exceptions_active, c_exceptions_current) d_ThumbCore_withHigh_147 hP hD hS hq
    · have hq := hq.trans (if_neg (fun g => g g_137))
      refine lv_iload_n hx hb d_ThumbCore_withHigh_140 rfl (lv_at hl 0 rfl) ?_
      refine lv_bipush (v := 15) hx hb d_ThumbCore_withHigh_141 (by decide) ?_
      refine lv_icmp_ne (tgt := 148) hx hb d_ThumbCore_withHigh_143 (by decide) (fun g_143 => ?_) (fun g_143 => ?_)
      · have hq := hq.trans (if_pos g_143)
        refine lv_aload_n hx hb d_ThumbCore_withHigh_148 rfl (lv_at hl 2 rfl) ?_
        refine lv_aload_n hx hb d_ThumbCore_withHigh_149 rfl (lv_at hl 2 rfl) ?_
        refine va_get (D := D) (ci := 4) (v := .ref h_registers) (C := R_ThumbCore) (T := F_ThumbCore) (N := 8) hx hb hts u_ThumbCore hown hK hP 0 rfl rfl 1 (by decide) (hts _ wf_ThumbCore_27) (fun _ h9 => h9) rfl d_ThumbCore_withHigh_150 ?_
        refine lv_iload_n hx hb d_ThumbCore_withHigh_153 rfl (lv_at hl 0 rfl) ?_
        refine va_iald hx hb hK hP 3 0 rfl rfl (tc_en15 e_v2) d_ThumbCore_withHigh_154 ?_
        refine lv_iload_n hx hb d_ThumbCore_withHigh_155 rfl (lv_at hl 3 rfl) ?_
        refine lv_bipush (v := 7) hx hb d_ThumbCore_withHigh_156 (by decide) ?_
        refine lv_iushr (v := (o_iushr x1 7)) hx hb d_ThumbCore_withHigh_158 rfl ?_
        refine lv_iconst (v := 1) hx hb d_ThumbCore_withHigh_159 (by decide) ?_
        refine lv_iand hx hb d_ThumbCore_withHigh_160 ?_
        refine lv_iconst (v := 1) hx hb d_ThumbCore_withHigh_161 (by decide) ?_
        refine lv_icmp_ne (tgt := 169) hx hb d_ThumbCore_withHigh_162 (by decide) (fun g_162 => ?_) (fun g_162 => ?_)
        · have hq := hq.trans (if_pos g_162)
          refine lv_iconst (v := 0) hx hb d_ThumbCore_withHigh_169 (by decide) ?_
          exact J_170 H locs ls c_next c_registers c_flags_negative c_flags_zero c_flags_carry c_flags_overflow c_exceptions_active c_exceptions_current (c_registers v2.toNatClampNeg) false hP hD hS (lv_sub hl [] rfl) hq
        · have hq := hq.trans (if_neg (fun g => g g_162))
          refine lv_iconst (v := 1) hx hb d_ThumbCore_withHigh_165 (by decide) ?_
          refine lv_goto (tgt := 170) hx hb d_ThumbCore_withHigh_166 (by decide) ?_
          exact J_170 H locs ls c_next c_registers c_flags_negative c_flags_zero c_flags_carry c_flags_overflow c_exceptions_active c_exceptions_current (c_registers v2.toNatClampNeg) true hP hD hS (lv_sub hl [] rfl) hq
      · have hq := hq.trans (if_neg (fun g => g g_143))
        refine lv_iconst (v := 0) hx hb d_ThumbCore_withHigh_146 (by decide) ?_
        exact RET H locs ls 147 (false, c_next, c_registers, c_flags_negative, c_flags_zero, c_flags_carry, c_flags_overflow, c_exceptions_active, c_exceptions_current) d_ThumbCore_withHigh_147 hP hD hS hq
  exact lv_tableOut (x := ((o_iushr x1 8) &&& 3)) hx hb d_ThumbCore_withHigh_25 (by have n0 := tc_ne (j := 0) g_25_0 (by decide); have n1 := tc_ne (j := 1) g_25_1 (by decide); have n2 := tc_ne (j := 2) g_25_2 (by decide); omega) (by decide) DF
abbrev rm_ThumbCore_load : Room := { frames := 3, cells := 0, slots := 0, locals := 68 }
set_option maxHeartbeats 4000000 in
set_option maxRecDepth 100000 in
theorem c_ThumbCore_load (l : Launch) (D : va_G) (cI cB cZ : ClassId) (h h_memory h_memory_words h_registers h_flags h_exceptions h_exceptions_priorities h_counter sz : Nat) (q_memory_size : Int32) (n_memory_words : Nat) (c_asleep : Bool) (c_locked : Bool) (c_next : Int32) (c_memory_words : Nat → Int32) (c_registers : Nat → Int32) (c_flags_negative : Bool) (c_flags_zero : Bool) (c_flags_carry : Bool) (c_flags_overflow : Bool) (c_exceptions_pending : Int32) (c_exceptions_active : Int32) (c_exceptions_current : Int32) (c_exceptions_masked : Bool) (c_exceptions_priorities : Nat → Int32) (c_counter_number : Int32) (c_counter_reload : Int32) (c_counter_on : Bool) (x1 : Int32) (x2 : Int32) (x3 : Int32) (hm : tc_mem q_memory_size n_memory_words) (hi_x1 : vp_in x1 16) (hn : x3 = 1 ∨ x3 = 2 ∨ x3 = 4) : Met l y_ThumbCore_load (.code y_ThumbCore_load b_ThumbCore_load 4 (some .boolean) :: tcb) rm_ThumbCore_load (tc_Pw D tcl (tys cI cB cZ) (wd_ThumbCore cI cB cZ h h_memory h_memory_words h_registers h_flags h_exceptions h_exceptions_priorities h_counter q_memory_size n_memory_words c_asleep c_locked c_next c_memory_words c_registers c_flags_negative c_flags_zero c_flags_carry c_flags_overflow c_exceptions_pending c_exceptions_active c_exceptions_current c_exceptions_masked c_exceptions_priorities c_counter_number c_counter_reload c_counter_on) sz ([.ref h, .int x1, .int x2, .int x3] : List Value) none) (tc_Qz D tcl (wd_ThumbCore cI cB cZ h h_memory h_memory_words h_registers h_flags h_exceptions h_exceptions_priorities h_counter q_memory_size n_memory_words c_asleep c_locked c_next c_memory_words c_registers c_flags_negative c_flags_zero c_flags_carry c_flags_overflow c_exceptions_pending c_exceptions_active c_exceptions_current c_exceptions_masked c_exceptions_priorities c_counter_number c_counter_reload c_counter_on) sz (fun u => (wd_ThumbCore cI cB cZ h h_memory h_memory_words h_registers h_flags h_exceptions h_exceptions_priorities h_counter q_memory_size n_memory_words c_asleep c_locked c_next c_memory_words u.2 c_flags_negative c_flags_zero c_flags_carry c_flags_overflow c_exceptions_pending c_exceptions_active c_exceptions_current c_exceptions_masked c_exceptions_priorities c_counter_number c_counter_reload c_counter_on)) (f_ThumbCore_load q_memory_size c_memory_words c_registers x1 x2 x3)) 0 0 (va_A (wd_ThumbCore cI cB cZ h h_memory h_memory_words h_registers h_flags h_exceptions h_exceptions_priorities h_counter q_memory_size n_memory_words c_asleep c_locked c_next c_memory_words c_registers c_flags_negative c_flags_zero c_flags_carry c_flags_overflow c_exceptions_pending c_exceptions_active c_exceptions_current c_exceptions_masked c_exceptions_priorities c_counter_number c_counter_reload c_counter_on) sz) := by
  refine tc_mu_z (by decide) (Nat.le_of_ble_eq_true rfl) ?_
  intro p e s m below meth c A Q ls hx hb hml hts hown hK hN hP hD hA hZ hl RET
  have hS : va_S A s.heap s.heap [] := va_S.rf
  have hl : lv_has ls 4 [(0, .ref h), (1, .int x1), (2, .int x2), (3, .int x3)] := hl
  generalize hF : f_ThumbCore_load q_memory_size c_memory_words c_registers x1 x2 x3 = FF at RET
  have hq : FF = f_ThumbCore_load q_memory_size c_memory_words c_registers x1 x2 x3 := hF.symm
  revert hP hD hS
  suffices G : ∀ (H : Heap) (locs : List Loc), va_P D tcl (wd_ThumbCore cI cB cZ h h_memory h_memory_words h_registers h_flags h_exceptions h_exceptions_priorities h_counter q_memory_size n_memory_words c_asleep c_locked c_next c_memory_words c_registers c_flags_negative c_flags_zero c_flags_carry c_flags_overflow c_exceptions_pending c_exceptions_active c_exceptions_current c_exceptions_masked c_exceptions_priorities c_counter_number c_counter_reload c_counter_on) H → va_D A (wd_ThumbCore cI cB cZ h h_memory h_memory_words h_registers h_flags h_exceptions h_exceptions_priorities h_counter q_memory_size n_memory_words c_asleep c_locked c_next c_memory_words c_registers c_flags_negative c_flags_zero c_flags_carry c_flags_overflow c_exceptions_pending c_exceptions_active c_exceptions_current c_exceptions_masked c_exceptions_priorities c_counter_number c_counter_reload c_counter_on) → va_S A s.heap H locs → W p l e rm_ThumbCore_load s m ([.ref h, .int x1, .int x2, .int x3] : List Value).toArray below meth c H locs 0 0 Q (F0 m 0 ls []) from fun hP hD hS => G _ _ hP hD hS
  intro H locs hP hD hS
  refine lv_aload_n hx hb d_ThumbCore_load_0 rfl (lv_at hl 0 rfl) ?_
  refine va_get (D := D) (ci := 4) (v := .ref h_memory) (C := R_ThumbCore) (T := F_ThumbCore) (N := 8) hx hb hts u_ThumbCore hown hK hP 0 rfl rfl 0 (by decide) (hts _ wf_ThumbCore_21) (fun _ h9 => h9) rfl d_ThumbCore_load_1 ?_
  refine lv_iload_n hx hb d_ThumbCore_load_4 rfl (lv_at hl 2 rfl) ?_
  refine lv_iload_n hx hb d_ThumbCore_load_5 rfl (lv_at hl 3 rfl) ?_
  refine tc_rd (va_runV (As := [.int x2, .int x3]) (rest := []) ⟨hx, hb, hml, hown, hts⟩ (c_Memory_isThere l D cI cB cZ h_memory h_memory_words H.size q_memory_size n_memory_words c_memory_words x2 x3) (cwV 2 hts (tc_gV wl_ThumbCore_155 wm_Memory_isThere ws_Memory_isThere wi_Memory wc_Memory_isThere) rfl rfl rfl (by decide +kernel) ⟨Nat.le_of_ble_eq_true rfl, Nat.le_of_ble_eq_true rfl⟩) (tc_preV hK hN hP hD [1, 2] rfl (by decide) (q0 := 1) rfl rfl) rfl rfl hl.1 rfl (lv_room (Nat.le_of_ble_eq_true rfl)) d_ThumbCore_load_6 (by decide)) ?_
  refine tc_topb (fun v1 e_v1 => ?_)
  have hq := tc_nm hq e_v1
  refine lv_if_ne (tgt := 14) hx hb d_ThumbCore_load_9 (by decide) (fun g_9 => ?_) (fun g_9 => ?_)
  · have hq := hq.trans (if_pos g_9)
    refine lv_aload_n hx hb d_ThumbCore_load_14 rfl (lv_at hl 0 rfl) ?_
    refine va_get (D := D) (ci := 4) (v := .ref h_registers) (C := R_ThumbCore) (T := F_ThumbCore) (N := 8) hx hb hts u_ThumbCore hown hK hP 0 rfl rfl 1 (by decide) (hts _ wf_ThumbCore_27) (fun _ h9 => h9) rfl d_ThumbCore_load_15 ?_
    refine lv_iload_n hx hb d_ThumbCore_load_18 rfl (lv_at hl 1 rfl) ?_
    refine lv_aload_n hx hb d_ThumbCore_load_19 rfl (lv_at hl 0 rfl) ?_
    refine va_get (D := D) (ci := 4) (v := .ref h_memory) (C := R_ThumbCore) (T := F_ThumbCore) (N := 8) hx hb hts u_ThumbCore hown hK hP 0 rfl rfl 0 (by decide) (hts _ wf_ThumbCore_21) (fun _ h9 => h9) rfl d_ThumbCore_load_20 ?_
    refine lv_iload_n hx hb d_ThumbCore_load_23 rfl (lv_at hl 2 rfl) ?_
    refine lv_iload_n hx hb d_ThumbCore_load_24 rfl (lv_at hl 3 rfl) ?_
    refine tc_rd (va_runV (As := [.int x2, .int x3]) (rest := [.int x1, .ref h_registers]) ⟨hx, hb, hml, hown, hts⟩ (c_Memory_read l D cI cB cZ h_memory h_memory_words H.size q_memory_size n_memory_words c_memory_words x2 x3 hm (tc_isOk hm hn (tc_bT e_v1 g_9))) (cwV 2 hts (tc_gV wl_ThumbCore_63 wm_Memory_read ws_Memory_read wi_Memory wc_Memory_read) rfl rfl rfl (by decide +kernel) ⟨Nat.le_of_ble_eq_true rfl, Nat.le_of_ble_eq_true rfl⟩) (tc_preV hK hN hP hD [1, 2] rfl (by decide) (q0 := 1) rfl rfl) rfl rfl hl.1 rfl (lv_room (Nat.le_of_ble_eq_true rfl)) d_ThumbCore_load_25 (by decide)) ?_
    refine lv_topi (fun v2 e_v2 => ?_)
    have hq := tc_nm hq e_v2
    refine va_iast hx hb hK hP hD hS 3 0 rfl rfl hi_x1 d_ThumbCore_load_28 (fun H locs hP hD hS => ?_)
    have hP : va_P D tcl (wd_ThumbCore cI cB cZ h h_memory h_memory_words h_registers h_flags h_exceptions h_exceptions_priorities h_counter q_memory_size n_memory_words c_asleep c_locked c_next c_memory_words (upd c_registers x1.toNatClampNeg v2) c_flags_negative c_flags_zero c_flags_carry c_flags_overflow c_exceptions_pending c_exceptions_active c_exceptions_current c_exceptions_masked c_exceptions_priorities c_counter_number c_counter_reload c_counter_on) H := hP
    have hD : va_D A (wd_ThumbCore cI cB cZ h h_memory h_memory_words h_registers h_flags h_exceptions h_exceptions_priorities h_counter q_memory_size n_memory_words c_asleep c_locked c_next c_memory_words (upd c_registers x1.toNatClampNeg v2) c_flags_negative c_flags_zero c_flags_carry c_flags_overflow c_exceptions_pending c_exceptions_active c_exceptions_current c_exceptions_masked c_exceptions_priorities c_counter_number c_counter_reload c_counter_on) := hD
    refine lv_iconst (v := 1) hx hb d_ThumbCore_load_29 (by decide) ?_
    exact RET H locs ls 30 (true, (upd c_registers x1.toNatClampNeg v2)) d_ThumbCore_load_30 hP hD hS hq
  · have hq := hq.trans (if_neg (fun g => g g_9))
    refine lv_iconst (v := 0) hx hb d_ThumbCore_load_12 (by decide) ?_
    exact RET H locs ls 13 (false, c_registers) d_ThumbCore_load_13 hP hD hS hq
abbrev rm_ThumbCore_store : Room := { frames := 3, cells := 0, slots := 0, locals := 69 }
set_option maxHeartbeats 4000000 in
set_option maxRecDepth 100000 in
theorem c_ThumbCore_store (l : Launch) (D : va_G) (cI cB cZ : ClassId) (h h_memory h_memory_words h_registers h_flags h_exceptions h_exceptions_priorities h_counter sz : Nat) (q_memory_size : Int32) (n_memory_words : Nat) (c_asleep : Bool) (c_locked : Bool) (c_next : Int32) (c_memory_words : Nat → Int32) (c_registers : Nat → Int32) (c_flags_negative : Bool) (c_flags_zero : Bool) (c_flags_carry : Bool) (c_flags_overflow : Bool) (c_exceptions_pending : Int32) (c_exceptions_active : Int32) (c_exceptions_current : Int32) (c_exceptions_masked : Bool) (c_exceptions_priorities : Nat → Int32) (c_counter_number : Int32) (c_counter_reload : Int32) (c_counter_on : Bool) (x1 : Int32) (x2 : Int32) (x3 : Int32) (hm : tc_mem q_memory_size n_memory_words) (hi_x1 : vp_in x1 16) (hn : x3 = 1 ∨ x3 = 2 ∨ x3 = 4) : Met l y_ThumbCore_store (.code y_ThumbCore_store b_ThumbCore_store 4 (some .boolean) :: tcb) rm_ThumbCore_store (tc_Pw D tcl (tys cI cB cZ) (wd_ThumbCore cI cB cZ h h_memory h_memory_words h_registers h_flags h_exceptions h_exceptions_priorities h_counter q_memory_size n_memory_words c_asleep c_locked c_next c_memory_words c_registers c_flags_negative c_flags_zero c_flags_carry c_flags_overflow c_exceptions_pending c_exceptions_active c_exceptions_current c_exceptions_masked c_exceptions_priorities c_counter_number c_counter_reload c_counter_on) sz ([.ref h, .int x1, .int x2, .int x3] : List Value) none) (tc_Qz D tcl (wd_ThumbCore cI cB cZ h h_memory h_memory_words h_registers h_flags h_exceptions h_exceptions_priorities h_counter q_memory_size n_memory_words c_asleep c_locked c_next c_memory_words c_registers c_flags_negative c_flags_zero c_flags_carry c_flags_overflow c_exceptions_pending c_exceptions_active c_exceptions_current c_exceptions_masked c_exceptions_priorities c_counter_number c_counter_reload c_counter_on) sz (fun u => (wd_ThumbCore cI cB cZ h h_memory h_memory_words h_registers h_flags h_exceptions h_exceptions_priorities h_counter q_memory_size n_memory_words c_asleep c_locked c_next u.2 c_registers c_flags_negative c_flags_zero c_flags_carry c_flags_overflow c_exceptions_pending c_exceptions_active c_exceptions_current c_exceptions_masked c_exceptions_priorities c_counter_number c_counter_reload c_counter_on)) (f_ThumbCore_store q_memory_size c_registers c_memory_words x1 x2 x3)) 0 0 (va_A (wd_ThumbCore cI cB cZ h h_memory h_memory_words h_registers h_flags h_exceptions h_exceptions_priorities h_counter q_memory_size n_memory_words c_asleep c_locked c_next c_memory_words c_registers c_flags_negative c_flags_zero c_flags_carry c_flags_overflow c_exceptions_pending c_exceptions_active c_exceptions_current c_exceptions_masked c_exceptions_priorities c_counter_number c_counter_reload c_counter_on) sz) := by
  refine tc_mu_z (by decide) (Nat.le_of_ble_eq_true rfl) ?_
  intro p e s m below meth c A Q ls hx hb hml hts hown hK hN hP hD hA hZ hl RET
  have hS : va_S A s.heap s.heap [] := va_S.rf
  have hl : lv_has ls 4 [(0, .ref h), (1, .int x1), (2, .int x2), (3, .int x3)] := hl
  generalize hF : f_ThumbCore_store q_memory_size c_registers c_memory_words x1 x2 x3 = FF at RET
  have hq : FF = f_ThumbCore_store q_memory_size c_registers c_memory_words x1 x2 x3 := hF.symm
  revert hP hD hS
  suffices G : ∀ (H : Heap) (locs : List Loc), va_P D tcl (wd_ThumbCore cI cB cZ h h_memory h_memory_words h_registers h_flags h_exceptions h_exceptions_priorities h_counter q_memory_size n_memory_words c_asleep c_locked c_next c_memory_words c_registers c_flags_negative c_flags_zero c_flags_carry c_flags_overflow c_exceptions_pending c_exceptions_active c_exceptions_current c_exceptions_masked c_exceptions_priorities c_counter_number c_counter_reload c_counter_on) H → va_D A (wd_ThumbCore cI cB cZ h h_memory h_memory_words h_registers h_flags h_exceptions h_exceptions_priorities h_counter q_memory_size n_memory_words c_asleep c_locked c_next c_memory_words c_registers c_flags_negative c_flags_zero c_flags_carry c_flags_overflow c_exceptions_pending c_exceptions_active c_exceptions_current c_exceptions_masked c_exceptions_priorities c_counter_number c_counter_reload c_counter_on) → va_S A s.heap H locs → W p l e rm_ThumbCore_store s m ([.ref h, .int x1, .int x2, .int x3] : List Value).toArray below meth c H locs 0 0 Q (F0 m 0 ls []) from fun hP hD hS => G _ _ hP hD hS
  intro H locs hP hD hS
  refine lv_aload_n hx hb d_ThumbCore_store_0 rfl (lv_at hl 0 rfl) ?_
  refine va_get (D := D) (ci := 4) (v := .ref h_memory) (C := R_ThumbCore) (T := F_ThumbCore) (N := 8) hx hb hts u_ThumbCore hown hK hP 0 rfl rfl 0 (by decide) (hts _ wf_ThumbCore_21) (fun _ h9 => h9) rfl d_ThumbCore_store_1 ?_
  refine lv_iload_n hx hb d_ThumbCore_store_4 rfl (lv_at hl 2 rfl) ?_
  refine lv_iload_n hx hb d_ThumbCore_store_5 rfl (lv_at hl 3 rfl) ?_
  refine tc_rd (va_runV (As := [.int x2, .int x3]) (rest := []) ⟨hx, hb, hml, hown, hts⟩ (c_Memory_isThere l D cI cB cZ h_memory h_memory_words H.size q_memory_size n_memory_words c_memory_words x2 x3) (cwV 2 hts (tc_gV wl_ThumbCore_155 wm_Memory_isThere ws_Memory_isThere wi_Memory wc_Memory_isThere) rfl rfl rfl (by decide +kernel) ⟨Nat.le_of_ble_eq_true rfl, Nat.le_of_ble_eq_true rfl⟩) (tc_preV hK hN hP hD [1, 2] rfl (by decide) (q0 := 1) rfl rfl) rfl rfl hl.1 rfl (lv_room (Nat.le_of_ble_eq_true rfl)) d_ThumbCore_store_6 (by decide)) ?_
  refine tc_topb (fun v1 e_v1 => ?_)
  have hq := tc_nm hq e_v1
  refine lv_if_ne (tgt := 14) hx hb d_ThumbCore_store_9 (by decide) (fun g_9 => ?_) (fun g_9 => ?_)
  · have hq := hq.trans (if_pos g_9)
    refine lv_aload_n hx hb d_ThumbCore_store_14 rfl (lv_at hl 0 rfl) ?_
    refine va_get (D := D) (ci := 4) (v := .ref h_memory) (C := R_ThumbCore) (T := F_ThumbCore) (N := 8) hx hb hts u_ThumbCore hown hK hP 0 rfl rfl 0 (by decide) (hts _ wf_ThumbCore_21) (fun _ h9 => h9) rfl d_ThumbCore_store_15 ?_
    refine lv_iload_n hx hb d_ThumbCore_store_18 rfl (lv_at hl 2 rfl) ?_
    refine lv_aload_n hx hb d_ThumbCore_store_19 rfl (lv_at hl 0 rfl) ?_
    refine va_get (D := D) (ci := 4) (v := .ref h_registers) (C := R_ThumbCore) (T := F_ThumbCore) (N := 8) hx hb hts u_ThumbCore hown hK hP 0 rfl rfl 1 (by decide) (hts _ wf_ThumbCore_27) (fun _ h9 => h9) rfl d_ThumbCore_store_20 ?_
    refine lv_iload_n hx hb d_ThumbCore_store_23 rfl (lv_at hl 1 rfl) ?_
    refine va_iald hx hb hK hP 3 0 rfl rfl hi_x1 d_ThumbCore_store_24 ?_
    refine lv_iload_n hx hb d_ThumbCore_store_25 rfl (lv_at hl 3 rfl) ?_
    refine tc_mv (wo := fun u => (wd_ThumbCore cI cB cZ h h_memory h_memory_words h_registers h_flags h_exceptions h_exceptions_priorities h_counter q_memory_size n_memory_words c_asleep c_locked c_next u c_registers c_flags_negative c_flags_zero c_flags_carry c_flags_overflow c_exceptions_pending c_exceptions_active c_exceptions_current c_exceptions_masked c_exceptions_priorities c_counter_number c_counter_reload c_counter_on)) (va_runV (As := [.int x2, .int (c_registers x1.toNatClampNeg), .int x3]) (rest := []) ⟨hx, hb, hml, hown, hts⟩ (c_Memory_write l D cI cB cZ h_memory h_memory_words H.size q_memory_size n_memory_words c_memory_words x2 (c_registers x1.toNatClampNeg) x3 hm (tc_isOk hm hn (tc_bT e_v1 g_9))) (cwV 3 hts (tc_gV wl_ThumbCore_59 wm_Memory_write ws_Memory_write wi_Memory wc_Memory_write) rfl rfl rfl (by decide +kernel) ⟨Nat.le_of_ble_eq_true rfl, Nat.le_of_ble_eq_true rfl⟩) (tc_preV hK hN hP hD [1, 2] rfl (by decide) (q0 := 1) rfl rfl) rfl rfl hl.1 rfl (lv_room (Nat.le_of_ble_eq_true rfl)) d_ThumbCore_store_26 (by decide)) hP hD hS hA [1, 2] [0, 3, 4, 5, 6, 7] [0, 6, 7, 1, 2, 3, 4, 5] rfl rfl (by decide) (by decide) (by decide) (fun _ => rfl) (fun s2 H locs e_s2 hP hD hS => ?_)
    have hq := tc_nm hq e_s2
    have hP : va_P D tcl (wd_ThumbCore cI cB cZ h h_memory h_memory_words h_registers h_flags h_exceptions h_exceptions_priorities h_counter q_memory_size n_memory_words c_asleep c_locked c_next s2 c_registers c_flags_negative c_flags_zero c_flags_carry c_flags_overflow c_exceptions_pending c_exceptions_active c_exceptions_current c_exceptions_masked c_exceptions_priorities c_counter_number c_counter_reload c_counter_on) H := hP
    have hD : va_D A (wd_ThumbCore cI cB cZ h h_memory h_memory_words h_registers h_flags h_exceptions h_exceptions_priorities h_counter q_memory_size n_memory_words c_asleep c_locked c_next s2 c_registers c_flags_negative c_flags_zero c_flags_carry c_flags_overflow c_exceptions_pending c_exceptions_active c_exceptions_current c_exceptions_masked c_exceptions_priorities c_counter_number c_counter_reload c_counter_on) := hD
    refine lv_iconst (v := 1) hx hb d_ThumbCore_store_29 (by decide) ?_
    exact RET H locs ls 30 (true, s2) d_ThumbCore_store_30 hP hD hS hq
  · have hq := hq.trans (if_neg (fun g => g g_9))
    refine lv_iconst (v := 0) hx hb d_ThumbCore_store_12 (by decide) ?_
    exact RET H locs ls 13 (false, c_memory_words) d_ThumbCore_store_13 hP hD hS hq
abbrev rm_ThumbCore_fromBase : Room := { frames := 4, cells := 0, slots := 0, locals := 92 }
set_option maxHeartbeats 4000000 in
set_option maxRecDepth 100000 in
theorem c_ThumbCore_fromBase (l : Launch) (D : va_G) (cI cB cZ : ClassId) (h h_memory h_memory_words h_registers h_flags h_exceptions h_exceptions_priorities h_counter sz : Nat) (q_memory_size : Int32) (n_memory_words : Nat) (c_asleep : Bool) (c_locked : Bool) (c_next : Int32) (c_memory_words : Nat → Int32) (c_registers : Nat → Int32) (c_flags_negative : Bool) (c_flags_zero : Bool) (c_flags_carry : Bool) (c_flags_overflow : Bool) (c_exceptions_pending : Int32) (c_exceptions_active : Int32) (c_exceptions_current : Int32) (c_exceptions_masked : Bool) (c_exceptions_priorities : Nat → Int32) (c_counter_number : Int32) (c_counter_reload : Int32) (c_counter_on : Bool) (x1 : Int32) (hm : tc_mem q_memory_size n_memory_words) : Met l y_ThumbCore_fromBase (.code y_ThumbCore_fromBase b_ThumbCore_fromBase 5 (some .boolean) :: tcb) rm_ThumbCore_fromBase (tc_Pw D tcl (tys cI cB cZ) (wd_ThumbCore cI cB cZ h h_memory h_memory_words h_registers h_flags h_exceptions h_exceptions_priorities h_counter q_memory_size n_memory_words c_asleep c_locked c_next c_memory_words c_registers c_flags_negative c_flags_zero c_flags_carry c_flags_overflow c_exceptions_pending c_exceptions_active c_exceptions_current c_exceptions_masked c_exceptions_priorities c_counter_number c_counter_reload c_counter_on) sz ([.ref h, .int x1] : List Value) none) (tc_Qz D tcl (wd_ThumbCore cI cB cZ h h_memory h_memory_words h_registers h_flags h_exceptions h_exceptions_priorities h_counter q_memory_size n_memory_words c_asleep c_locked c_next c_memory_words c_registers c_flags_negative c_flags_zero c_flags_carry c_flags_overflow c_exceptions_pending c_exceptions_active c_exceptions_current c_exceptions_masked c_exceptions_priorities c_counter_number c_counter_reload c_counter_on) sz (fun u => (wd_ThumbCore cI cB cZ h h_memory h_memory_words h_registers h_flags h_exceptions h_exceptions_priorities h_counter q_memory_size n_memory_words c_asleep c_locked c_next u.2.1 u.2.2 c_flags_negative c_flags_zero c_flags_carry c_flags_overflow c_exceptions_pending c_exceptions_active c_exceptions_current c_exceptions_masked c_exceptions_priorities c_counter_number c_counter_reload c_counter_on)) (f_ThumbCore_fromBase q_memory_size c_memory_words c_registers x1)) 0 0 (va_A (wd_ThumbCore cI cB cZ h h_memory h_memory_words h_registers h_flags h_exceptions h_exceptions_priorities h_counter q_memory_size n_memory_words c_asleep c_locked c_next c_memory_words c_registers c_flags_negative c_flags_zero c_flags_carry c_flags_overflow c_exceptions_pending c_exceptions_active c_exceptions_current c_exceptions_masked c_exceptions_priorities c_counter_number c_counter_reload c_counter_on) sz) := by
  refine tc_mu_z (by decide) (Nat.le_of_ble_eq_true rfl) ?_
  intro p e s m below meth c A Q ls hx hb hml hts hown hK hN hP hD hA hZ hl RET
  have hS : va_S A s.heap s.heap [] := va_S.rf
  have hl : lv_has ls 5 [(0, .ref h), (1, .int x1)] := hl
  generalize hF : f_ThumbCore_fromBase q_memory_size c_memory_words c_registers x1 = FF at RET
  have hq : FF = f_ThumbCore_fromBase q_memory_size c_memory_words c_registers x1 := hF.symm
  revert hP hD hS
  suffices G : ∀ (H : Heap) (locs : List Loc), va_P D tcl (wd_ThumbCore cI cB cZ h h_memory h_memory_words h_registers h_flags h_exceptions h_exceptions_priorities h_counter q_memory_size n_memory_words c_asleep c_locked c_next c_memory_words c_registers c_flags_negative c_flags_zero c_flags_carry c_flags_overflow c_exceptions_pending c_exceptions_active c_exceptions_current c_exceptions_masked c_exceptions_priorities c_counter_number c_counter_reload c_counter_on) H → va_D A (wd_ThumbCore cI cB cZ h h_memory h_memory_words h_registers h_flags h_exceptions h_exceptions_priorities h_counter q_memory_size n_memory_words c_asleep c_locked c_next c_memory_words c_registers c_flags_negative c_flags_zero c_flags_carry c_flags_overflow c_exceptions_pending c_exceptions_active c_exceptions_current c_exceptions_masked c_exceptions_priorities c_counter_number c_counter_reload c_counter_on) → va_S A s.heap H locs → W p l e rm_ThumbCore_fromBase s m ([.ref h, .int x1] : List Value).toArray below meth c H locs 0 0 Q (F0 m 0 ls []) from fun hP hD hS => G _ _ hP hD hS
  intro H locs hP hD hS
  refine lv_iload_n hx hb d_ThumbCore_fromBase_0 rfl (lv_at hl 1 rfl) ?_
  refine lv_bipush (v := 8) hx hb d_ThumbCore_fromBase_1 (by decide) ?_
  refine lv_iushr (v := (o_iushr x1 8)) hx hb d_ThumbCore_fromBase_3 rfl ?_
  refine lv_bipush (v := 7) hx hb d_ThumbCore_fromBase_4 (by decide) ?_
  refine lv_iand hx hb d_ThumbCore_fromBase_6 ?_
  refine lv_topi (fun v1 e_v1 => ?_)
  have hq := tc_nm hq e_v1
  refine lv_istore_n (lv' := [(2, .int v1), (0, .ref h), (1, .int x1)]) hx hb d_ThumbCore_fromBase_7 rfl hl (by decide) rfl (fun ls hl => ?_)
  refine lv_iconst (v := 4) hx hb d_ThumbCore_fromBase_8 (by decide) ?_
  refine lv_iload_n hx hb d_ThumbCore_fromBase_9 rfl (lv_at hl 2 rfl) ?_
  refine lv_sipush (v := 255) hx hb d_ThumbCore_fromBase_10 (by decide) ?_
  refine lv_iand hx hb d_ThumbCore_fromBase_13 ?_
  refine lv_imul hx hb d_ThumbCore_fromBase_14 ?_
  refine lv_topi (fun v2 e_v2 => ?_)
  have hq := tc_nm hq e_v2
  refine lv_istore_n (lv' := [(3, .int v2), (2, .int v1), (0, .ref h), (1, .int x1)]) hx hb d_ThumbCore_fromBase_15 rfl hl (by decide) rfl (fun ls hl => ?_)
  refine lv_aload_n hx hb d_ThumbCore_fromBase_16 rfl (lv_at hl 2 rfl) ?_
  refine tc_rd (va_runV (As := []) (rest := []) ⟨hx, hb, hml, hown, hts⟩ (c_ThumbCore_here l D cI cB cZ h h_memory h_memory_words h_registers h_flags h_exceptions h_exceptions_priorities h_counter H.size q_memory_size n_memory_words c_asleep c_locked c_next c_memory_words c_registers c_flags_negative c_flags_zero c_flags_carry c_flags_overflow c_exceptions_pending c_exceptions_active c_exceptions_current c_exceptions_masked c_exceptions_priorities c_counter_number c_counter_reload c_counter_on) (cwV 0 hts (tc_gV wl_ThumbCore_194 wm_ThumbCore_here ws_ThumbCore_here wi_ThumbCore wc_ThumbCore_here) rfl rfl rfl (by decide +kernel) ⟨Nat.le_of_ble_eq_true rfl, Nat.le_of_ble_eq_true rfl⟩) (tc_preV hK hN hP hD [0, 1, 2, 3, 4, 5, 6, 7] rfl (by decide) (q0 := 0) rfl rfl) rfl rfl hl.1 rfl (lv_room (Nat.le_of_ble_eq_true rfl)) d_ThumbCore_fromBase_17 (by decide)) ?_
  refine lv_topi (fun v3 e_v3 => ?_)
  have hq := tc_nm hq e_v3
  refine lv_bipush (v := (-4)) hx hb d_ThumbCore_fromBase_20 (by decide) ?_
  refine lv_iand hx hb d_ThumbCore_fromBase_22 ?_
  refine lv_topi (fun v4 e_v4 => ?_)
  have hq := tc_nm hq e_v4
  refine lv_istore (lv' := [(4, .int v4), (3, .int v2), (2, .int v1), (0, .ref h), (1, .int x1)]) hx hb d_ThumbCore_fromBase_23 hl (by decide) rfl (fun ls hl => ?_)
  refine lv_iload_n hx hb d_ThumbCore_fromBase_25 rfl (lv_at hl 4 rfl) ?_
  refine lv_bipush (v := 11) hx hb d_ThumbCore_fromBase_26 (by decide) ?_
  refine lv_iushr (v := (o_iushr x1 11)) hx hb d_ThumbCore_fromBase_28 rfl ?_
  by_cases g_29_9 : (o_iushr x1 11) = 9
  · have hq := hq.trans (if_pos g_29_9)
    refine tc_lookIn (k := 9) (off := 43) (tgt := 72) hx hb d_ThumbCore_fromBase_29 g_29_9 (by decide) (by decide +kernel) (by decide) ?_
    refine lv_aload_n hx hb d_ThumbCore_fromBase_72 rfl (lv_at hl 3 rfl) ?_
    refine lv_iload_n hx hb d_ThumbCore_fromBase_73 rfl (lv_at hl 2 rfl) ?_
    refine lv_iload hx hb d_ThumbCore_fromBase_74 (lv_at hl 0 rfl) ?_
    refine lv_iload_n hx hb d_ThumbCore_fromBase_76 rfl (lv_at hl 1 rfl) ?_
    refine lv_iadd hx hb d_ThumbCore_fromBase_77 ?_
    refine lv_iconst (v := 4) hx hb d_ThumbCore_fromBase_78 (by decide) ?_
    refine tc_mz (wo := fun u => (wd_ThumbCore cI cB cZ h h_memory h_memory_words h_registers h_flags h_exceptions h_exceptions_priorities h_counter q_memory_size n_memory_words c_asleep c_locked c_next c_memory_words u.2 c_flags_negative c_flags_zero c_flags_carry c_flags_overflow c_exceptions_pending c_exceptions_active c_exceptions_current c_exceptions_masked c_exceptions_priorities c_counter_number c_counter_reload c_counter_on)) (va_runV (As := [.int v1, .int (v4 + v2), .int 4]) (rest := []) ⟨hx, hb, hml, hown, hts⟩ (c_ThumbCore_load l D cI cB cZ h h_memory h_memory_words h_registers h_flags h_exceptions h_exceptions_priorities h_counter H.size q_memory_size n_memory_words c_asleep c_locked c_next c_memory_words c_registers c_flags_negative c_flags_zero c_flags_carry c_flags_overflow c_exceptions_pending c_exceptions_active c_exceptions_current c_exceptions_masked c_exceptions_priorities c_counter_number c_counter_reload c_counter_on v1 (v4 + v2) 4 hm (tc_en7 e_v1) (by decide)) (cwV 3 hts (tc_gV wl_ThumbCore_244 wm_ThumbCore_load ws_ThumbCore_load wi_ThumbCore wc_ThumbCore_load) rfl rfl rfl (by decide +kernel) ⟨Nat.le_of_ble_eq_true rfl, Nat.le_of_ble_eq_true rfl⟩) (tc_preV hK hN hP hD [0, 1, 2, 3, 4, 5, 6, 7] rfl (by decide) (q0 := 0) rfl rfl) rfl rfl hl.1 rfl (lv_room (Nat.le_of_ble_eq_true rfl)) d_ThumbCore_fromBase_79 (by decide)) hP hD hS hA [0, 1, 2, 3, 4, 5, 6, 7] [] [0, 1, 2, 3, 4, 5, 6, 7] rfl rfl (by decide) (by decide) (by decide) (fun _ => rfl) (fun u H locs hu hP hD hS => ?_)
    obtain ⟨r5, s6⟩ := u
    have hq := hq.trans (un2_eq hu _)
    have e_r5 := hu
    have hP : va_P D tcl (wd_ThumbCore cI cB cZ h h_memory h_memory_words h_registers h_flags h_exceptions h_exceptions_priorities h_counter q_memory_size n_memory_words c_asleep c_locked c_next c_memory_words s6 c_flags_negative c_flags_zero c_flags_carry c_flags_overflow c_exceptions_pending c_exceptions_active c_exceptions_current c_exceptions_masked c_exceptions_priorities c_counter_number c_counter_reload c_counter_on) H := hP
    have hD : va_D A (wd_ThumbCore cI cB cZ h h_memory h_memory_words h_registers h_flags h_exceptions h_exceptions_priorities h_counter q_memory_size n_memory_words c_asleep c_locked c_next c_memory_words s6 c_flags_negative c_flags_zero c_flags_carry c_flags_overflow c_exceptions_pending c_exceptions_active c_exceptions_current c_exceptions_masked c_exceptions_priorities c_counter_number c_counter_reload c_counter_on) := hD
    refine W.eq (g2 := F0 m 82 ls [.int (bI r5)]) rfl ?_
    exact RET H locs ls 82 (r5, c_memory_words, s6) d_ThumbCore_fromBase_82 hP hD hS hq
  have hq := hq.trans (if_neg g_29_9)
  by_cases g_29_18 : (o_iushr x1 11) = 18
  · have hq := hq.trans (if_pos g_29_18)
    refine tc_lookIn (k := 18) (off := 54) (tgt := 83) hx hb d_ThumbCore_fromBase_29 g_29_18 (by decide) (by decide +kernel) (by decide) ?_
    refine lv_aload_n hx hb d_ThumbCore_fromBase_83 rfl (lv_at hl 3 rfl) ?_
    refine lv_iload_n hx hb d_ThumbCore_fromBase_84 rfl (lv_at hl 2 rfl) ?_
    refine lv_aload_n hx hb d_ThumbCore_fromBase_85 rfl (lv_at hl 3 rfl) ?_
    refine va_get (D := D) (ci := 4) (v := .ref h_registers) (C := R_ThumbCore) (T := F_ThumbCore) (N := 8) hx hb hts u_ThumbCore hown hK hP 0 rfl rfl 1 (by decide) (hts _ wf_ThumbCore_27) (fun _ h9 => h9) rfl d_ThumbCore_fromBase_86 ?_
    refine lv_bipush (v := 13) hx hb d_ThumbCore_fromBase_89 (by decide) ?_
    refine va_iald hx hb hK hP 3 0 rfl rfl (by show ¬ (_ ∨ _); decide) d_ThumbCore_fromBase_91 ?_
    refine lv_iload_n hx hb d_ThumbCore_fromBase_92 rfl (lv_at hl 1 rfl) ?_
    refine lv_iadd hx hb d_ThumbCore_fromBase_93 ?_
    refine lv_iconst (v := 4) hx hb d_ThumbCore_fromBase_94 (by decide) ?_
    refine tc_mz (wo := fun u => (wd_ThumbCore cI cB cZ h h_memory h_memory_words h_registers h_flags h_exceptions h_exceptions_priorities h_counter q_memory_size n_memory_words c_asleep c_locked c_next u.2 c_registers c_flags_negative c_flags_zero c_flags_carry c_flags_overflow c_exceptions_pending c_exceptions_active c_exceptions_current c_exceptions_masked c_exceptions_priorities c_counter_number c_counter_reload c_counter_on)) (va_runV (As := [.int v1, .int ((c_registers (13 : Int32).toNatClampNeg) + v2), .int 4]) (rest := []) ⟨hx, hb, hml, hown, hts⟩ (c_ThumbCore_store l D cI cB cZ h h_memory h_memory_words h_registers h_flags h_exceptions h_exceptions_priorities h_counter H.size q_memory_size n_memory_words c_asleep c_locked c_next c_memory_words c_registers c_flags_negative c_flags_zero c_flags_carry c_flags_overflow c_exceptions_pending c_exceptions_active c_exceptions_current c_exceptions_masked c_exceptions_priorities c_counter_number c_counter_reload c_counter_on v1 ((c_registers (13 : Int32).toNatClampNeg) + v2) 4 hm (tc_en7 e_v1) (by decide)) (cwV 3 hts (tc_gV wl_ThumbCore_248 wm_ThumbCore_store ws_ThumbCore_store wi_ThumbCore wc_ThumbCore_store) rfl rfl rfl (by decide +kernel) ⟨Nat.le_of_ble_eq_true rfl, Nat.le_of_ble_eq_true rfl⟩) (tc_preV hK hN hP hD [0, 1, 2, 3, 4, 5, 6, 7] rfl (by decide) (q0 := 0) rfl rfl) rfl rfl hl.1 rfl (lv_room (Nat.le_of_ble_eq_true rfl)) d_ThumbCore_fromBase_95 (by decide)) hP hD hS hA [0, 1, 2, 3, 4, 5, 6, 7] [] [0, 1, 2, 3, 4, 5, 6, 7] rfl rfl (by decide) (by decide) (by decide) (fun _ => rfl) (fun u H locs hu hP hD hS => ?_)
    obtain ⟨r7, s8⟩ := u
    have hq := hq.trans (un2_eq hu _)
    have e_r7 := hu
    have hP : va_P D tcl (wd_ThumbCore cI cB cZ h h_memory h_memory_words h_registers h_flags h_exceptions h_exceptions_priorities h_counter q_memory_size n_memory_words c_asleep c_locked c_next s8 c_registers c_flags_negative c_flags_zero c_flags_carry c_flags_overflow c_exceptions_pending c_exceptions_active c_exceptions_current c_exceptions_masked c_exceptions_priorities c_counter_number c_counter_reload c_counter_on) H := hP
    have hD : va_D A (wd_ThumbCore cI cB cZ h h_memory h_memory_words h_registers h_flags h_exceptions h_exceptions_priorities h_counter q_memory_size n_memory_words c_asleep c_locked c_next s8 c_registers c_flags_negative c_flags_zero c_flags_carry c_flags_overflow c_exceptions_pending c_exceptions_active c_exceptions_current c_exceptions_masked c_exceptions_priorities c_counter_number c_counter_reload c_counter_on) := hD
    refine W.eq (g2 := F0 m 98 ls [.int (bI r7)]) rfl ?_
    exact RET H locs ls 98 (r7, s8, c_registers) d_ThumbCore_fromBase_98 hP hD hS hq
  have hq := hq.trans (if_neg g_29_18)
  by_cases g_29_19 : (o_iushr x1 11) = 19
  · have hq := hq.trans (if_pos g_29_19)
    refine tc_lookIn (k := 19) (off := 70) (tgt := 99) hx hb d_ThumbCore_fromBase_29 g_29_19 (by decide) (by decide +kernel) (by decide) ?_
    refine lv_aload_n hx hb d_ThumbCore_fromBase_99 rfl (lv_at hl 3 rfl) ?_
    refine lv_iload_n hx hb d_ThumbCore_fromBase_100 rfl (lv_at hl 2 rfl) ?_
    refine lv_aload_n hx hb d_ThumbCore_fromBase_101 rfl (lv_at hl 3 rfl) ?_
    refine va_get (D := D) (ci := 4) (v := .ref h_registers) (C := R_ThumbCore) (T := F_ThumbCore) (N := 8) hx hb hts u_ThumbCore hown hK hP 0 rfl rfl 1 (by decide) (hts _ wf_ThumbCore_27) (fun _ h9 => h9) rfl d_ThumbCore_fromBase_102 ?_
    refine lv_bipush (v := 13) hx hb d_ThumbCore_fromBase_105 (by decide) ?_
    refine va_iald hx hb hK hP 3 0 rfl rfl (by show ¬ (_ ∨ _); decide) d_ThumbCore_fromBase_107 ?_
    refine lv_iload_n hx hb d_ThumbCore_fromBase_108 rfl (lv_at hl 1 rfl) ?_
    refine lv_iadd hx hb d_ThumbCore_fromBase_109 ?_
    refine lv_iconst (v := 4) hx hb d_ThumbCore_fromBase_110 (by decide) ?_
    refine tc_mz (wo := fun u => (wd_ThumbCore cI cB cZ h h_memory h_memory_words h_registers h_flags h_exceptions h_exceptions_priorities h_counter q_memory_size n_memory_words c_asleep c_locked c_next c_memory_words u.2 c_flags_negative c_flags_zero c_flags_carry c_flags_overflow c_exceptions_pending c_exceptions_active c_exceptions_current c_exceptions_masked c_exceptions_priorities c_counter_number c_counter_reload c_counter_on)) (va_runV (As := [.int v1, .int ((c_registers (13 : Int32).toNatClampNeg) + v2), .int 4]) (rest := []) ⟨hx, hb, hml, hown, hts⟩ (c_ThumbCore_load l D cI cB cZ h h_memory h_memory_words h_registers h_flags h_exceptions h_exceptions_priorities h_counter H.size q_memory_size n_memory_words c_asleep c_locked c_next c_memory_words c_registers c_flags_negative c_flags_zero c_flags_carry c_flags_overflow c_exceptions_pending c_exceptions_active c_exceptions_current c_exceptions_masked c_exceptions_priorities c_counter_number c_counter_reload c_counter_on v1 ((c_registers (13 : Int32).toNatClampNeg) + v2) 4 hm (tc_en7 e_v1) (by decide)) (cwV 3 hts (tc_gV wl_ThumbCore_244 wm_ThumbCore_load ws_ThumbCore_load wi_ThumbCore wc_ThumbCore_load) rfl rfl rfl (by decide +kernel) ⟨Nat.le_of_ble_eq_true rfl, Nat.le_of_ble_eq_true rfl⟩) (tc_preV hK hN hP hD [0, 1, 2, 3, 4, 5, 6, 7] rfl (by decide) (q0 := 0) rfl rfl) rfl rfl hl.1 rfl (lv_room (Nat.le_of_ble_eq_true rfl)) d_ThumbCore_fromBase_111 (by decide)) hP hD hS hA [0, 1, 2, 3, 4, 5, 6, 7] [] [0, 1, 2, 3, 4, 5, 6, 7] rfl rfl (by decide) (by decide) (by decide) (fun _ => rfl) (fun u H locs hu hP hD hS => ?_)
    obtain ⟨r9, s10⟩ := u
    have hq := hq.trans (un2_eq hu _)
    have e_r9 := hu
    have hP : va_P D tcl (wd_ThumbCore cI cB cZ h h_memory h_memory_words h_registers h_flags h_exceptions h_exceptions_priorities h_counter q_memory_size n_memory_words c_asleep c_locked c_next c_memory_words s10 c_flags_negative c_flags_zero c_flags_carry c_flags_overflow c_exceptions_pending c_exceptions_active c_exceptions_current c_exceptions_masked c_exceptions_priorities c_counter_number c_counter_reload c_counter_on) H := hP
    have hD : va_D A (wd_ThumbCore cI cB cZ h h_memory h_memory_words h_registers h_flags h_exceptions h_exceptions_priorities h_counter q_memory_size n_memory_words c_asleep c_locked c_next c_memory_words s10 c_flags_negative c_flags_zero c_flags_carry c_flags_overflow c_exceptions_pending c_exceptions_active c_exceptions_current c_exceptions_masked c_exceptions_priorities c_counter_number c_counter_reload c_counter_on) := hD
    refine W.eq (g2 := F0 m 114 ls [.int (bI r9)]) rfl ?_
    exact RET H locs ls 114 (r9, c_memory_words, s10) d_ThumbCore_fromBase_114 hP hD hS hq
  have hq := hq.trans (if_neg g_29_19)
  by_cases g_29_20 : (o_iushr x1 11) = 20
  · have hq := hq.trans (if_pos g_29_20)
    refine tc_lookIn (k := 20) (off := 86) (tgt := 115) hx hb d_ThumbCore_fromBase_29 g_29_20 (by decide) (by decide +kernel) (by decide) ?_
    refine lv_aload_n hx hb d_ThumbCore_fromBase_115 rfl (lv_at hl 3 rfl) ?_
    refine va_get (D := D) (ci := 4) (v := .ref h_registers) (C := R_ThumbCore) (T := F_ThumbCore) (N := 8) hx hb hts u_ThumbCore hown hK hP 0 rfl rfl 1 (by decide) (hts _ wf_ThumbCore_27) (fun _ h9 => h9) rfl d_ThumbCore_fromBase_116 ?_
    refine lv_iload_n hx hb d_ThumbCore_fromBase_119 rfl (lv_at hl 2 rfl) ?_
    refine lv_iload hx hb d_ThumbCore_fromBase_120 (lv_at hl 0 rfl) ?_
    refine lv_iload_n hx hb d_ThumbCore_fromBase_122 rfl (lv_at hl 1 rfl) ?_
    refine lv_iadd hx hb d_ThumbCore_fromBase_123 ?_
    refine va_iast hx hb hK hP hD hS 3 0 rfl rfl (tc_en7 e_v1) d_ThumbCore_fromBase_124 (fun H locs hP hD hS => ?_)
    have hP : va_P D tcl (wd_ThumbCore cI cB cZ h h_memory h_memory_words h_registers h_flags h_exceptions h_exceptions_priorities h_counter q_memory_size n_memory_words c_asleep c_locked c_next c_memory_words (upd c_registers v1.toNatClampNeg (v4 + v2)) c_flags_negative c_flags_zero c_flags_carry c_flags_overflow c_exceptions_pending c_exceptions_active c_exceptions_current c_exceptions_masked c_exceptions_priorities c_counter_number c_counter_reload c_counter_on) H := hP
    have hD : va_D A (wd_ThumbCore cI cB cZ h h_memory h_memory_words h_registers h_flags h_exceptions h_exceptions_priorities h_counter q_memory_size n_memory_words c_asleep c_locked c_next c_memory_words (upd c_registers v1.toNatClampNeg (v4 + v2)) c_flags_negative c_flags_zero c_flags_carry c_flags_overflow c_exceptions_pending c_exceptions_active c_exceptions_current c_exceptions_masked c_exceptions_priorities c_counter_number c_counter_reload c_counter_on) := hD
    refine lv_iconst (v := 1) hx hb d_ThumbCore_fromBase_125 (by decide) ?_
    exact RET H locs ls 126 (true, c_memory_words, (upd c_registers v1.toNatClampNeg (v4 + v2))) d_ThumbCore_fromBase_126 hP hD hS hq
  have hq := hq.trans (if_neg g_29_20)
  have DF : W p l e rm_ThumbCore_fromBase s m ([.ref h, .int x1] : List Value).toArray below meth c H locs 0 0 Q (F0 m 127 ls []) := by
    refine lv_aload_n hx hb d_ThumbCore_fromBase_127 rfl (lv_at hl 3 rfl) ?_
    refine va_get (D := D) (ci := 4) (v := .ref h_registers) (C := R_ThumbCore) (T := F_ThumbCore) (N := 8) hx hb hts u_ThumbCore hown hK hP 0 rfl rfl 1 (by decide) (hts _ wf_ThumbCore_27) (fun _ h9 => h9) rfl d_ThumbCore_fromBase_128 ?_
    refine lv_iload_n hx hb d_ThumbCore_fromBase_131 rfl (lv_at hl 2 rfl) ?_
    refine lv_aload_n hx hb d_ThumbCore_fromBase_132 rfl (lv_at hl 3 rfl) ?_
    refine va_get (D := D) (ci := 4) (v := .ref h_registers) (C := R_ThumbCore) (T := F_ThumbCore) (N := 8) hx hb hts u_ThumbCore hown hK hP 0 rfl rfl 1 (by decide) (hts _ wf_ThumbCore_27) (fun _ h9 => h9) rfl d_ThumbCore_fromBase_133 ?_
    refine lv_bipush (v := 13) hx hb d_ThumbCore_fromBase_136 (by decide) ?_
    refine va_iald hx hb hK hP 3 0 rfl rfl (by show ¬ (_ ∨ _); decide) d_ThumbCore_fromBase_138 ?_
    refine lv_iload_n hx hb d_ThumbCore_fromBase_139 rfl (lv_at hl 1 rfl) ?_
    refine lv_iadd hx hb d_ThumbCore_fromBase_140 ?_
    refine va_iast hx hb hK hP hD hS 3 0 rfl rfl (tc_en7 e_v1) d_ThumbCore_fromBase_141 (fun H locs hP hD hS => ?_)
    have hP : va_P D tcl (wd_ThumbCore cI cB cZ h h_memory h_memory_words h_registers h_flags h_exceptions h_exceptions_priorities h_counter q_memory_size n_memory_words c_asleep c_locked c_next c_memory_words (upd c_registers v1.toNatClampNeg ((c_registers (13 : Int32).toNatClampNeg) + v2)) c_flags_negative c_flags_zero c_flags_carry c_flags_overflow c_exceptions_pending c_exceptions_active c_exceptions_current c_exceptions_masked c_exceptions_priorities c_counter_number c_counter_reload c_counter_on) H := hP
    have hD : va_D A (wd_ThumbCore cI cB cZ h h_memory h_memory_words h_registers h_flags h_exceptions h_exceptions_priorities h_counter q_memory_size n_memory_words c_asleep c_locked c_next c_memory_words (upd c_registers v1.toNatClampNeg ((c_registers (13 : Int32).toNatClampNeg) + v2)) c_flags_negative c_flags_zero c_flags_carry c_flags_overflow c_exceptions_pending c_exceptions_active c_exceptions_current c_exceptions_masked c_exceptions_priorities c_counter_number c_counter_reload c_counter_on) := hD
    refine lv_iconst (v := 1) hx hb d_ThumbCore_fromBase_142 (by decide) ?_
    exact RET H locs ls 143 (true, c_memory_words, (upd c_registers v1.toNatClampNeg ((c_registers (13 : Int32).toNatClampNeg) + v2))) d_ThumbCore_fromBase_143 hP hD hS hq
  exact lv_lookup (off := 98) (tgt := 127) hx hb d_ThumbCore_fromBase_29 (by decide) (tc_lo1 (tc_ne (j := 9) g_29_9 (by decide)).symm (tc_lo1 (tc_ne (j := 18) g_29_18 (by decide)).symm (tc_lo1 (tc_ne (j := 19) g_29_19 (by decide)).symm (tc_lo1 (tc_ne (j := 20) g_29_20 (by decide)).symm rfl)))) (by decide) DF

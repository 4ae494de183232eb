abbrev rm_ThumbCore_swapBytes : Room := { frames := 1, cells := 0, slots := 0, locals := 24 }
set_option maxHeartbeats 4000000 in
set_option maxRecDepth 100000 in
theorem c_ThumbCore_swapBytes (l : Launch) (D : va_G) (cI cB cZ : ClassId) (h h_memory h_memory_words h_registers h_flags h_exceptions h_exceptions_priorities h_counter sz : Nat) (q_memory_size : Int32) (n_memory_words : Nat) (c_asleep : Bool) (c_locked : Bool) (c_next : Int32) (c_memory_words : Nat → Int32) (c_registers : Nat → Int32) (c_flags_negative : Bool) (c_flags_zero : Bool) (c_flags_carry : Bool) (c_flags_overflow : Bool) (c_exceptions_pending : Int32) (c_exceptions_active : Int32) (c_exceptions_current : Int32) (c_exceptions_masked : Bool) (c_exceptions_priorities : Nat → Int32) (c_counter_number : Int32) (c_counter_reload : Int32) (c_counter_on : Bool) (x1 : Int32) : Met l y_ThumbCore_swapBytes (.code y_ThumbCore_swapBytes b_ThumbCore_swapBytes 5 (some .boolean) :: tcb) rm_ThumbCore_swapBytes (tc_Pw D tcl (tys cI cB cZ) (wd_ThumbCore cI cB cZ h h_memory h_memory_words h_registers h_flags h_exceptions h_exceptions_priorities h_counter q_memory_size n_memory_words c_asleep c_locked c_next c_memory_words c_registers c_flags_negative c_flags_zero c_flags_carry c_flags_overflow c_exceptions_pending c_exceptions_active c_exceptions_current c_exceptions_masked c_exceptions_priorities c_counter_number c_counter_reload c_counter_on) sz ([.ref h, .int x1] : List Value) none) (tc_Qz D tcl (wd_ThumbCore cI cB cZ h h_memory h_memory_words h_registers h_flags h_exceptions h_exceptions_priorities h_counter q_memory_size n_memory_words c_asleep c_locked c_next c_memory_words c_registers c_flags_negative c_flags_zero c_flags_carry c_flags_overflow c_exceptions_pending c_exceptions_active c_exceptions_current c_exceptions_masked c_exceptions_priorities c_counter_number c_counter_reload c_counter_on) sz (fun u => (wd_ThumbCore cI cB cZ h h_memory h_memory_words h_registers h_flags h_exceptions h_exceptions_priorities h_counter q_memory_size n_memory_words c_asleep c_locked c_next c_memory_words u.2 c_flags_negative c_flags_zero c_flags_carry c_flags_overflow c_exceptions_pending c_exceptions_active c_exceptions_current c_exceptions_masked c_exceptions_priorities c_counter_number c_counter_reload c_counter_on)) (f_ThumbCore_swapBytes c_registers x1)) 0 0 (va_A (wd_ThumbCore cI cB cZ h h_memory h_memory_words h_registers h_flags h_exceptions h_exceptions_priorities h_counter q_memory_size n_memory_words c_asleep c_locked c_next c_memory_words c_registers c_flags_negative c_flags_zero c_flags_carry c_flags_overflow c_exceptions_pending c_exceptions_active c_exceptions_current c_exceptions_masked c_exceptions_priorities c_counter_number c_counter_reload c_counter_on) sz) := by
  refine tc_mu_z (by decide) (Nat.le_of_ble_eq_true rfl) ?_
  intro p e s m below meth c A Q ls hx hb hml hts hown hK hN hP hD hA hZ hl RET
  have hS : va_S A s.heap s.heap [] := va_S.rf
  have hl : lv_has ls 5 [(0, .ref h), (1, .int x1)] := hl
  generalize hF : f_ThumbCore_swapBytes c_registers x1 = FF at RET
  have hq : FF = f_ThumbCore_swapBytes c_registers x1 := hF.symm
  revert hP hD hS
  suffices G : ∀ (H : Heap) (locs : List Loc), va_P D tcl (wd_ThumbCore cI cB cZ h h_memory h_memory_words h_registers h_flags h_exceptions h_exceptions_priorities h_counter q_memory_size n_memory_words c_asleep c_locked c_next c_memory_words c_registers c_flags_negative c_flags_zero c_flags_carry c_flags_overflow c_exceptions_pending c_exceptions_active c_exceptions_current c_exceptions_masked c_exceptions_priorities c_counter_number c_counter_reload c_counter_on) H → va_D A (wd_ThumbCore cI cB cZ h h_memory h_memory_words h_registers h_flags h_exceptions h_exceptions_priorities h_counter q_memory_size n_memory_words c_asleep c_locked c_next c_memory_words c_registers c_flags_negative c_flags_zero c_flags_carry c_flags_overflow c_exceptions_pending c_exceptions_active c_exceptions_current c_exceptions_masked c_exceptions_priorities c_counter_number c_counter_reload c_counter_on) → va_S A s.heap H locs → W p l e rm_ThumbCore_swapBytes s m ([.ref h, .int x1] : List Value).toArray below meth c H locs 0 0 Q (F0 m 0 ls []) from fun hP hD hS => G _ _ hP hD hS
  intro H locs hP hD hS
  refine lv_iload_n hx hb d_ThumbCore_swapBytes_0 rfl (lv_at hl 1 rfl) ?_
  refine lv_bipush (v := 7) hx hb d_ThumbCore_swapBytes_1 (by decide) ?_
  refine lv_iand hx hb d_ThumbCore_swapBytes_3 ?_
  refine lv_topi (fun v1 e_v1 => ?_)
  have hq := tc_nm hq e_v1
  refine lv_istore_n (lv' := [(2, .int v1), (0, .ref h), (1, .int x1)]) hx hb d_ThumbCore_swapBytes_4 rfl hl (by decide) rfl (fun ls hl => ?_)
  refine lv_aload_n hx hb d_ThumbCore_swapBytes_5 rfl (lv_at hl 1 rfl) ?_
  refine va_get (D := D) (ci := 4) (v := .ref h_registers) (C := R_ThumbCore) (T := F_ThumbCore) (N := 8) hx hb hts u_ThumbCore hown hK hP 0 rfl rfl 1 (by decide) (hts _ wf_ThumbCore_27) (fun _ h9 => h9) rfl d_ThumbCore_swapBytes_6 ?_
  refine lv_iload_n hx hb d_ThumbCore_swapBytes_9 rfl (lv_at hl 2 rfl) ?_
  refine lv_iconst (v := 3) hx hb d_ThumbCore_swapBytes_10 (by decide) ?_
  refine lv_iushr (v := (o_iushr x1 3)) hx hb d_ThumbCore_swapBytes_11 rfl ?_
  refine lv_bipush (v := 7) hx hb d_ThumbCore_swapBytes_12 (by decide) ?_
  refine lv_iand hx hb d_ThumbCore_swapBytes_14 ?_
  refine va_iald hx hb hK hP 3 0 rfl rfl (tc_in7 _) d_ThumbCore_swapBytes_15 ?_
  refine lv_topi (fun v2 e_v2 => ?_)
  have hq := tc_nm hq e_v2
  refine lv_istore_n (lv' := [(3, .int v2), (2, .int v1), (0, .ref h), (1, .int x1)]) hx hb d_ThumbCore_swapBytes_16 rfl hl (by decide) rfl (fun ls hl => ?_)
  refine lv_iload_n hx hb d_ThumbCore_swapBytes_17 rfl (lv_at hl 0 rfl) ?_
  refine lv_ldcw (v := 16711935) hx hb hown (hts _ wk_ThumbCore_281) d_ThumbCore_swapBytes_18 ?_
  refine lv_iand hx hb d_ThumbCore_swapBytes_21 ?_
  refine lv_bipush (v := 8) hx hb d_ThumbCore_swapBytes_22 (by decide) ?_
  refine lv_ishl hx hb d_ThumbCore_swapBytes_24 ?_
  refine lv_iload_n hx hb d_ThumbCore_swapBytes_25 rfl (lv_at hl 0 rfl) ?_
  refine lv_bipush (v := 8) hx hb d_ThumbCore_swapBytes_26 (by decide) ?_
  refine lv_iushr (v := (o_iushr v2 8)) hx hb d_ThumbCore_swapBytes_28 rfl ?_
  refine lv_ldcw (v := 16711935) hx hb hown (hts _ wk_ThumbCore_281) d_ThumbCore_swapBytes_29 ?_
  refine lv_iand hx hb d_ThumbCore_swapBytes_32 ?_
  refine lv_ior hx hb d_ThumbCore_swapBytes_33 ?_
  refine lv_topi (fun v3 e_v3 => ?_)
  have hq := tc_nm hq e_v3
  refine lv_istore (lv' := [(4, .int v3), (3, .int v2), (2, .int v1), (0, .ref h), (1, .int x1)]) hx hb d_ThumbCore_swapBytes_34 hl (by decide) rfl (fun ls hl => ?_)
  refine lv_iload_n hx hb d_ThumbCore_swapBytes_36 rfl (lv_at hl 4 rfl) ?_
  refine lv_bipush (v := 6) hx hb d_ThumbCore_swapBytes_37 (by decide) ?_
  refine lv_iushr (v := (o_iushr x1 6)) hx hb d_ThumbCore_swapBytes_39 rfl ?_
  refine lv_iconst (v := 3) hx hb d_ThumbCore_swapBytes_40 (by decide) ?_
  refine lv_iand hx hb d_ThumbCore_swapBytes_41 ?_
  by_cases g_42_0 : ((o_iushr x1 6) &&& 3) = 0
  · have hq := hq.trans (if_pos g_42_0)
    refine tc_tabIn (k := 0) (off := 30) (tgt := 72) hx hb d_ThumbCore_swapBytes_42 g_42_0 (by decide) (by decide) (by decide +kernel) (by decide) ?_
    refine lv_aload_n hx hb d_ThumbCore_swapBytes_72 rfl (lv_at hl 3 rfl) ?_
    refine va_get (D := D) (ci := 4) (v := .ref h_registers) (C := R_ThumbCore) (T := F_ThumbCore) (N := 8) hx hb hts u_ThumbCore hown hK hP 0 rfl rfl 1 (by decide) (hts _ wf_ThumbCore_27) (fun _ h9 => h9) rfl d_ThumbCore_swapBytes_73 ?_
    refine lv_iload_n hx hb d_ThumbCore_swapBytes_76 rfl (lv_at hl 2 rfl) ?_
    refine lv_iload hx hb d_ThumbCore_swapBytes_77 (lv_at hl 0 rfl) ?_
    refine lv_bipush (v := 16) hx hb d_ThumbCore_swapBytes_79 (by decide) ?_
    refine lv_ishl hx hb d_ThumbCore_swapBytes_81 ?_
    refine lv_iload hx hb d_ThumbCore_swapBytes_82 (lv_at hl 0 rfl) ?_
    refine lv_bipush (v := 16) hx hb d_ThumbCore_swapBytes_84 (by decide) ?_
    refine lv_iushr (v := (o_iushr v3 16)) hx hb d_ThumbCore_swapBytes_86 rfl ?_
    refine lv_ior hx hb d_ThumbCore_swapBytes_87 ?_
    refine va_iast hx hb hK hP hD hS 3 0 rfl rfl (tc_en7 e_v1) d_ThumbCore_swapBytes_88 (fun H locs hP hD hS => ?_)
    have hP : va_P D tcl (wd_ThumbCore cI cB cZ h h_memory h_memory_words h_registers h_flags h_exceptions h_exceptions_priorities h_counter q_memory_size n_memory_words c_asleep c_locked c_next c_memory_words (upd c_registers v1.toNatClampNeg ((o_ishl v3 16) ||| (o_iushr v3 16))) c_flags_negative c_flags_zero c_flags_carry c_flags_overflow c_exceptions_pending c_exceptions_active c_exceptions_current c_exceptions_masked c_exceptions_priorities c_counter_number c_counter_reload c_counter_on) H := hP
    have hD : va_D A (wd_ThumbCore cI cB cZ h h_memory h_memory_words h_registers h_flags h_exceptions h_exceptions_priorities h_counter q_memory_size n_memory_words c_asleep c_locked c_next c_memory_words (upd c_registers v1.toNatClampNeg ((o_ishl v3 16) ||| (o_iushr v3 16))) c_flags_negative c_flags_zero c_flags_carry c_flags_overflow c_exceptions_pending c_exceptions_active c_exceptions_current c_exceptions_masked c_exceptions_priorities c_counter_number c_counter_reload c_counter_on) := hD
    refine lv_iconst (v := 1) hx hb d_ThumbCore_swapBytes_89 (by decide) ?_
    exact RET H locs ls 90 (true, (upd c_registers v1.toNatClampNeg ((o_ishl v3 16) ||| (o_iushr v3 16)))) d_ThumbCore_swapBytes_90 hP hD hS hq
  have hq := hq.trans (if_neg g_42_0)
  by_cases g_42_1 : ((o_iushr x1 6) &&& 3) = 1
  · have hq := hq.trans (if_pos g_42_1)
    refine tc_tabIn (k := 1) (off := 49) (tgt := 91) hx hb d_ThumbCore_swapBytes_42 g_42_1 (by decide) (by decide) (by decide +kernel) (by decide) ?_
    refine lv_aload_n hx hb d_ThumbCore_swapBytes_91 rfl (lv_at hl 3 rfl) ?_
    refine va_get (D := D) (ci := 4) (v := .ref h_registers) (C := R_ThumbCore) (T := F_ThumbCore) (N := 8) hx hb hts u_ThumbCore hown hK hP 0 rfl rfl 1 (by decide) (hts _ wf_ThumbCore_27) (fun _ h9 => h9) rfl d_ThumbCore_swapBytes_92 ?_
    refine lv_iload_n hx hb d_ThumbCore_swapBytes_95 rfl (lv_at hl 2 rfl) ?_
    refine lv_iload hx hb d_ThumbCore_swapBytes_96 (lv_at hl 0 rfl) ?_
    refine va_iast hx hb hK hP hD hS 3 0 rfl rfl (tc_en7 e_v1) d_ThumbCore_swapBytes_98 (fun H locs hP hD hS => ?_)
    have hP : va_P D tcl (wd_ThumbCore cI cB cZ h h_memory h_memory_words h_registers h_flags h_exceptions h_exceptions_priorities h_counter q_memory_size n_memory_words c_asleep c_locked c_next c_memory_words (upd c_registers v1.toNatClampNeg v3) c_flags_negative c_flags_zero c_flags_carry c_flags_overflow c_exceptions_pending c_exceptions_active c_exceptions_current c_exceptions_masked c_exceptions_priorities c_counter_number c_counter_reload c_counter_on) H := hP
    have hD : va_D A (wd_ThumbCore cI cB cZ h h_memory h_memory_words h_registers h_flags h_exceptions h_exceptions_priorities h_counter q_memory_size n_memory_words c_asleep c_locked c_next c_memory_words (upd c_registers v1.toNatClampNeg v3) c_flags_negative c_flags_zero c_flags_carry c_flags_overflow c_exceptions_pending c_exceptions_active c_exceptions_current c_exceptions_masked c_exceptions_priorities c_counter_number c_counter_reload c_counter_on) := hD
    refine lv_iconst (v := 1) hx hb d_ThumbCore_swapBytes_99 (by decide) ?_
    exact RET H locs ls 100 (true, (upd c_registers v1.toNatClampNeg v3)) d_ThumbCore_swapBytes_100 hP hD hS hq
  have hq := hq.trans (if_neg g_42_1)
  by_cases g_42_3 : ((o_iushr x1 6) &&& 3) = 3
  · have hq := hq.trans (if_pos g_42_3)
    refine tc_tabIn (k := 3) (off := 59) (tgt := 101) hx hb d_ThumbCore_swapBytes_42 g_42_3 (by decide) (by decide) (by decide +kernel) (by decide) ?_
    refine lv_aload_n hx hb d_ThumbCore_swapBytes_101 rfl (lv_at hl 3 rfl) ?_
    refine va_get (D := D) (ci := 4) (v := .ref h_registers) (C := R_ThumbCore) (T := F_ThumbCore) (N := 8) hx hb hts u_ThumbCore hown hK hP 0 rfl rfl 1 (by decide) (hts _ wf_ThumbCore_27) (fun _ h9 => h9) rfl d_ThumbCore_swapBytes_102 ?_
    refine lv_iload_n hx hb d_ThumbCore_swapBytes_105 rfl (lv_at hl 2 rfl) ?_
    refine lv_iload hx hb d_ThumbCore_swapBytes_106 (lv_at hl 0 rfl) ?_
    refine lv_i2s (v := v3.toInt16.toInt32) hx hb d_ThumbCore_swapBytes_108 rfl ?_
    refine va_iast hx hb hK hP hD hS 3 0 rfl rfl (tc_en7 e_v1) d_ThumbCore_swapBytes_109 (fun H locs hP hD hS => ?_)
    have hP : va_P D tcl (wd_ThumbCore cI cB cZ h h_memory h_memory_words h_registers h_flags h_exceptions h_exceptions_priorities h_counter q_memory_size n_memory_words c_asleep c_locked c_next c_memory_words (upd c_registers v1.toNatClampNeg v3.toInt16.toInt32) c_flags_negative c_flags_zero c_flags_carry c_flags_overflow c_exceptions_pending c_exceptions_active c_exceptions_current c_exceptions_masked c_exceptions_priorities c_counter_number c_counter_reload c_counter_on) H := hP
    have hD : va_D A (wd_ThumbCore cI cB cZ h h_memory h_memory_words h_registers h_flags h_exceptions h_exceptions_priorities h_counter q_memory_size n_memory_words c_asleep c_locked c_next c_memory_words (upd c_registers v1.toNatClampNeg v3.toInt16.toInt32) c_flags_negative c_flags_zero c_flags_carry c_flags_overflow c_exceptions_pending c_exceptions_active c_exceptions_current c_exceptions_masked c_exceptions_priorities c_counter_number c_counter_reload c_counter_on) := hD
    refine lv_iconst (v := 1) hx hb d_ThumbCore_swapBytes_110 (by decide) ?_
    exact RET H locs ls 111 (true, (upd c_registers v1.toNatClampNeg v3.toInt16.toInt32)) d_ThumbCore_swapBytes_111 hP hD hS hq
  have hq := hq.trans (if_neg g_42_3)
  have DF : W p l e rm_ThumbCore_swapBytes s m ([.ref h, .int x1] : List Value).toArray below meth c H locs 0 0 Q (F0 m 112 ls []) := by
    refine lv_iconst (v := 0) hx hb d_ThumbCore_swapBytes_112 (by decide) ?_
    exact RET H locs ls 113 (false, c_registers) d_ThumbCore_swapBytes_113 hP hD hS hq
  by_cases g_42_2 : ((o_iushr x1 6) &&& 3) = 2
  · exact tc_tabIn (k := 2) (off := 70) (tgt := 112) hx hb d_ThumbCore_swapBytes_42 g_42_2 (by decide) (by decide) (by decide +kernel) (by decide) DF
  exact lv_tableOut (x := ((o_iushr x1 6) &&& 3)) hx hb d_ThumbCore_swapBytes_42 (by have n0 := tc_ne (j := 0) g_42_0 (by decide); have n1 := tc_ne (j := 1) g_42_1 (by decide); have n2 := tc_ne (j := 2) g_42_2 (by decide); have n3 := tc_ne (j := 3) g_42_3 (by decide); omega) (by decide) DF
abbrev rm_ThumbCore_readList : Room := { frames := 2, cells := 0, slots := 0, locals := 45 }
set_option maxHeartbeats 4000000 in
set_option maxRecDepth 100000 in
theorem c_ThumbCore_readList (l : Launch) (D : va_G) (cI cB cZ : ClassId) (h h_memory h_memory_words h_registers h_flags h_exceptions h_exceptions_priorities h_counter sz : Nat) (q_memory_size : Int32) (n_memory_words : Nat) (c_asleep : Bool) (c_locked : Bool) (c_next : Int32) (c_memory_words : Nat → Int32) (c_registers : Nat → Int32) (c_flags_negative : Bool) (c_flags_zero : Bool) (c_flags_carry : Bool) (c_flags_overflow : Bool) (c_exceptions_pending : Int32) (c_exceptions_active : Int32) (c_exceptions_current : Int32) (c_exceptions_masked : Bool) (c_exceptions_priorities : Nat → Int32) (c_counter_number : Int32) (c_counter_reload : Int32) (c_counter_on : Bool) (x1 : Int32) (x2 : Int32) (hm : tc_mem q_memory_size n_memory_words) (hL : tc_run q_memory_size x2 x1 0) : Met l y_ThumbCore_readList (.code y_ThumbCore_readList b_ThumbCore_readList 5 none :: tcb) rm_ThumbCore_readList (tc_Pw D tcl (tys cI cB cZ) (wd_ThumbCore cI cB cZ h h_memory h_memory_words h_registers h_flags h_exceptions h_exceptions_priorities h_counter q_memory_size n_memory_words c_asleep c_locked c_next c_memory_words c_registers c_flags_negative c_flags_zero c_flags_carry c_flags_overflow c_exceptions_pending c_exceptions_active c_exceptions_current c_exceptions_masked c_exceptions_priorities c_counter_number c_counter_reload c_counter_on) sz ([.ref h, .int x1, .int x2] : List Value) none) (tc_Qv D tcl (wd_ThumbCore cI cB cZ h h_memory h_memory_words h_registers h_flags h_exceptions h_exceptions_priorities h_counter q_memory_size n_memory_words c_asleep c_locked c_next c_memory_words c_registers c_flags_negative c_flags_zero c_flags_carry c_flags_overflow c_exceptions_pending c_exceptions_active c_exceptions_current c_exceptions_masked c_exceptions_priorities c_counter_number c_counter_reload c_counter_on) sz (fun u => (wd_ThumbCore cI cB cZ h h_memory h_memory_words h_registers h_flags h_exceptions h_exceptions_priorities h_counter q_memory_size n_memory_words c_asleep c_locked c_next c_memory_words u c_flags_negative c_flags_zero c_flags_carry c_flags_overflow c_exceptions_pending c_exceptions_active c_exceptions_current c_exceptions_masked c_exceptions_priorities c_counter_number c_counter_reload c_counter_on)) (f_ThumbCore_readList c_memory_words c_registers x1 x2)) 0 0 (va_A (wd_ThumbCore cI cB cZ h h_memory h_memory_words h_registers h_flags h_exceptions h_exceptions_priorities h_counter q_memory_size n_memory_words c_asleep c_locked c_next c_memory_words c_registers c_flags_negative c_flags_zero c_flags_carry c_flags_overflow c_exceptions_pending c_exceptions_active c_exceptions_current c_exceptions_masked c_exceptions_priorities c_counter_number c_counter_reload c_counter_on) sz) := by
  refine tc_mu_v (by decide) (Nat.le_of_ble_eq_true rfl) ?_
  intro p e s m below meth c A Q ls hx hb hml hts hown hK hN hP hD hA hZ hl RET
  have hS : va_S A s.heap s.heap [] := va_S.rf
  have hl : lv_has ls 5 [(0, .ref h), (1, .int x1), (2, .int x2)] := hl
  generalize hF : f_ThumbCore_readList c_memory_words c_registers x1 x2 = FF at RET
  have J_5 : ∀ n : Nat, ∀ (H : Heap) (locs : List Loc) (ls : Array Slot) (c_registers : Nat → Int32) (y1 : Int32) (y3 : Int32) (y4 : Int32), va_P D tcl (wd_ThumbCore cI cB cZ h h_memory h_memory_words h_registers h_flags h_exceptions h_exceptions_priorities h_counter q_memory_size n_memory_words c_asleep c_locked c_next c_memory_words c_registers c_flags_negative c_flags_zero c_flags_carry c_flags_overflow c_exceptions_pending c_exceptions_active c_exceptions_current c_exceptions_masked c_exceptions_priorities c_counter_number c_counter_reload c_counter_on) H → va_D A (wd_ThumbCore cI cB cZ h h_memory h_memory_words h_registers h_flags h_exceptions h_exceptions_priorities h_counter q_memory_size n_memory_words c_asleep c_locked c_next c_memory_words c_registers c_flags_negative c_flags_zero c_flags_carry c_flags_overflow c_exceptions_pending c_exceptions_active c_exceptions_current c_exceptions_masked c_exceptions_priorities c_counter_number c_counter_reload c_counter_on) → va_S A s.heap H locs → lv_has ls 5 [(0, .ref h), (1, .int y1), (3, .int y3), (4, .int y4)] → FF = k_ThumbCore_readList_5 c_memory_words n c_registers y1 y3 y4 → (tc_lp y4 15 n) → (tc_run q_memory_size y3 y1 y4) → W p l e rm_ThumbCore_readList s m ([.ref h, .int x1, .int x2] : List Value).toArray below meth c H locs 0 0 Q (F0 m 5 ls []) := by
    intro n
    induction n with
    | zero =>
      intro H locs ls c_registers y1 y3 y4 hP hD hS hl hq hinv hL
      exact (tc_lp0 hinv).elim
    | succ n_5 IH_5 =>
      have J_40 : ∀ (H : Heap) (locs : List Loc) (ls : Array Slot) (c_registers : Nat → Int32) (y1 : Int32) (y3 : Int32) (y4 : Int32), va_P D tcl (wd_ThumbCore cI cB cZ h h_memory h_memory_words h_registers h_flags h_exceptions h_exceptions_priorities h_counter q_memory_size n_memory_words c_asleep c_locked c_next c_memory_words c_registers c_flags_negative c_flags_zero c_flags_carry c_flags_overflow c_exceptions_pending c_exceptions_active c_exceptions_current c_exceptions_masked c_exceptions_priorities c_counter_number c_counter_reload c_counter_on) H → va_D A (wd_ThumbCore cI cB cZ h h_memory h_memory_words h_registers h_flags h_exceptions h_exceptions_priorities h_counter q_memory_size n_memory_words c_asleep c_locked c_next c_memory_words c_registers c_flags_negative c_flags_zero c_flags_carry c_flags_overflow c_exceptions_pending c_exceptions_active c_exceptions_current c_exceptions_masked c_exceptions_priorities c_counter_number c_counter_reload c_counter_on) → va_S A s.heap H locs → lv_has ls 5 [(0, .ref h), (1, .int y1), (3, .int y3), (4, .int y4)] → FF = k_ThumbCore_readList_40 c_memory_words (k_ThumbCore_readList_5 c_memory_words n_5) c_registers y1 y3 y4 → (tc_lp y4 15 (n_5 + 1)) → (y4.toInt < (15 : Nat)) → (tc_run q_memory_size y3 y1 (y4 + 1)) → W p l e rm_ThumbCore_readList s m ([.ref h, .int x1, .int x2] : List Value).toArray below meth c H locs 0 0 Q (F0 m 40 ls []) := by
        intro H locs ls c_registers y1 y3 y4 hP hD hS hl hq hinv hgd hL2
        refine lv_iinc (k := 3) (v := (y4 + 1)) (lv' := [(4, .int (y4 + 1)), (0, .ref h), (1, .int y1), (3, .int y3)]) hx hb d_ThumbCore_readList_40 hl rfl rfl (by decide) rfl (fun ls hl => ?_)
        refine lv_goto (tgt := 5) hx hb d_ThumbCore_readList_43 (by decide) ?_
        exact IH_5 H locs ls c_registers y1 y3 (y4 + 1) hP hD hS (lv_sub hl [1, 2, 3, 0] rfl) hq (tc_lpS hinv hgd (by decide)) hL2
      intro H locs ls c_registers y1 y3 y4 hP hD hS hl hq hinv hL
      refine lv_iload hx hb d_ThumbCore_readList_5 (lv_at hl 3 rfl) ?_
      refine lv_bipush (v := 15) hx hb d_ThumbCore_readList_7 (by decide) ?_
      refine lv_icmp_ge (tgt := 46) hx hb d_ThumbCore_readList_9 (by decide) (fun g_9 => ?_) (fun g_9 => ?_)
      · have hq := hq.trans (if_pos g_9)
        exact RET H locs ls 46 c_registers d_ThumbCore_readList_46 hP hD hS hq
      · have hq := hq.trans (if_neg g_9)
        have hgd : y4.toInt < ((15 : Nat) : Int) := tc_gge g_9 (by decide)
        refine lv_iload_n hx hb d_ThumbCore_readList_12 rfl (lv_at hl 1 rfl) ?_
        refine lv_iload hx hb d_ThumbCore_readList_13 (lv_at hl 3 rfl) ?_
        refine lv_iushr (v := (o_iushr y1 y4)) hx hb d_ThumbCore_readList_15 rfl ?_
        refine lv_iconst (v := 1) hx hb d_ThumbCore_readList_16 (by decide) ?_
        refine lv_iand hx hb d_ThumbCore_readList_17 ?_
        refine lv_iconst (v := 1) hx hb d_ThumbCore_readList_18 (by decide) ?_
        refine lv_icmp_ne (tgt := 40) hx hb d_ThumbCore_readList_19 (by decide) (fun g_19 => ?_) (fun g_19 => ?_)
        · have hq := hq.trans (if_pos g_19)
          exact J_40 H locs ls c_registers y1 y3 y4 hP hD hS (lv_sub hl [0, 1, 2, 3] rfl) hq (by assumption) (by assumption) (tc_run0 hL hinv hgd g_19)
        · have hq := hq.trans (if_neg (fun g => g g_19))
          refine lv_aload_n hx hb d_ThumbCore_readList_22 rfl (lv_at hl 0 rfl) ?_
          refine va_get (D := D) (ci := 4) (v := .ref h_registers) (C := R_ThumbCore) (T := F_ThumbCore) (N := 8) hx hb hts u_ThumbCore hown hK hP 0 rfl rfl 1 (by decide) (hts _ wf_ThumbCore_27) (fun _ h9 => h9) rfl d_ThumbCore_readList_23 ?_
          refine lv_iload hx hb d_ThumbCore_readList_26 (lv_at hl 3 rfl) ?_
          refine lv_aload_n hx hb d_ThumbCore_readList_28 rfl (lv_at hl 0 rfl) ?_
          refine va_get (D := D) (ci := 4) (v := .ref h_memory) (C := R_ThumbCore) (T := F_ThumbCore) (N := 8) hx hb hts u_ThumbCore hown hK hP 0 rfl rfl 0 (by decide) (hts _ wf_ThumbCore_21) (fun _ h9 => h9) rfl d_ThumbCore_readList_29 ?_
          refine lv_iload_n hx hb d_ThumbCore_readList_32 rfl (lv_at hl 2 rfl) ?_
          refine tc_rd (va_runV (As := [.int y3]) (rest := [.int y4, .ref h_registers]) ⟨hx, hb, hml, hown, hts⟩ (c_Memory_word l D cI cB cZ h_memory h_memory_words H.size q_memory_size n_memory_words c_memory_words y3 hm (tc_runOk hm hL hinv hgd g_19)) (cwV 1 hts (tc_gV wl_ThumbCore_66 wm_Memory_word ws_Memory_word wi_Memory wc_Memory_word) rfl rfl rfl (by decide +kernel) ⟨Nat.le_of_ble_eq_true rfl, Nat.le_of_ble_eq_true rfl⟩) (tc_preV hK hN hP hD [1, 2] rfl (by decide) (q0 := 1) rfl rfl) rfl rfl hl.1 rfl (lv_room (Nat.le_of_ble_eq_true rfl)) d_ThumbCore_readList_33 (by decide)) ?_
          refine lv_topi (fun v1 e_v1 => ?_)
          have hq := tc_nm hq e_v1
          refine va_iast hx hb hK hP hD hS 3 0 rfl rfl (tc_lpI hinv hgd (by decide)) d_ThumbCore_readList_36 (fun H locs hP hD hS => ?_)
          have hP : va_P D tcl (wd_ThumbCore cI cB cZ h h_memory h_memory_words h_registers h_flags h_exceptions h_exceptions_priorities h_counter q_memory_size n_memory_words c_asleep c_locked c_next c_memory_words (upd c_registers y4.toNatClampNeg v1) c_flags_negative c_flags_zero c_flags_carry c_flags_overflow c_exceptions_pending c_exceptions_active c_exceptions_current c_exceptions_masked c_exceptions_priorities c_counter_number c_counter_reload c_counter_on) H := hP
          have hD : va_D A (wd_ThumbCore cI cB cZ h h_memory h_memory_words h_registers h_flags h_exceptions h_exceptions_priorities h_counter q_memory_size n_memory_words c_asleep c_locked c_next c_memory_words (upd c_registers y4.toNatClampNeg v1) c_flags_negative c_flags_zero c_flags_carry c_flags_overflow c_exceptions_pending c_exceptions_active c_exceptions_current c_exceptions_masked c_exceptions_priorities c_counter_number c_counter_reload c_counter_on) := hD
          refine lv_iinc (k := 2) (v := (y3 + 4)) (lv' := [(3, .int (y3 + 4)), (0, .ref h), (1, .int y1), (4, .int y4)]) hx hb d_ThumbCore_readList_37 hl rfl rfl (by decide) rfl (fun ls hl => ?_)
          exact J_40 H locs ls (upd c_registers y4.toNatClampNeg v1) y1 (y3 + 4) y4 hP hD hS (lv_sub hl [1, 2, 0, 3] rfl) hq (by assumption) (by assumption) (tc_run1 hm hL hinv hgd g_19)
  have hq : FF = f_ThumbCore_readList c_memory_words c_registers x1 x2 := hF.symm
  revert hP hD hS
  suffices G : ∀ (H : Heap) (locs : List Loc), va_P D tcl (wd_ThumbCore cI cB cZ h h_memory h_memory_words h_registers h_flags h_exceptions h_exceptions_priorities h_counter q_memory_size n_memory_words c_asleep c_locked c_next c_memory_words c_registers c_flags_negative c_flags_zero c_flags_carry c_flags_overflow c_exceptions_pending c_exceptions_active c_exceptions_current c_exceptions_masked c_exceptions_priorities c_counter_number c_counter_reload c_counter_on) H → va_D A (wd_ThumbCore cI cB cZ h h_memory h_memory_words h_registers h_flags h_exceptions h_exceptions_priorities h_counter q_memory_size n_memory_words c_asleep c_locked c_next c_memory_words c_registers c_flags_negative c_flags_zero c_flags_carry c_flags_overflow c_exceptions_pending c_exceptions_active c_exceptions_current c_exceptions_masked c_exceptions_priorities c_counter_number c_counter_reload c_counter_on) → va_S A s.heap H locs → W p l e rm_ThumbCore_readList s m ([.ref h, .int x1, .int x2] : List Value).toArray below meth c H locs 0 0 Q (F0 m 0 ls []) from fun hP hD hS => G _ _ hP hD hS
  intro H locs hP hD hS
  refine lv_iload_n hx hb d_ThumbCore_readList_0 rfl (lv_at hl 2 rfl) ?_
  refine lv_istore_n (lv' := [(3, .int x2), (0, .ref h), (1, .int x1), (2, .int x2)]) hx hb d_ThumbCore_readList_1 rfl hl (by decide) rfl (fun ls hl => ?_)
  refine lv_iconst (v := 0) hx hb d_ThumbCore_readList_2 (by decide) ?_
  refine lv_istore (lv' := [(4, .int 0), (3, .int x2), (0, .ref h), (1, .int x1), (2, .int x2)]) hx hb d_ThumbCore_readList_3 hl (by decide) rfl (fun ls hl => ?_)
  exact J_5 (16) H locs ls c_registers x1 x2 0 hP hD hS (lv_sub hl [2, 3, 1, 0] rfl) hq (tc_lpE _) (by assumption)
abbrev rm_ThumbCore_behind : Room := { frames := 2, cells := 0, slots := 0, locals := 44 }
set_option maxHeartbeats 4000000 in
set_option maxRecDepth 100000 in
theorem c_ThumbCore_behind (l : Launch) (x1 : Int32) (x2 : Int32) : Met l y_ThumbCore_behind (.code y_ThumbCore_behind b_ThumbCore_behind 2 (some .int) :: tcb) rm_ThumbCore_behind (va_Pc ([.int x1, .int x2] : List Value) (fun _ => True)) (QcRead (f_ThumbCore_behind x1 x2)) 0 0 (fun _ => False) := by
  refine tc_st_i (by decide) (Nat.le_of_ble_eq_true rfl) ?_
  intro p e s m below meth c Q ls hx hb hml hts hown hl RET
  have hl : lv_has ls 2 [(0, .int x1), (1, .int x2)] := hl
  generalize hF : f_ThumbCore_behind x1 x2 = FF at RET
  have hq : FF = f_ThumbCore_behind x1 x2 := hF.symm
  refine lv_iload_n hx hb d_ThumbCore_behind_0 rfl (lv_at hl 1 rfl) ?_
  refine lv_iconst (v := 4) hx hb d_ThumbCore_behind_1 (by decide) ?_
  refine lv_iload_n hx hb d_ThumbCore_behind_2 rfl (lv_at hl 0 rfl) ?_
  refine tc_rd (va_runS (As := [.int x1]) (rest := [.int 4, .int x2]) ⟨hx, hb, hml, hown, hts⟩ (c_Integer_bitCount l x1) (va_cwS 1 hts (tc_gS wl_ThumbCore_134 wt_Integer_bitCount wi_Integer wc_Integer_bitCount) rfl rfl rfl (by decide +kernel) ⟨Nat.le_of_ble_eq_true rfl, Nat.le_of_ble_eq_true rfl⟩) tc_preS rfl rfl hl.1 rfl (lv_room (Nat.le_of_ble_eq_true rfl)) d_ThumbCore_behind_3 (by decide)) ?_
  refine lv_topi (fun v1 e_v1 => ?_)
  have hq := tc_nm hq e_v1
  refine lv_imul hx hb d_ThumbCore_behind_6 ?_
  refine lv_iadd hx hb d_ThumbCore_behind_7 ?_
  exact RET ls 8 d_ThumbCore_behind_8 hq
abbrev rm_ThumbCore_pop : Room := { frames := 3, cells := 0, slots := 0, locals := 69 }
set_option maxHeartbeats 4000000 in
set_option maxRecDepth 100000 in
theorem c_ThumbCore_pop (l : Launch) (D : va_G) (cI cB cZ : ClassId) (h h_memory h_memory_words h_registers h_flags h_exceptions h_exceptions_priorities h_counter sz : Nat) (q_memory_size : Int32) (n_memory_words : Nat) (c_asleep : Bool) (c_locked : Bool) (c_next : Int32) (c_memory_words : Nat → Int32) (c_registers : Nat → Int32) (c_flags_negative : Bool) (c_flags_zero : Bool) (c_flags_carry : Bool) (c_flags_overflow : Bool) (c_exceptions_pending : Int32) (c_exceptions_active : Int32) (c_exceptions_current : Int32) (c_exceptions_masked : Bool) (c_exceptions_priorities : Nat → Int32) (c_counter_number : Int32) (c_counter_reload : Int32) (c_counter_on : Bool) (x1 : Int32) (hm : tc_mem q_memory_size n_memory_words) (hc : tc_cl x1) : Met l y_ThumbCore_pop (.code y_ThumbCore_pop b_ThumbCore_pop 3 (some .boolean) :: tcb) rm_ThumbCore_pop (tc_Pw D tcl (tys cI cB cZ) (wd_ThumbCore cI cB cZ h h_memory h_memory_words h_registers h_flags h_exceptions h_exceptions_priorities h_counter q_memory_size n_memory_words c_asleep c_locked c_next c_memory_words c_registers c_flags_negative c_flags_zero c_flags_carry c_flags_overflow c_exceptions_pending c_exceptions_active c_exceptions_current c_exceptions_masked c_exceptions_priorities c_counter_number c_counter_reload c_counter_on) sz ([.ref h, .int x1] : List Value) none) (tc_Qz D tcl (wd_ThumbCore cI cB cZ h h_memory h_memory_words h_registers h_flags h_exceptions h_exceptions_priorities h_counter q_memory_size n_memory_words c_asleep c_locked c_next c_memory_words c_registers c_flags_negative c_flags_zero c_flags_carry c_flags_overflow c_exceptions_pending c_exceptions_active c_exceptions_current c_exceptions_masked c_exceptions_priorities c_counter_number c_counter_reload c_counter_on) sz (fun u => (wd_ThumbCore cI cB cZ h h_memory h_memory_words h_registers h_flags h_exceptions h_exceptions_priorities h_counter q_memory_size n_memory_words c_asleep c_locked c_next c_memory_words u.2 c_flags_negative c_flags_zero c_flags_carry c_flags_overflow c_exceptions_pending c_exceptions_active c_exceptions_current c_exceptions_masked c_exceptions_priorities c_counter_number c_counter_reload c_counter_on)) (f_ThumbCore_pop q_memory_size c_memory_words c_registers x1)) 0 0 (va_A (wd_ThumbCore cI cB cZ h h_memory h_memory_words h_registers h_flags h_exceptions h_exceptions_priorities h_counter q_memory_size n_memory_words c_asleep c_locked c_next c_memory_words c_registers c_flags_negative c_flags_zero c_flags_carry c_flags_overflow c_exceptions_pending c_exceptions_active c_exceptions_current c_exceptions_masked c_exceptions_priorities c_counter_number c_counter_reload c_counter_on) sz) := by
  refine tc_mu_z (by decide) (Nat.le_of_ble_eq_true rfl) ?_
  intro p e s m below meth c A Q ls hx hb hml hts hown hK hN hP hD hA hZ hl RET
  have hS : va_S A s.heap s.heap [] := va_S.rf
  have hl : lv_has ls 3 [(0, .ref h), (1, .int x1)] := hl
  generalize hF : f_ThumbCore_pop q_memory_size c_memory_words c_registers x1 = FF at RET
  have hq : FF = f_ThumbCore_pop q_memory_size c_memory_words c_registers x1 := hF.symm
  revert hP hD hS
  suffices G : ∀ (H : Heap) (locs : List Loc), va_P D tcl (wd_ThumbCore cI cB cZ h h_memory h_memory_words h_registers h_flags h_exceptions h_exceptions_priorities h_counter q_memory_size n_memory_words c_asleep c_locked c_next c_memory_words c_registers c_flags_negative c_flags_zero c_flags_carry c_flags_overflow c_exceptions_pending c_exceptions_active c_exceptions_current c_exceptions_masked c_exceptions_priorities c_counter_number c_counter_reload c_counter_on) H → va_D A (wd_ThumbCore cI cB cZ h h_memory h_memory_words h_registers h_flags h_exceptions h_exceptions_priorities h_counter q_memory_size n_memory_words c_asleep c_locked c_next c_memory_words c_registers c_flags_negative c_flags_zero c_flags_carry c_flags_overflow c_exceptions_pending c_exceptions_active c_exceptions_current c_exceptions_masked c_exceptions_priorities c_counter_number c_counter_reload c_counter_on) → va_S A s.heap H locs → W p l e rm_ThumbCore_pop s m ([.ref h, .int x1] : List Value).toArray below meth c H locs 0 0 Q (F0 m 0 ls []) from fun hP hD hS => G _ _ hP hD hS
  intro H locs hP hD hS
  refine lv_aload_n hx hb d_ThumbCore_pop_0 rfl (lv_at hl 0 rfl) ?_
  refine va_get (D := D) (ci := 4) (v := .ref h_registers) (C := R_ThumbCore) (T := F_ThumbCore) (N := 8) hx hb hts u_ThumbCore hown hK hP 0 rfl rfl 1 (by decide) (hts _ wf_ThumbCore_27) (fun _ h9 => h9) rfl d_ThumbCore_pop_1 ?_
  refine lv_bipush (v := 13) hx hb d_ThumbCore_pop_4 (by decide) ?_
  refine va_iald hx hb hK hP 3 0 rfl rfl (by show ¬ (_ ∨ _); decide) d_ThumbCore_pop_6 ?_
  refine lv_topi (fun v1 e_v1 => ?_)
  have hq := tc_nm hq e_v1
  refine lv_istore_n (lv' := [(2, .int v1), (0, .ref h), (1, .int x1)]) hx hb d_ThumbCore_pop_7 rfl hl (by decide) rfl (fun ls hl => ?_)
  refine lv_aload_n hx hb d_ThumbCore_pop_8 rfl (lv_at hl 1 rfl) ?_
  refine lv_iload_n hx hb d_ThumbCore_pop_9 rfl (lv_at hl 2 rfl) ?_
  refine lv_iload_n hx hb d_ThumbCore_pop_10 rfl (lv_at hl 0 rfl) ?_
  refine tc_rd (va_runV (As := [.int x1, .int v1]) (rest := []) ⟨hx, hb, hml, hown, hts⟩ (c_ThumbCore_areThere l D cI cB cZ h h_memory h_memory_words h_registers h_flags h_exceptions h_exceptions_priorities h_counter H.size q_memory_size n_memory_words c_asleep c_locked c_next c_memory_words c_registers c_flags_negative c_flags_zero c_flags_carry c_flags_overflow c_exceptions_pending c_exceptions_active c_exceptions_current c_exceptions_masked c_exceptions_priorities c_counter_number c_counter_reload c_counter_on x1 v1) (cwV 2 hts (tc_gV wl_ThumbCore_283 wm_ThumbCore_areThere ws_ThumbCore_areThere wi_ThumbCore wc_ThumbCore_areThere) rfl rfl rfl (by decide +kernel) ⟨Nat.le_of_ble_eq_true rfl, Nat.le_of_ble_eq_true rfl⟩) (tc_preV hK hN hP hD [0, 1, 2, 3, 4, 5, 6, 7] rfl (by decide) (q0 := 0) rfl rfl) rfl rfl hl.1 rfl (lv_room (Nat.le_of_ble_eq_true rfl)) d_ThumbCore_pop_11 (by decide)) ?_
  refine tc_topb (fun v2 e_v2 => ?_)
  have hq := tc_nm hq e_v2
  refine lv_if_ne (tgt := 19) hx hb d_ThumbCore_pop_14 (by decide) (fun g_14 => ?_) (fun g_14 => ?_)
  · have hq := hq.trans (if_pos g_14)
    refine lv_aload_n hx hb d_ThumbCore_pop_19 rfl (lv_at hl 1 rfl) ?_
    refine lv_iload_n hx hb d_ThumbCore_pop_20 rfl (lv_at hl 2 rfl) ?_
    refine lv_iload_n hx hb d_ThumbCore_pop_21 rfl (lv_at hl 0 rfl) ?_
    refine tc_mv (wo := fun u => (wd_ThumbCore cI cB cZ h h_memory h_memory_words h_registers h_flags h_exceptions h_exceptions_priorities h_counter q_memory_size n_memory_words c_asleep c_locked c_next c_memory_words u c_flags_negative c_flags_zero c_flags_carry c_flags_overflow c_exceptions_pending c_exceptions_active c_exceptions_current c_exceptions_masked c_exceptions_priorities c_counter_number c_counter_reload c_counter_on)) (va_runV (As := [.int x1, .int v1]) (rest := []) ⟨hx, hb, hml, hown, hts⟩ (c_ThumbCore_readList l D cI cB cZ h h_memory h_memory_words h_registers h_flags h_exceptions h_exceptions_priorities h_counter H.size q_memory_size n_memory_words c_asleep c_locked c_next c_memory_words c_registers c_flags_negative c_flags_zero c_flags_carry c_flags_overflow c_exceptions_pending c_exceptions_active c_exceptions_current c_exceptions_masked c_exceptions_priorities c_counter_number c_counter_reload c_counter_on x1 v1 hm (tc_lT hm hc (tc_bT e_v2 g_14))) (cwV 2 hts (tc_gV wl_ThumbCore_289 wm_ThumbCore_readList ws_ThumbCore_readList wi_ThumbCore wc_ThumbCore_readList) rfl rfl rfl (by decide +kernel) ⟨Nat.le_of_ble_eq_true rfl, Nat.le_of_ble_eq_true rfl⟩) (tc_preV hK hN hP hD [0, 1, 2, 3, 4, 5, 6, 7] rfl (by decide) (q0 := 0) rfl rfl) rfl rfl hl.1 rfl (lv_room (Nat.le_of_ble_eq_true rfl)) d_ThumbCore_pop_22 (by decide)) hP hD hS hA [0, 1, 2, 3, 4, 5, 6, 7] [] [0, 1, 2, 3, 4, 5, 6, 7] rfl rfl (by decide) (by decide) (by decide) (fun _ => rfl) (fun s3 H locs e_s3 hP hD hS => ?_)
    have hq := tc_nm hq e_s3
    have hP : va_P D tcl (wd_ThumbCore cI cB cZ h h_memory h_memory_words h_registers h_flags h_exceptions h_exceptions_priorities h_counter q_memory_size n_memory_words c_asleep c_locked c_next c_memory_words s3 c_flags_negative c_flags_zero c_flags_carry c_flags_overflow c_exceptions_pending c_exceptions_active c_exceptions_current c_exceptions_masked c_exceptions_priorities c_counter_number c_counter_reload c_counter_on) H := hP
    have hD : va_D A (wd_ThumbCore cI cB cZ h h_memory h_memory_words h_registers h_flags h_exceptions h_exceptions_priorities h_counter q_memory_size n_memory_words c_asleep c_locked c_next c_memory_words s3 c_flags_negative c_flags_zero c_flags_carry c_flags_overflow c_exceptions_pending c_exceptions_active c_exceptions_current c_exceptions_masked c_exceptions_priorities c_counter_number c_counter_reload c_counter_on) := hD
    refine lv_aload_n hx hb d_ThumbCore_pop_25 rfl (lv_at hl 1 rfl) ?_
    refine va_get (D := D) (ci := 4) (v := .ref h_registers) (C := R_ThumbCore) (T := F_ThumbCore) (N := 8) hx hb hts u_ThumbCore hown hK hP 0 rfl rfl 1 (by decide) (hts _ wf_ThumbCore_27) (fun _ h9 => h9) rfl d_ThumbCore_pop_26 ?_
    refine lv_bipush (v := 13) hx hb d_ThumbCore_pop_29 (by decide) ?_
    refine lv_iload_n hx hb d_ThumbCore_pop_31 rfl (lv_at hl 2 rfl) ?_
    refine lv_iload_n hx hb d_ThumbCore_pop_32 rfl (lv_at hl 0 rfl) ?_
    refine tc_rd (va_runS (As := [.int x1, .int v1]) (rest := [.int 13, .ref h_registers]) ⟨hx, hb, hml, hown, hts⟩ (c_ThumbCore_behind l x1 v1) (va_cwS 2 hts (tc_gS wl_ThumbCore_292 wt_ThumbCore_behind wi_ThumbCore wc_ThumbCore_behind) rfl rfl rfl (by decide +kernel) ⟨Nat.le_of_ble_eq_true rfl, Nat.le_of_ble_eq_true rfl⟩) tc_preS rfl rfl hl.1 rfl (lv_room (Nat.le_of_ble_eq_true rfl)) d_ThumbCore_pop_33 (by decide)) ?_
    refine lv_topi (fun v4 e_v4 => ?_)
    have hq := tc_nm hq e_v4
    refine va_iast hx hb hK hP hD hS 3 0 rfl rfl (by show ¬ (_ ∨ _); decide) d_ThumbCore_pop_36 (fun H locs hP hD hS => ?_)
    have hP : va_P D tcl (wd_ThumbCore cI cB cZ h h_memory h_memory_words h_registers h_flags h_exceptions h_exceptions_priorities h_counter q_memory_size n_memory_words c_asleep c_locked c_next c_memory_words (upd s3 (13 : Int32).toNatClampNeg v4) c_flags_negative c_flags_zero c_flags_carry c_flags_overflow c_exceptions_pending c_exceptions_active c_exceptions_current c_exceptions_masked c_exceptions_priorities c_counter_number c_counter_reload c_counter_on) H := hP
    have hD : va_D A (wd_ThumbCore cI cB cZ h h_memory h_memory_words h_registers h_flags h_exceptions h_exceptions_priorities h_counter q_memory_size n_memory_words c_asleep c_locked c_next c_memory_words (upd s3 (13 : Int32).toNatClampNeg v4) c_flags_negative c_flags_zero c_flags_carry c_flags_overflow c_exceptions_pending c_exceptions_active c_exceptions_current c_exceptions_masked c_exceptions_priorities c_counter_number c_counter_reload c_counter_on) := hD
    refine lv_iconst (v := 1) hx hb d_ThumbCore_pop_37 (by decide) ?_
    exact RET H locs ls 38 (true, (upd s3 (13 : Int32).toNatClampNeg v4)) d_ThumbCore_pop_38 hP hD hS hq
  · have hq := hq.trans (if_neg (fun g => g g_14))
    refine lv_iconst (v := 0) hx hb d_ThumbCore_pop_17 (by decide) ?_
    exact RET H locs ls 18 (false, c_registers) d_ThumbCore_pop_18 hP hD hS hq
abbrev rm_ThumbCore_popAndGo : Room := { frames := 4, cells := 0, slots := 0, locals := 89 }
set_option maxHeartbeats 4000000 in
set_option maxRecDepth 100000 in
theorem c_ThumbCore_popAndGo (l : Launch) (D : va_G) (cI cB cZ : ClassId) (h h_memory h_memory_words h_registers h_flags h_exceptions h_exceptions_priorities h_counter tL sz : Nat) (q_memory_size : Int32) (n_memory_words : Nat) (c_asleep : Bool) (c_locked : Bool) (c_next : Int32) (c_memory_words : Nat → Int32) (c_registers : Nat → Int32) (c_flags_negative : Bool) (c_flags_zero : Bool) (c_flags_carry : Bool) (c_flags_overflow : Bool) (c_exceptions_pending : Int32) (c_exceptions_active : Int32) (c_exceptions_current : Int32) (c_exceptions_masked : Bool) (c_exceptions_priorities : Nat → Int32) (c_counter_number : Int32) (c_counter_reload : Int32) (c_counter_on : Bool) (x1 : Int32) (hm : tc_mem q_memory_size n_memory_words) (hc : tc_cl x1) : Met l y_ThumbCore_popAndGo (.code y_ThumbCore_popAndGo b_ThumbCore_popAndGo 5 (some .boolean) :: tcb) rm_ThumbCore_popAndGo (tc_Pw D tcl (tys cI cB cZ) (wd_ThumbCore cI cB cZ h h_memory h_memory_words h_registers h_flags h_exceptions h_exceptions_priorities h_counter q_memory_size n_memory_words c_asleep c_locked c_next c_memory_words c_registers c_flags_negative c_flags_zero c_flags_carry c_flags_overflow c_exceptions_pending c_exceptions_active c_exceptions_current c_exceptions_masked c_exceptions_priorities c_counter_number c_counter_reload c_counter_on) sz ([.ref h, .int x1] : List Value) (some tL)) (tc_Qz D tcl (wd_ThumbCore cI cB cZ h h_memory h_memory_words h_registers h_flags h_exceptions h_exceptions_priorities h_counter q_memory_size n_memory_words c_asleep c_locked c_next c_memory_words c_registers c_flags_negative c_flags_zero c_flags_carry c_flags_overflow c_exceptions_pending c_exceptions_active c_exceptions_current c_exceptions_masked c_exceptions_priorities c_counter_number c_counter_reload c_counter_on) sz (fun u => (wd_ThumbCore cI cB cZ h h_memory h_memory_words h_registers h_flags h_exceptions h_exceptions_priorities h_counter q_memory_size n_memory_words c_asleep c_locked u.2.1 c_memory_words u.2.2.1 u.2.2.2.1 u.2.2.2.2.1 u.2.2.2.2.2.1 u.2.2.2.2.2.2.1 c_exceptions_pending u.2.2.2.2.2.2.2.1 u.2.2.2.2.2.2.2.2 c_exceptions_masked c_exceptions_priorities c_counter_number c_counter_reload c_counter_on)) (f_ThumbCore_popAndGo q_memory_size c_memory_words c_next c_registers c_flags_negative c_flags_zero c_flags_carry c_flags_overflow c_exceptions_active c_exceptions_current x1)) 0 0 (va_A (wd_ThumbCore cI cB cZ h h_memory h_memory_words h_registers h_flags h_exceptions h_exceptions_priorities h_counter q_memory_size n_memory_words c_asleep c_locked c_next c_memory_words c_registers c_flags_negative c_flags_zero c_flags_carry c_flags_overflow c_exceptions_pending c_exceptions_active c_exceptions_current c_exceptions_masked c_exceptions_priorities c_counter_number c_counter_reload c_counter_on) sz) := by
  refine tc_mu_z (by decide) (Nat.le_of_ble_eq_true rfl) ?_
  intro p e s m below meth c A Q ls hx hb hml hts hown hK hN hP hD hA hZ hl RET
  have hS : va_S A s.heap s.heap [] := va_S.rf
  have hZ : va_Z "ThumbCore" "LAID" "[I" (.ref tL) A s s.heap ∧ va_T .int tL 6 (fun j => .int (laid j)) A s s.heap := hZ
  have hl : lv_has ls 5 [(0, .ref h), (1, .int x1)] := hl
  generalize hF : f_ThumbCore_popAndGo q_memory_size c_memory_words c_next c_registers c_flags_negative c_flags_zero c_flags_carry c_flags_overflow c_exceptions_active c_exceptions_current x1 = FF at RET
  have hq : FF = f_ThumbCore_popAndGo q_memory_size c_memory_words c_next c_registers c_flags_negative c_flags_zero c_flags_carry c_flags_overflow c_exceptions_active c_exceptions_current x1 := hF.symm
  revert hP hD hS
  suffices G : ∀ (H : Heap) (locs : List Loc), va_P D tcl (wd_ThumbCore cI cB cZ h h_memory h_memory_words h_registers h_flags h_exceptions h_exceptions_priorities h_counter q_memory_size n_memory_words c_asleep c_locked c_next c_memory_words c_registers c_flags_negative c_flags_zero c_flags_carry c_flags_overflow c_exceptions_pending c_exceptions_active c_exceptions_current c_exceptions_masked c_exceptions_priorities c_counter_number c_counter_reload c_counter_on) H → va_D A (wd_ThumbCore cI cB cZ h h_memory h_memory_words h_registers h_flags h_exceptions h_exceptions_priorities h_counter q_memory_size n_memory_words c_asleep c_locked c_next c_memory_words c_registers c_flags_negative c_flags_zero c_flags_carry c_flags_overflow c_exceptions_pending c_exceptions_active c_exceptions_current c_exceptions_masked c_exceptions_priorities c_counter_number c_counter_reload c_counter_on) → va_S A s.heap H locs → W p l e rm_ThumbCore_popAndGo s m ([.ref h, .int x1] : List Value).toArray below meth c H locs 0 0 Q (F0 m 0 ls []) from fun hP hD hS => G _ _ hP hD hS
  intro H locs hP hD hS
  refine lv_aload_n hx hb d_ThumbCore_popAndGo_0 rfl (lv_at hl 0 rfl) ?_
  refine va_get (D := D) (ci := 4) (v := .ref h_registers) (C := R_ThumbCore) (T := F_ThumbCore) (N := 8) hx hb hts u_ThumbCore hown hK hP 0 rfl rfl 1 (by decide) (hts _ wf_ThumbCore_27) (fun _ h9 => h9) rfl d_ThumbCore_popAndGo_1 ?_
  refine lv_bipush (v := 13) hx hb d_ThumbCore_popAndGo_4 (by decide) ?_
  refine va_iald hx hb hK hP 3 0 rfl rfl (by show ¬ (_ ∨ _); decide) d_ThumbCore_popAndGo_6 ?_
  refine lv_topi (fun v1 e_v1 => ?_)
  have hq := tc_nm hq e_v1
  refine lv_istore_n (lv' := [(2, .int v1), (0, .ref h), (1, .int x1)]) hx hb d_ThumbCore_popAndGo_7 rfl hl (by decide) rfl (fun ls hl => ?_)
  refine lv_iload_n hx hb d_ThumbCore_popAndGo_8 rfl (lv_at hl 2 rfl) ?_
  refine lv_iload_n hx hb d_ThumbCore_popAndGo_9 rfl (lv_at hl 0 rfl) ?_
  refine tc_rd (va_runS (As := [.int x1, .int v1]) (rest := []) ⟨hx, hb, hml, hown, hts⟩ (c_ThumbCore_behind l x1 v1) (va_cwS 2 hts (tc_gS wl_ThumbCore_292 wt_ThumbCore_behind wi_ThumbCore wc_ThumbCore_behind) rfl rfl rfl (by decide +kernel) ⟨Nat.le_of_ble_eq_true rfl, Nat.le_of_ble_eq_true rfl⟩) tc_preS rfl rfl hl.1 rfl (lv_room (Nat.le_of_ble_eq_true rfl)) d_ThumbCore_popAndGo_10 (by decide)) ?_
  refine lv_topi (fun v2 e_v2 => ?_)
  have hq := tc_nm hq e_v2
  refine lv_istore_n (lv' := [(3, .int v2), (2, .int v1), (0, .ref h), (1, .int x1)]) hx hb d_ThumbCore_popAndGo_13 rfl hl (by decide) rfl (fun ls hl => ?_)
  refine lv_aload_n hx hb d_ThumbCore_popAndGo_14 rfl (lv_at hl 2 rfl) ?_
  refine va_get (D := D) (ci := 4) (v := .ref h_memory) (C := R_ThumbCore) (T := F_ThumbCore) (N := 8) hx hb hts u_ThumbCore hown hK hP 0 rfl rfl 0 (by decide) (hts _ wf_ThumbCore_21) (fun _ h9 => h9) rfl d_ThumbCore_popAndGo_15 ?_
  refine lv_iload_n hx hb d_ThumbCore_popAndGo_18 rfl (lv_at hl 1 rfl) ?_
  refine lv_iload_n hx hb d_ThumbCore_popAndGo_19 rfl (lv_at hl 3 rfl) ?_
  refine tc_rd (va_runS (As := [.int x1]) (rest := [.int v1, .ref h_memory]) ⟨hx, hb, hml, hown, hts⟩ (c_Integer_bitCount l x1) (va_cwS 1 hts (tc_gS wl_ThumbCore_134 wt_Integer_bitCount wi_Integer wc_Integer_bitCount) rfl rfl rfl (by decide +kernel) ⟨Nat.le_of_ble_eq_true rfl, Nat.le_of_ble_eq_true rfl⟩) tc_preS rfl rfl hl.1 rfl (lv_room (Nat.le_of_ble_eq_true rfl)) d_ThumbCore_popAndGo_20 (by decide)) ?_
  refine lv_topi (fun v3 e_v3 => ?_)
  have hq := tc_nm hq e_v3
  refine lv_iconst (v := 1) hx hb d_ThumbCore_popAndGo_23 (by decide) ?_
  refine lv_iadd hx hb d_ThumbCore_popAndGo_24 ?_
  refine tc_rd (va_runV (As := [.int v1, .int (v3 + 1)]) (rest := []) ⟨hx, hb, hml, hown, hts⟩ (c_Memory_areThere l D cI cB cZ h_memory h_memory_words H.size q_memory_size n_memory_words c_memory_words v1 (v3 + 1)) (cwV 2 hts (tc_gV wl_ThumbCore_295 wm_Memory_areThere ws_Memory_areThere wi_Memory wc_Memory_areThere) rfl rfl rfl (by decide +kernel) ⟨Nat.le_of_ble_eq_true rfl, Nat.le_of_ble_eq_true rfl⟩) (tc_preV hK hN hP hD [1, 2] rfl (by decide) (q0 := 1) rfl rfl) rfl rfl hl.1 rfl (lv_room (Nat.le_of_ble_eq_true rfl)) d_ThumbCore_popAndGo_25 (by decide)) ?_
  refine tc_topb (fun v4 e_v4 => ?_)
  have hq := tc_nm hq e_v4
  refine lv_if_ne (tgt := 33) hx hb d_ThumbCore_popAndGo_28 (by decide) (fun g_28 => ?_) (fun g_28 => ?_)
  · have hq := hq.trans (if_pos g_28)
    refine lv_aload_n hx hb d_ThumbCore_popAndGo_33 rfl (lv_at hl 2 rfl) ?_
    refine va_get (D := D) (ci := 4) (v := .ref h_memory) (C := R_ThumbCore) (T := F_ThumbCore) (N := 8) hx hb hts u_ThumbCore hown hK hP 0 rfl rfl 0 (by decide) (hts _ wf_ThumbCore_21) (fun _ h9 => h9) rfl d_ThumbCore_popAndGo_34 ?_
    refine lv_iload_n hx hb d_ThumbCore_popAndGo_37 rfl (lv_at hl 0 rfl) ?_
    refine tc_rd (va_runV (As := [.int v2]) (rest := []) ⟨hx, hb, hml, hown, hts⟩ (c_Memory_word l D cI cB cZ h_memory h_memory_words H.size q_memory_size n_memory_words c_memory_words v2 hm (tc_behT hm e_v3 e_v2 (tc_bT e_v4 g_28))) (cwV 1 hts (tc_gV wl_ThumbCore_66 wm_Memory_word ws_Memory_word wi_Memory wc_Memory_word) rfl rfl rfl (by decide +kernel) ⟨Nat.le_of_ble_eq_true rfl, Nat.le_of_ble_eq_true rfl⟩) (tc_preV hK hN hP hD [1, 2] rfl (by decide) (q0 := 1) rfl rfl) rfl rfl hl.1 rfl (lv_room (Nat.le_of_ble_eq_true rfl)) d_ThumbCore_popAndGo_38 (by decide)) ?_
    refine lv_topi (fun v5 e_v5 => ?_)
    have hq := tc_nm hq e_v5
    refine lv_istore (lv' := [(4, .int v5), (3, .int v2), (2, .int v1), (0, .ref h), (1, .int x1)]) hx hb d_ThumbCore_popAndGo_41 hl (by decide) rfl (fun ls hl => ?_)
    refine lv_aload_n hx hb d_ThumbCore_popAndGo_43 rfl (lv_at hl 3 rfl) ?_
    refine lv_iload hx hb d_ThumbCore_popAndGo_44 (lv_at hl 0 rfl) ?_
    refine lv_iload_n hx hb d_ThumbCore_popAndGo_46 rfl (lv_at hl 1 rfl) ?_
    refine lv_iconst (v := 4) hx hb d_ThumbCore_popAndGo_47 (by decide) ?_
    refine lv_iadd hx hb d_ThumbCore_popAndGo_48 ?_
    refine tc_rd (va_runV (As := [.int v5, .int (v2 + 4)]) (rest := []) ⟨hx, hb, hml, hown, hts⟩ (c_ThumbCore_mayGoTo l D cI cB cZ h h_memory h_memory_words h_registers h_flags h_exceptions h_exceptions_priorities h_counter H.size q_memory_size n_memory_words c_asleep c_locked c_next c_memory_words c_registers c_flags_negative c_flags_zero c_flags_carry c_flags_overflow c_exceptions_pending c_exceptions_active c_exceptions_current c_exceptions_masked c_exceptions_priorities c_counter_number c_counter_reload c_counter_on v5 (v2 + 4) hm) (cwV 2 hts (tc_gV wl_ThumbCore_235 wm_ThumbCore_mayGoTo ws_ThumbCore_mayGoTo wi_ThumbCore wc_ThumbCore_mayGoTo) rfl rfl rfl (by decide +kernel) ⟨Nat.le_of_ble_eq_true rfl, Nat.le_of_ble_eq_true rfl⟩) (tc_preV hK hN hP hD [0, 1, 2, 3, 4, 5, 6, 7] rfl (by decide) (q0 := 0) rfl rfl) rfl rfl hl.1 rfl (lv_room (Nat.le_of_ble_eq_true rfl)) d_ThumbCore_popAndGo_49 (by decide)) ?_
    refine tc_topb (fun v6 e_v6 => ?_)
    have hq := tc_nm hq e_v6
    refine lv_if_ne (tgt := 57) hx hb d_ThumbCore_popAndGo_52 (by decide) (fun g_52 => ?_) (fun g_52 => ?_)
    · have hq := hq.trans (if_pos g_52)
      refine lv_aload_n hx hb d_ThumbCore_popAndGo_57 rfl (lv_at hl 3 rfl) ?_
      refine lv_iload_n hx hb d_ThumbCore_popAndGo_58 rfl (lv_at hl 4 rfl) ?_
      refine lv_iload_n hx hb d_ThumbCore_popAndGo_59 rfl (lv_at hl 2 rfl) ?_
      refine tc_mv (wo := fun u => (wd_ThumbCore cI cB cZ h h_memory h_memory_words h_registers h_flags h_exceptions h_exceptions_priorities h_counter q_memory_size n_memory_words c_asleep c_locked c_next c_memory_words u c_flags_negative c_flags_zero c_flags_carry c_flags_overflow c_exceptions_pending c_exceptions_active c_exceptions_current c_exceptions_masked c_exceptions_priorities c_counter_number c_counter_reload c_counter_on)) (va_runV (As := [.int x1, .int v1]) (rest := []) ⟨hx, hb, hml, hown, hts⟩ (c_ThumbCore_readList l D cI cB cZ h h_memory h_memory_words h_registers h_flags h_exceptions h_exceptions_priorities h_counter H.size q_memory_size n_memory_words c_asleep c_locked c_next c_memory_words c_registers c_flags_negative c_flags_zero c_flags_carry c_flags_overflow c_exceptions_pending c_exceptions_active c_exceptions_current c_exceptions_masked c_exceptions_priorities c_counter_number c_counter_reload c_counter_on x1 v1 hm (tc_lT1 hm hc e_v3 (tc_bT e_v4 g_28))) (cwV 2 hts (tc_gV wl_ThumbCore_289 wm_ThumbCore_readList ws_ThumbCore_readList wi_ThumbCore wc_ThumbCore_readList) rfl rfl rfl (by decide +kernel) ⟨Nat.le_of_ble_eq_true rfl, Nat.le_of_ble_eq_true rfl⟩) (tc_preV hK hN hP hD [0, 1, 2, 3, 4, 5, 6, 7] rfl (by decide) (q0 := 0) rfl rfl) rfl rfl hl.1 rfl (lv_room (Nat.le_of_ble_eq_true rfl)) d_ThumbCore_popAndGo_60 (by decide)) hP hD hS hA [0, 1, 2, 3, 4, 5, 6, 7] [] [0, 1, 2, 3, 4, 5, 6, 7] rfl rfl (by decide) (by decide) (by decide) (fun _ => rfl) (fun s7 H locs e_s7 hP hD hS => ?_)
      have hq := tc_nm hq e_s7
      have hP : va_P D tcl (wd_ThumbCore cI cB cZ h h_memory h_memory_words h_registers h_flags h_exceptions h_exceptions_priorities h_counter q_memory_size n_memory_words c_asleep c_locked c_next c_memory_words s7 c_flags_negative c_flags_zero c_flags_carry c_flags_overflow c_exceptions_pending c_exceptions_active c_exceptions_current c_exceptions_masked c_exceptions_priorities c_counter_number c_counter_reload c_counter_on) H := hP
      have hD : va_D A (wd_ThumbCore cI cB cZ h h_memory h_memory_words h_registers h_flags h_exceptions h_exceptions_priorities h_counter q_memory_size n_memory_words c_asleep c_locked c_next c_memory_words s7 c_flags_negative c_flags_zero c_flags_carry c_flags_overflow c_exceptions_pending c_exceptions_active c_exceptions_current c_exceptions_masked c_exceptions_priorities c_counter_number c_counter_reload c_counter_on) := hD
      refine lv_aload_n hx hb d_ThumbCore_popAndGo_63 rfl (lv_at hl 3 rfl) ?_
      refine va_get (D := D) (ci := 4) (v := .ref h_registers) (C := R_ThumbCore) (T := F_ThumbCore) (N := 8) hx hb hts u_ThumbCore hown hK hP 0 rfl rfl 1 (by decide) (hts _ wf_ThumbCore_27) (fun _ h9 => h9) rfl d_ThumbCore_popAndGo_64 ?_
      refine lv_bipush (v := 13) hx hb d_ThumbCore_popAndGo_67 (by decide) ?_
      refine lv_iload_n hx hb d_ThumbCore_popAndGo_69 rfl (lv_at hl 1 rfl) ?_
      refine lv_iconst (v := 4) hx hb d_ThumbCore_popAndGo_70 (by decide) ?_
      refine lv_iadd hx hb d_ThumbCore_popAndGo_71 ?_
      refine va_iast hx hb hK hP hD hS 3 0 rfl rfl (by show ¬ (_ ∨ _); decide) d_ThumbCore_popAndGo_72 (fun H locs hP hD hS => ?_)
      have hP : va_P D tcl (wd_ThumbCore cI cB cZ h h_memory h_memory_words h_registers h_flags h_exceptions h_exceptions_priorities h_counter q_memory_size n_memory_words c_asleep c_locked c_next c_memory_words (upd s7 (13 : Int32).toNatClampNeg (v2 + 4)) c_flags_negative c_flags_zero c_flags_carry c_flags_overflow c_exceptions_pending c_exceptions_active c_exceptions_current c_exceptions_masked c_exceptions_priorities c_counter_number c_counter_reload c_counter_on) H := hP
      have hD : va_D A (wd_ThumbCore cI cB cZ h h_memory h_memory_words h_registers h_flags h_exceptions h_exceptions_priorities h_counter q_memory_size n_memory_words c_asleep c_locked c_next c_memory_words (upd s7 (13 : Int32).toNatClampNeg (v2 + 4)) c_flags_negative c_flags_zero c_flags_carry c_flags_overflow c_exceptions_pending c_exceptions_active c_exceptions_current c_exceptions_masked c_exceptions_priorities c_counter_number c_counter_reload c_counter_on) := hD
      refine lv_aload_n hx hb d_ThumbCore_popAndGo_73 rfl (lv_at hl 3 rfl) ?_
      refine lv_iload hx hb d_ThumbCore_popAndGo_74 (lv_at hl 0 rfl) ?_
      refine tc_mv (wo := fun u => (wd_ThumbCore cI cB cZ h h_memory h_memory_words h_registers h_flags h_exceptions h_exceptions_priorities h_counter q_memory_size n_memory_words c_asleep c_locked u.1 c_memory_words u.2.1 u.2.2.1 u.2.2.2.1 u.2.2.2.2.1 u.2.2.2.2.2.1 c_exceptions_pending u.2.2.2.2.2.2.1 u.2.2.2.2.2.2.2 c_exceptions_masked c_exceptions_priorities c_counter_number c_counter_reload c_counter_on)) (va_runV (As := [.int v5]) (rest := []) ⟨hx, hb, hml, hown, hts⟩ (c_ThumbCore_goTo l D cI cB cZ h h_memory h_memory_words h_registers h_flags h_exceptions h_exceptions_priorities h_counter tL H.size q_memory_size n_memory_words c_asleep c_locked c_next c_memory_words (upd s7 (13 : Int32).toNatClampNeg (v2 + 4)) c_flags_negative c_flags_zero c_flags_carry c_flags_overflow c_exceptions_pending c_exceptions_active c_exceptions_current c_exceptions_masked c_exceptions_priorities c_counter_number c_counter_reload c_counter_on v5 hm (fun hr => by rw [tc_updS]; exact tc_mayT hm (tc_bT e_v6 g_52) hr)) (cwV 1 hts (tc_gV wl_ThumbCore_241 wm_ThumbCore_goTo ws_ThumbCore_goTo wi_ThumbCore wc_ThumbCore_goTo) rfl rfl rfl (by decide +kernel) ⟨Nat.le_of_ble_eq_true rfl, Nat.le_of_ble_eq_true rfl⟩) (tc_preVZ hK hN hP hD hS hA hZ [0, 1, 2, 3, 4, 5, 6, 7] rfl (by decide) (q0 := 0) rfl rfl) rfl rfl hl.1 rfl (lv_room (Nat.le_of_ble_eq_true rfl)) d_ThumbCore_popAndGo_76 (by decide)) hP hD hS hA [0, 1, 2, 3, 4, 5, 6, 7] [] [0, 1, 2, 3, 4, 5, 6, 7] rfl rfl (by decide) (by decide) (by decide) (fun _ => rfl) (fun u H locs hu hP hD hS => ?_)
      obtain ⟨s8, s9, s10, s11, s12, s13, s14, s15⟩ := u
      have hq := hq.trans (un8_eq hu _)
      have e_s8 := hu
      have hP : va_P D tcl (wd_ThumbCore cI cB cZ h h_memory h_memory_words h_registers h_flags h_exceptions h_exceptions_priorities h_counter q_memory_size n_memory_words c_asleep c_locked s8 c_memory_words s9 s10 s11 s12 s13 c_exceptions_pending s14 s15 c_exceptions_masked c_exceptions_priorities c_counter_number c_counter_reload c_counter_on) H := hP
      have hD : va_D A (wd_ThumbCore cI cB cZ h h_memory h_memory_words h_registers h_flags h_exceptions h_exceptions_priorities h_counter q_memory_size n_memory_words c_asleep c_locked s8 c_memory_words s9 s10 s11 s12 s13 c_exceptions_pending s14 s15 c_exceptions_masked c_exceptions_priorities c_counter_number c_counter_reload c_counter_on) := hD
      refine lv_iconst (v := 1) hx hb d_ThumbCore_popAndGo_79 (by decide) ?_
      exact RET H locs ls 80 (true, s8, s9, s10, s11, s12, s13, s14, s15) d_ThumbCore_popAndGo_80 hP hD hS hq
    · have hq := hq.trans (if_neg (fun g => g g_52))
      refine lv_iconst (v := 0) hx hb d_ThumbCore_popAndGo_55 (by decide) ?_
      exact RET H locs ls 56 (false, c_next, c_registers, c_flags_negative, c_flags_zero, c_flags_carry, c_flags_overflow, c_exceptions_active, c_exceptions_current) d_ThumbCore_popAndGo_56 hP hD hS hq
  · have hq := hq.trans (if_neg (fun g => g g_28))
    refine lv_iconst (v := 0) hx hb d_ThumbCore_popAndGo_31 (by decide) ?_
    exact RET H locs ls 32 (false, c_next, c_registers, c_flags_negative, c_flags_zero, c_flags_carry, c_flags_overflow, c_exceptions_active, c_exceptions_current) d_ThumbCore_popAndGo_32 hP hD hS hq
abbrev rm_ThumbCore_hint : Room := { frames := 1, cells := 0, slots := 0, locals := 24 }
set_option maxHeartbeats 4000000 in
set_option maxRecDepth 100000 in
theorem c_ThumbCore_hint (l : Launch) (D : va_G) (cI cB cZ : ClassId) (h h_memory h_memory_words h_registers h_flags h_exceptions h_exceptions_priorities h_counter sz : Nat) (q_memory_size : Int32) (n_memory_words : Nat) (c_asleep : Bool) (c_locked : Bool) (c_next : Int32) (c_memory_words : Nat → Int32) (c_registers : Nat → Int32) (c_flags_negative : Bool) (c_flags_zero : Bool) (c_flags_carry : Bool) (c_flags_overflow : Bool) (c_exceptions_pending : Int32) (c_exceptions_active : Int32) (c_exceptions_current : Int32) (c_exceptions_masked : Bool) (c_exceptions_priorities : Nat → Int32) (c_counter_number : Int32) (c_counter_reload : Int32) (c_counter_on : Bool) (x1 : Int32) : Met l y_ThumbCore_hint (.code y_ThumbCore_hint b_ThumbCore_hint 2 (some .boolean) :: tcb) rm_ThumbCore_hint (tc_Pw D tcl (tys cI cB cZ) (wd_ThumbCore cI cB cZ h h_memory h_memory_words h_registers h_flags h_exceptions h_exceptions_priorities h_counter q_memory_size n_memory_words c_asleep c_locked c_next c_memory_words c_registers c_flags_negative c_flags_zero c_flags_carry c_flags_overflow c_exceptions_pending c_exceptions_active c_exceptions_current c_exceptions_masked c_exceptions_priorities c_counter_number c_counter_reload c_counter_on) sz ([.ref h, .int x1] : List Value) none) (tc_Qz D tcl (wd_ThumbCore cI cB cZ h h_memory h_memory_words h_registers h_flags h_exceptions h_exceptions_priorities h_counter q_memory_size n_memory_words c_asleep c_locked c_next c_memory_words c_registers c_flags_negative c_flags_zero c_flags_carry c_flags_overflow c_exceptions_pending c_exceptions_active c_exceptions_current c_exceptions_masked c_exceptions_priorities c_counter_number c_counter_reload c_counter_on) sz (fun u => (wd_ThumbCore cI cB cZ h h_memory h_memory_words h_registers h_flags h_exceptions h_exceptions_priorities h_counter q_memory_size n_memory_words u.2 c_locked c_next c_memory_words c_registers c_flags_negative c_flags_zero c_flags_carry c_flags_overflow c_exceptions_pending c_exceptions_active c_exceptions_current c_exceptions_masked c_exceptions_priorities c_counter_number c_counter_reload c_counter_on)) (f_ThumbCore_hint c_asleep x1)) 0 0 (va_A (wd_ThumbCore cI cB cZ h h_memory h_memory_words h_registers h_flags h_exceptions h_exceptions_priorities h_counter q_memory_size n_memory_words c_asleep c_locked c_next c_memory_words c_registers c_flags_negative c_flags_zero c_flags_carry c_flags_overflow c_exceptions_pending c_exceptions_active c_exceptions_current c_exceptions_masked c_exceptions_priorities c_counter_number c_counter_reload c_counter_on) sz) := by
  refine tc_mu_z (by decide) (Nat.le_of_ble_eq_true rfl) ?_
  intro p e s m below meth c A Q ls hx hb hml hts hown hK hN hP hD hA hZ hl RET
  have hS : va_S A s.heap s.heap [] := va_S.rf
  have hl : lv_has ls 2 [(0, .ref h), (1, .int x1)] := hl
  generalize hF : f_ThumbCore_hint c_asleep x1 = FF at RET
  have J_22 : ∀ (H : Heap) (locs : List Loc) (ls : Array Slot) (c_asleep : Bool) (z1 : Bool), va_P D tcl (wd_ThumbCore cI cB cZ h h_memory h_memory_words h_registers h_flags h_exceptions h_exceptions_priorities h_counter q_memory_size n_memory_words c_asleep c_locked c_next c_memory_words c_registers c_flags_negative c_flags_zero c_flags_carry c_flags_overflow c_exceptions_pending c_exceptions_active c_exceptions_current c_exceptions_masked c_exceptions_priorities c_counter_number c_counter_reload c_counter_on) H → va_D A (wd_ThumbCore cI cB cZ h h_memory h_memory_words h_registers h_flags h_exceptions h_exceptions_priorities h_counter q_memory_size n_memory_words c_asleep c_locked c_next c_memory_words c_registers c_flags_negative c_flags_zero c_flags_carry c_flags_overflow c_exceptions_pending c_exceptions_active c_exceptions_current c_exceptions_masked c_exceptions_priorities c_counter_number c_counter_reload c_counter_on) → va_S A s.heap H locs → lv_has ls 2 [] → FF = k_ThumbCore_hint_22 c_asleep z1 → W p l e rm_ThumbCore_hint s m ([.ref h, .int x1] : List Value).toArray below meth c H locs 0 0 Q (F0 m 22 ls [.int (bI z1), .ref h]) := by
    intro H locs ls c_asleep z1 hP hD hS hl hq
    refine va_put (D := D) (ci := 4) (v := .int (bI z1)) (ty := .boolean) (C := R_ThumbCore) (T := F_ThumbCore) (N := 8) hx hb hts u_ThumbCore t_ThumbCore t_ThumbCore_ok n_ThumbCore hown hK hP hD hS 0 rfl rfl 5 (by decide) (hts _ wf_ThumbCore_80) (fun _ h9 => h9) rfl (by decide +kernel) (tc_nb z1) (tc_fb z1) (Nat.le_of_ble_eq_true rfl) d_ThumbCore_hint_22 (fun H locs hP hD hS => ?_)
    have hP : va_P D tcl (wd_ThumbCore cI cB cZ h h_memory h_memory_words h_registers h_flags h_exceptions h_exceptions_priorities h_counter q_memory_size n_memory_words z1 c_locked c_next c_memory_words c_registers c_flags_negative c_flags_zero c_flags_carry c_flags_overflow c_exceptions_pending c_exceptions_active c_exceptions_current c_exceptions_masked c_exceptions_priorities c_counter_number c_counter_reload c_counter_on) H := hP
    have hD : va_D A (wd_ThumbCore cI cB cZ h h_memory h_memory_words h_registers h_flags h_exceptions h_exceptions_priorities h_counter q_memory_size n_memory_words z1 c_locked c_next c_memory_words c_registers c_flags_negative c_flags_zero c_flags_carry c_flags_overflow c_exceptions_pending c_exceptions_active c_exceptions_current c_exceptions_masked c_exceptions_priorities c_counter_number c_counter_reload c_counter_on) := hD
    refine lv_iconst (v := 1) hx hb d_ThumbCore_hint_25 (by decide) ?_
    exact RET H locs ls 26 (true, z1) d_ThumbCore_hint_26 hP hD hS hq
  have hq : FF = f_ThumbCore_hint c_asleep x1 := hF.symm
  revert hP hD hS
  suffices G : ∀ (H : Heap) (locs : List Loc), va_P D tcl (wd_ThumbCore cI cB cZ h h_memory h_memory_words h_registers h_flags h_exceptions h_exceptions_priorities h_counter q_memory_size n_memory_words c_asleep c_locked c_next c_memory_words c_registers c_flags_negative c_flags_zero c_flags_carry c_flags_overflow c_exceptions_pending c_exceptions_active c_exceptions_current c_exceptions_masked c_exceptions_priorities c_counter_number c_counter_reload c_counter_on) H → va_D A (wd_ThumbCore cI cB cZ h h_memory h_memory_words h_registers h_flags h_exceptions h_exceptions_priorities h_counter q_memory_size n_memory_words c_asleep c_locked c_next c_memory_words c_registers c_flags_negative c_flags_zero c_flags_carry c_flags_overflow c_exceptions_pending c_exceptions_active c_exceptions_current c_exceptions_masked c_exceptions_priorities c_counter_number c_counter_reload c_counter_on) → va_S A s.heap H locs → W p l e rm_ThumbCore_hint s m ([.ref h, .int x1] : List Value).toArray below meth c H locs 0 0 Q (F0 m 0 ls []) from fun hP hD hS => G _ _ hP hD hS
  intro H locs hP hD hS
  refine lv_iload_n hx hb d_ThumbCore_hint_0 rfl (lv_at hl 1 rfl) ?_
  refine lv_bipush (v := 15) hx hb d_ThumbCore_hint_1 (by decide) ?_
  refine lv_iand hx hb d_ThumbCore_hint_3 ?_
  refine lv_if_eq (tgt := 9) hx hb d_ThumbCore_hint_4 (by decide) (fun g_4 => ?_) (fun g_4 => ?_)
  · have hq := hq.trans (if_pos g_4)
    refine lv_aload_n hx hb d_ThumbCore_hint_9 rfl (lv_at hl 0 rfl) ?_
    refine lv_iload_n hx hb d_ThumbCore_hint_10 rfl (lv_at hl 1 rfl) ?_
    refine lv_ldcw (v := 48944) hx hb hown (hts _ wk_ThumbCore_282) d_ThumbCore_hint_11 ?_
    refine lv_icmp_ne (tgt := 21) hx hb d_ThumbCore_hint_14 (by decide) (fun g_14 => ?_) (fun g_14 => ?_)
    · have hq := hq.trans (if_pos g_14)
      refine lv_iconst (v := 0) hx hb d_ThumbCore_hint_21 (by decide) ?_
      exact J_22 H locs ls c_asleep false hP hD hS (lv_sub hl [] rfl) hq
    · have hq := hq.trans (if_neg (fun g => g g_14))
      refine lv_iconst (v := 1) hx hb d_ThumbCore_hint_17 (by decide) ?_
      refine lv_goto (tgt := 22) hx hb d_ThumbCore_hint_18 (by decide) ?_
      exact J_22 H locs ls c_asleep true hP hD hS (lv_sub hl [] rfl) hq
  · have hq := hq.trans (if_neg g_4)
    refine lv_iconst (v := 0) hx hb d_ThumbCore_hint_7 (by decide) ?_
    exact RET H locs ls 8 (false, c_asleep) d_ThumbCore_hint_8 hP hD hS hq
abbrev rm_ThumbCore_miscellaneous : Room := { frames := 5, cells := 0, slots := 0, locals := 113 }
set_option maxHeartbeats 4000000 in
set_option maxRecDepth 100000 in
theorem c_ThumbCore_miscellaneous (l : Launch) (D : va_G) (cI cB cZ : ClassId) (h h_memory h_memory_words h_registers h_flags h_exceptions h_exceptions_priorities h_counter tL sz : Nat) (q_memory_size : Int32) (n_memory_words : Nat) (c_asleep : Bool) (c_locked : Bool) (c_next : Int32) (c_memory_words : Nat → Int32) (c_registers : Nat → Int32) (c_flags_negative : Bool) (c_flags_zero : Bool) (c_flags_carry : Bool) (c_flags_overflow : Bool) (c_exceptions_pending : Int32) (c_exceptions_active : Int32) (c_exceptions_current : Int32) (c_exceptions_masked : Bool) (c_exceptions_priorities : Nat → Int32) (c_counter_number : Int32) (c_counter_reload : Int32) (c_counter_on : Bool) (x1 : Int32) (hm : tc_mem q_memory_size n_memory_words) : Met l y_ThumbCore_miscellaneous (.code y_ThumbCore_miscellaneous b_ThumbCore_miscellaneous 2 (some .boolean) :: tcb) rm_ThumbCore_miscellaneous (tc_Pw D tcl (tys cI cB cZ) (wd_ThumbCore cI cB cZ h h_memory h_memory_words h_registers h_flags h_exceptions h_exceptions_priorities h_counter q_memory_size n_memory_words c_asleep c_locked c_next c_memory_words c_registers c_flags_negative c_flags_zero c_flags_carry c_flags_overflow c_exceptions_pending c_exceptions_active c_exceptions_current c_exceptions_masked c_exceptions_priorities c_counter_number c_counter_reload c_counter_on) sz ([.ref h, .int x1] : List Value) (some tL)) (tc_Qz D tcl (wd_ThumbCore cI cB cZ h h_memory h_memory_words h_registers h_flags h_exceptions h_exceptions_priorities h_counter q_memory_size n_memory_words c_asleep c_locked c_next c_memory_words c_registers c_flags_negative c_flags_zero c_flags_carry c_flags_overflow c_exceptions_pending c_exceptions_active c_exceptions_current c_exceptions_masked c_exceptions_priorities c_counter_number c_counter_reload c_counter_on) sz (fun u => (wd_ThumbCore cI cB cZ h h_memory h_memory_words h_registers h_flags h_exceptions h_exceptions_priorities h_counter q_memory_size n_memory_words u.2.1 c_locked u.2.2.1 u.2.2.2.1 u.2.2.2.2.1 u.2.2.2.2.2.1 u.2.2.2.2.2.2.1 u.2.2.2.2.2.2.2.1 u.2.2.2.2.2.2.2.2.1 c_exceptions_pending u.2.2.2.2.2.2.2.2.2.1 u.2.2.2.2.2.2.2.2.2.2.1 u.2.2.2.2.2.2.2.2.2.2.2 c_exceptions_priorities c_counter_number c_counter_reload c_counter_on)) (f_ThumbCore_miscellaneous q_memory_size c_asleep c_next c_memory_words c_registers c_flags_negative c_flags_zero c_flags_carry c_flags_overflow c_exceptions_active c_exceptions_current c_exceptions_masked x1)) 0 0 (va_A (wd_ThumbCore cI cB cZ h h_memory h_memory_words h_registers h_flags h_exceptions h_exceptions_priorities h_counter q_memory_size n_memory_words c_asleep c_locked c_next c_memory_words c_registers c_flags_negative c_flags_zero c_flags_carry c_flags_overflow c_exceptions_pending c_exceptions_active c_exceptions_current c_exceptions_masked c_exceptions_priorities c_counter_number c_counter_reload c_counter_on) sz) := by
  refine tc_mu_z (by decide) (Nat.le_of_ble_eq_true rfl) ?_
  intro p e s m below meth c A Q ls hx hb hml hts hown hK hN hP hD hA hZ hl RET
  have hS : va_S A s.heap s.heap [] := va_S.rf
  have hZ : va_Z "ThumbCore" "LAID" "[I" (.ref tL) A s s.heap ∧ va_T .int tL 6 (fun j => .int (laid j)) A s s.heap := hZ
  have hl : lv_has ls 2 [(0, .ref h), (1, .int x1)] := hl
  generalize hF : f_ThumbCore_miscellaneous q_memory_size c_asleep c_next c_memory_words c_registers c_flags_negative c_flags_zero c_flags_carry c_flags_overflow c_exceptions_active c_exceptions_current c_exceptions_masked x1 = FF at RET
  have hq : FF = f_ThumbCore_miscellaneous q_memory_size c_asleep c_next c_memory_words c_registers c_flags_negative c_flags_zero c_flags_carry c_flags_overflow c_exceptions_active c_exceptions_current c_exceptions_masked x1 := hF.symm
  revert hP hD hS
  suffices G : ∀ (H : Heap) (locs : List Loc), va_P D tcl (wd_ThumbCore cI cB cZ h h_memory h_memory_words h_registers h_flags h_exceptions h_exceptions_priorities h_counter q_memory_size n_memory_words c_asleep c_locked c_next c_memory_words c_registers c_flags_negative c_flags_zero c_flags_carry c_flags_overflow c_exceptions_pending c_exceptions_active c_exceptions_current c_exceptions_masked c_exceptions_priorities c_counter_number c_counter_reload c_counter_on) H → va_D A (wd_ThumbCore cI cB cZ h h_memory h_memory_words h_registers h_flags h_exceptions h_exceptions_priorities h_counter q_memory_size n_memory_words c_asleep c_locked c_next c_memory_words c_registers c_flags_negative c_flags_zero c_flags_carry c_flags_overflow c_exceptions_pending c_exceptions_active c_exceptions_current c_exceptions_masked c_exceptions_priorities c_counter_number c_counter_reload c_counter_on) → va_S A s.heap H locs → W p l e rm_ThumbCore_miscellaneous s m ([.ref h, .int x1] : List Value).toArray below meth c H locs 0 0 Q (F0 m 0 ls []) from fun hP hD hS => G _ _ hP hD hS
  intro H locs hP hD hS
  refine lv_iload_n hx hb d_ThumbCore_miscellaneous_0 rfl (lv_at hl 1 rfl) ?_
  refine lv_bipush (v := 8) hx hb d_ThumbCore_miscellaneous_1 (by decide) ?_
  refine lv_iushr (v := (o_iushr x1 8)) hx hb d_ThumbCore_miscellaneous_3 rfl ?_
  refine lv_bipush (v := 15) hx hb d_ThumbCore_miscellaneous_4 (by decide) ?_
  refine lv_iand hx hb d_ThumbCore_miscellaneous_6 ?_
  by_cases g_7_0 : ((o_iushr x1 8) &&& 15) = 0
  · have hq := hq.trans (if_pos g_7_0)
    refine tc_tabIn (k := 0) (off := 77) (tgt := 84) hx hb d_ThumbCore_miscellaneous_7 g_7_0 (by decide) (by decide) (by decide +kernel) (by decide) ?_
    refine lv_aload_n hx hb d_ThumbCore_miscellaneous_84 rfl (lv_at hl 0 rfl) ?_
    refine lv_iload_n hx hb d_ThumbCore_miscellaneous_85 rfl (lv_at hl 1 rfl) ?_
    refine tc_mv (wo := fun u => (wd_ThumbCore cI cB cZ h h_memory h_memory_words h_registers h_flags h_exceptions h_exceptions_priorities h_counter q_memory_size n_memory_words c_asleep c_locked c_next c_memory_words u c_flags_negative c_flags_zero c_flags_carry c_flags_overflow c_exceptions_pending c_exceptions_active c_exceptions_current c_exceptions_masked c_exceptions_priorities c_counter_number c_counter_reload c_counter_on)) (va_runV (As := [.int x1]) (rest := []) ⟨hx, hb, hml, hown, hts⟩ (c_ThumbCore_moveStack l D cI cB cZ h h_memory h_memory_words h_registers h_flags h_exceptions h_exceptions_priorities h_counter H.size q_memory_size n_memory_words c_asleep c_locked c_next c_memory_words c_registers c_flags_negative c_flags_zero c_flags_carry c_flags_overflow c_exceptions_pending c_exceptions_active c_exceptions_current c_exceptions_masked c_exceptions_priorities c_counter_number c_counter_reload c_counter_on x1) (cwV 1 hts (tc_gV wl_ThumbCore_254 wm_ThumbCore_moveStack ws_ThumbCore_moveStack wi_ThumbCore wc_ThumbCore_moveStack) rfl rfl rfl (by decide +kernel) ⟨Nat.le_of_ble_eq_true rfl, Nat.le_of_ble_eq_true rfl⟩) (tc_preV hK hN hP hD [0, 1, 2, 3, 4, 5, 6, 7] rfl (by decide) (q0 := 0) rfl rfl) rfl rfl hl.1 rfl (lv_room (Nat.le_of_ble_eq_true rfl)) d_ThumbCore_miscellaneous_86 (by decide)) hP hD hS hA [0, 1, 2, 3, 4, 5, 6, 7] [] [0, 1, 2, 3, 4, 5, 6, 7] rfl rfl (by decide) (by decide) (by decide) (fun _ => rfl) (fun s1 H locs e_s1 hP hD hS => ?_)
    have hq := tc_nm hq e_s1
    have hP : va_P D tcl (wd_ThumbCore cI cB cZ h h_memory h_memory_words h_registers h_flags h_exceptions h_exceptions_priorities h_counter q_memory_size n_memory_words c_asleep c_locked c_next c_memory_words s1 c_flags_negative c_flags_zero c_flags_carry c_flags_overflow c_exceptions_pending c_exceptions_active c_exceptions_current c_exceptions_masked c_exceptions_priorities c_counter_number c_counter_reload c_counter_on) H := hP
    have hD : va_D A (wd_ThumbCore cI cB cZ h h_memory h_memory_words h_registers h_flags h_exceptions h_exceptions_priorities h_counter q_memory_size n_memory_words c_asleep c_locked c_next c_memory_words s1 c_flags_negative c_flags_zero c_flags_carry c_flags_overflow c_exceptions_pending c_exceptions_active c_exceptions_current c_exceptions_masked c_exceptions_priorities c_counter_number c_counter_reload c_counter_on) := hD
    refine lv_iconst (v := 1) hx hb d_ThumbCore_miscellaneous_89 (by decide) ?_
    exact RET H locs ls 90 (true, c_asleep, c_next, c_memory_words, s1, c_flags_negative, c_flags_zero, c_flags_carry, c_flags_overflow, c_exceptions_active, c_exceptions_current, c_exceptions_masked) d_ThumbCore_miscellaneous_90 hP hD hS hq
  have hq := hq.trans (if_neg g_7_0)
  by_cases g_7_2 : ((o_iushr x1 8) &&& 15) = 2
  · have hq := hq.trans (if_pos g_7_2)
    refine tc_tabIn (k := 2) (off := 84) (tgt := 91) hx hb d_ThumbCore_miscellaneous_7 g_7_2 (by decide) (by decide) (by decide +kernel) (by decide) ?_
    refine lv_aload_n hx hb d_ThumbCore_miscellaneous_91 rfl (lv_at hl 0 rfl) ?_
    refine va_get (D := D) (ci := 4) (v := .ref h_registers) (C := R_ThumbCore) (T := F_ThumbCore) (N := 8) hx hb hts u_ThumbCore hown hK hP 0 rfl rfl 1 (by decide) (hts _ wf_ThumbCore_27) (fun _ h9 => h9) rfl d_ThumbCore_miscellaneous_92 ?_
    refine lv_iload_n hx hb d_ThumbCore_miscellaneous_95 rfl (lv_at hl 1 rfl) ?_
    refine lv_bipush (v := 7) hx hb d_ThumbCore_miscellaneous_96 (by decide) ?_
    refine lv_iand hx hb d_ThumbCore_miscellaneous_98 ?_
    refine lv_iload_n hx hb d_ThumbCore_miscellaneous_99 rfl (lv_at hl 1 rfl) ?_
    refine lv_bipush (v := 6) hx hb d_ThumbCore_miscellaneous_100 (by decide) ?_
    refine lv_iushr (v := (o_iushr x1 6)) hx hb d_ThumbCore_miscellaneous_102 rfl ?_
    refine lv_iconst (v := 3) hx hb d_ThumbCore_miscellaneous_103 (by decide) ?_
    refine lv_iand hx hb d_ThumbCore_miscellaneous_104 ?_
    refine lv_aload_n hx hb d_ThumbCore_miscellaneous_105 rfl (lv_at hl 0 rfl) ?_
    refine va_get (D := D) (ci := 4) (v := .ref h_registers) (C := R_ThumbCore) (T := F_ThumbCore) (N := 8) hx hb hts u_ThumbCore hown hK hP 0 rfl rfl 1 (by decide) (hts _ wf_ThumbCore_27) (fun _ h9 => h9) rfl d_ThumbCore_miscellaneous_106 ?_
    refine lv_iload_n hx hb d_ThumbCore_miscellaneous_109 rfl (lv_at hl 1 rfl) ?_
    refine lv_iconst (v := 3) hx hb d_ThumbCore_miscellaneous_110 (by decide) ?_
    refine lv_iushr (v := (o_iushr x1 3)) hx hb d_ThumbCore_miscellaneous_111 rfl ?_
    refine lv_bipush (v := 7) hx hb d_ThumbCore_miscellaneous_112 (by decide) ?_
    refine lv_iand hx hb d_ThumbCore_miscellaneous_114 ?_
    refine va_iald hx hb hK hP 3 0 rfl rfl (tc_in7 _) d_ThumbCore_miscellaneous_115 ?_
    refine tc_rd (va_runS (As := [.int ((o_iushr x1 6) &&& 3), .int (c_registers ((o_iushr x1 3) &&& 7).toNatClampNeg)]) (rest := [.int (x1 &&& 7), .ref h_registers]) ⟨hx, hb, hml, hown, hts⟩ (c_ThumbCore_extended l ((o_iushr x1 6) &&& 3) (c_registers ((o_iushr x1 3) &&& 7).toNatClampNeg)) (va_cwS 2 hts (tc_gS wl_ThumbCore_257 wt_ThumbCore_extended wi_ThumbCore wc_ThumbCore_extended) rfl rfl rfl (by decide +kernel) ⟨Nat.le_of_ble_eq_true rfl, Nat.le_of_ble_eq_true rfl⟩) tc_preS rfl rfl hl.1 rfl (lv_room (Nat.le_of_ble_eq_true rfl)) d_ThumbCore_miscellaneous_116 (by decide)) ?_
    refine lv_topi (fun v2 e_v2 => ?_)
    have hq := tc_nm hq e_v2
    refine va_iast hx hb hK hP hD hS 3 0 rfl rfl (tc_in7 _) d_ThumbCore_miscellaneous_119 (fun H locs hP hD hS => ?_)
    have hP : va_P D tcl (wd_ThumbCore cI cB cZ h h_memory h_memory_words h_registers h_flags h_exceptions h_exceptions_priorities h_counter q_memory_size n_memory_words c_asleep c_locked c_next c_memory_words (upd c_registers (x1 &&& 7).toNatClampNeg v2) c_flags_negative c_flags_zero c_flags_carry c_flags_overflow c_exceptions_pending c_exceptions_active c_exceptions_current c_exceptions_masked c_exceptions_priorities c_counter_number c_counter_reload c_counter_on) H := hP
    have hD : va_D A (wd_ThumbCore cI cB cZ h h_memory h_memory_words h_registers h_flags h_exceptions h_exceptions_priorities h_counter q_memory_size n_memory_words c_asleep c_locked c_next c_memory_words (upd c_registers (x1 &&& 7).toNatClampNeg v2) c_flags_negative c_flags_zero c_flags_carry c_flags_overflow c_exceptions_pending c_exceptions_active c_exceptions_current c_exceptions_masked c_exceptions_priorities c_counter_number c_counter_reload c_counter_on) := hD
    refine lv_iconst (v := 1) hx hb d_ThumbCore_miscellaneous_120 (by decide) ?_
    exact RET H locs ls 121 (true, c_asleep, c_next, c_memory_words, (upd c_registers (x1 &&& 7).toNatClampNeg v2), c_flags_negative, c_flags_zero, c_flags_carry, c_flags_overflow, c_exceptions_active, c_exceptions_current, c_exceptions_masked) d_ThumbCore_miscellaneous_121 hP hD hS hq
  have hq := hq.trans (if_neg g_7_2)
  by_cases g_7_4 : ((o_iushr x1 8) &&& 15) = 4
  · have hq := hq.trans (if_pos g_7_4)
    refine tc_tabIn (k := 4) (off := 115) (tgt := 122) hx hb d_ThumbCore_miscellaneous_7 g_7_4 (by decide) (by decide) (by decide +kernel) (by decide) ?_
    refine lv_aload_n hx hb d_ThumbCore_miscellaneous_122 rfl (lv_at hl 0 rfl) ?_
    refine lv_iload_n hx hb d_ThumbCore_miscellaneous_123 rfl (lv_at hl 1 rfl) ?_
    refine lv_sipush (v := 255) hx hb d_ThumbCore_miscellaneous_124 (by decide) ?_
    refine lv_iand hx hb d_ThumbCore_miscellaneous_127 ?_
    refine tc_mz (wo := fun u => (wd_ThumbCore cI cB cZ h h_memory h_memory_words h_registers h_flags h_exceptions h_exceptions_priorities h_counter q_memory_size n_memory_words c_asleep c_locked c_next u.2.1 u.2.2 c_flags_negative c_flags_zero c_flags_carry c_flags_overflow c_exceptions_pending c_exceptions_active c_exceptions_current c_exceptions_masked c_exceptions_priorities c_counter_number c_counter_reload c_counter_on)) (va_runV (As := [.int (x1 &&& 255)]) (rest := []) ⟨hx, hb, hml, hown, hts⟩ (c_ThumbCore_push l D cI cB cZ h h_memory h_memory_words h_registers h_flags h_exceptions h_exceptions_priorities h_counter H.size q_memory_size n_memory_words c_asleep c_locked c_next c_memory_words c_registers c_flags_negative c_flags_zero c_flags_carry c_flags_overflow c_exceptions_pending c_exceptions_active c_exceptions_current c_exceptions_masked c_exceptions_priorities c_counter_number c_counter_reload c_counter_on (x1 &&& 255) hm (tc_c255 _)) (cwV 1 hts (tc_gV wl_ThumbCore_260 wm_ThumbCore_push ws_ThumbCore_push wi_ThumbCore wc_ThumbCore_push) rfl rfl rfl (by decide +kernel) ⟨Nat.le_of_ble_eq_true rfl, Nat.le_of_ble_eq_true rfl⟩) (tc_preV hK hN hP hD [0, 1, 2, 3, 4, 5, 6, 7] rfl (by decide) (q0 := 0) rfl rfl) rfl rfl hl.1 rfl (lv_room (Nat.le_of_ble_eq_true rfl)) d_ThumbCore_miscellaneous_128 (by decide)) hP hD hS hA [0, 1, 2, 3, 4, 5, 6, 7] [] [0, 1, 2, 3, 4, 5, 6, 7] rfl rfl (by decide) (by decide) (by decide) (fun _ => rfl) (fun u H locs hu hP hD hS => ?_)
    obtain ⟨r3, s4, s5⟩ := u
    have hq := hq.trans (un3_eq hu _)
    have e_r3 := hu
    have hP : va_P D tcl (wd_ThumbCore cI cB cZ h h_memory h_memory_words h_registers h_flags h_exceptions h_exceptions_priorities h_counter q_memory_size n_memory_words c_asleep c_locked c_next s4 s5 c_flags_negative c_flags_zero c_flags_carry c_flags_overflow c_exceptions_pending c_exceptions_active c_exceptions_current c_exceptions_masked c_exceptions_priorities c_counter_number c_counter_reload c_counter_on) H := hP
    have hD : va_D A (wd_ThumbCore cI cB cZ h h_memory h_memory_words h_registers h_flags h_exceptions h_exceptions_priorities h_counter q_memory_size n_memory_words c_asleep c_locked c_next s4 s5 c_flags_negative c_flags_zero c_flags_carry c_flags_overflow c_exceptions_pending c_exceptions_active c_exceptions_current c_exceptions_masked c_exceptions_priorities c_counter_number c_counter_reload c_counter_on) := hD
    refine W.eq (g2 := F0 m 131 ls [.int (bI r3)]) rfl ?_
    exact RET H locs ls 131 (r3, c_asleep, c_next, s4, s5, c_flags_negative, c_flags_zero, c_flags_carry, c_flags_overflow, c_exceptions_active, c_exceptions_current, c_exceptions_masked) d_ThumbCore_miscellaneous_131 hP hD hS hq
  have hq := hq.trans (if_neg g_7_4)
  by_cases g_7_5 : ((o_iushr x1 8) &&& 15) = 5
  · have hq := hq.trans (if_pos g_7_5)
    refine tc_tabIn (k := 5) (off := 125) (tgt := 132) hx hb d_ThumbCore_miscellaneous_7 g_7_5 (by decide) (by decide) (by decide +kernel) (by decide) ?_
    refine lv_aload_n hx hb d_ThumbCore_miscellaneous_132 rfl (lv_at hl 0 rfl) ?_
    refine lv_iload_n hx hb d_ThumbCore_miscellaneous_133 rfl (lv_at hl 1 rfl) ?_
    refine lv_sipush (v := 255) hx hb d_ThumbCore_miscellaneous_134 (by decide) ?_
    refine lv_iand hx hb d_ThumbCore_miscellaneous_137 ?_
    refine lv_sipush (v := 16384) hx hb d_ThumbCore_miscellaneous_138 (by decide) ?_
    refine lv_ior hx hb d_ThumbCore_miscellaneous_141 ?_
    refine tc_mz (wo := fun u => (wd_ThumbCore cI cB cZ h h_memory h_memory_words h_registers h_flags h_exceptions h_exceptions_priorities h_counter q_memory_size n_memory_words c_asleep c_locked c_next u.2.1 u.2.2 c_flags_negative c_flags_zero c_flags_carry c_flags_overflow c_exceptions_pending c_exceptions_active c_exceptions_current c_exceptions_masked c_exceptions_priorities c_counter_number c_counter_reload c_counter_on)) (va_runV (As := [.int ((x1 &&& 255) ||| 16384)]) (rest := []) ⟨hx, hb, hml, hown, hts⟩ (c_ThumbCore_push l D cI cB cZ h h_memory h_memory_words h_registers h_flags h_exceptions h_exceptions_priorities h_counter H.size q_memory_size n_memory_words c_asleep c_locked c_next c_memory_words c_registers c_flags_negative c_flags_zero c_flags_carry c_flags_overflow c_exceptions_pending c_exceptions_active c_exceptions_current c_exceptions_masked c_exceptions_priorities c_counter_number c_counter_reload c_counter_on ((x1 &&& 255) ||| 16384) hm (tc_c16k _)) (cwV 1 hts (tc_gV wl_ThumbCore_260 wm_ThumbCore_push ws_ThumbCore_push wi_ThumbCore wc_ThumbCore_push) rfl rfl rfl (by decide +kernel) ⟨Nat.le_of_ble_eq_true rfl, Nat.le_of_ble_eq_true rfl⟩) (tc_preV hK hN hP hD [0, 1, 2, 3, 4, 5, 6, 7] rfl (by decide) (q0 := 0) rfl rfl) rfl rfl hl.1 rfl (lv_room (Nat.le_of_ble_eq_true rfl)) d_ThumbCore_miscellaneous_142 (by decide)) hP hD hS hA [0, 1, 2, 3, 4, 5, 6, 7] [] [0, 1, 2, 3, 4, 5, 6, 7] rfl rfl (by decide) (by decide) (by decide) (fun _ => rfl) (fun u H locs hu hP hD hS => ?_)
    obtain ⟨r6, s7, s8⟩ := u
    have hq := hq.trans (un3_eq hu _)
    have e_r6 := hu
    have hP : va_P D tcl (wd_ThumbCore cI cB cZ h h_memory h_memory_words h_registers h_flags h_exceptions h_exceptions_priorities h_counter q_memory_size n_memory_words c_asleep c_locked c_next s7 s8 c_flags_negative c_flags_zero c_flags_carry c_flags_overflow c_exceptions_pending c_exceptions_active c_exceptions_current c_exceptions_masked c_exceptions_priorities c_counter_number c_counter_reload c_counter_on) H := hP
    have hD : va_D A (wd_ThumbCore cI cB cZ h h_memory h_memory_words h_registers h_flags h_exceptions h_exceptions_priorities h_counter q_memory_size n_memory_words c_asleep c_locked c_next s7 s8 c_flags_negative c_flags_zero c_flags_carry c_flags_overflow c_exceptions_pending c_exceptions_active c_exceptions_current c_exceptions_masked c_exceptions_priorities c_counter_number c_counter_reload c_counter_on) := hD
    refine W.eq (g2 := F0 m 145 ls [.int (bI r6)]) rfl ?_
    exact RET H locs ls 145 (r6, c_asleep, c_next, s7, s8, c_flags_negative, c_flags_zero, c_flags_carry, c_flags_overflow, c_exceptions_active, c_exceptions_current, c_exceptions_masked) d_ThumbCore_miscellaneous_145 hP hD hS hq
  have hq := hq.trans (if_neg g_7_5)
  by_cases g_7_6 : ((o_iushr x1 8) &&& 15) = 6
  · have hq := hq.trans (if_pos g_7_6)
    refine tc_tabIn (k := 6) (off := 139) (tgt := 146) hx hb d_ThumbCore_miscellaneous_7 g_7_6 (by decide) (by decide) (by decide +kernel) (by decide) ?_
    refine lv_aload_n hx hb d_ThumbCore_miscellaneous_146 rfl (lv_at hl 0 rfl) ?_
    refine lv_iload_n hx hb d_ThumbCore_miscellaneous_147 rfl (lv_at hl 1 rfl) ?_
    refine tc_mz (wo := fun u => (wd_ThumbCore cI cB cZ h h_memory h_memory_words h_registers h_flags h_exceptions h_exceptions_priorities h_counter q_memory_size n_memory_words c_asleep c_locked c_next c_memory_words c_registers c_flags_negative c_flags_zero c_flags_carry c_flags_overflow c_exceptions_pending c_exceptions_active c_exceptions_current u.2 c_exceptions_priorities c_counter_number c_counter_reload c_counter_on)) (va_runV (As := [.int x1]) (rest := []) ⟨hx, hb, hml, hown, hts⟩ (c_ThumbCore_changeMask l D cI cB cZ h h_memory h_memory_words h_registers h_flags h_exceptions h_exceptions_priorities h_counter H.size q_memory_size n_memory_words c_asleep c_locked c_next c_memory_words c_registers c_flags_negative c_flags_zero c_flags_carry c_flags_overflow c_exceptions_pending c_exceptions_active c_exceptions_current c_exceptions_masked c_exceptions_priorities c_counter_number c_counter_reload c_counter_on x1) (cwV 1 hts (tc_gV wl_ThumbCore_263 wm_ThumbCore_changeMask ws_ThumbCore_changeMask wi_ThumbCore wc_ThumbCore_changeMask) rfl rfl rfl (by decide +kernel) ⟨Nat.le_of_ble_eq_true rfl, Nat.le_of_ble_eq_true rfl⟩) (tc_preV hK hN hP hD [0, 1, 2, 3, 4, 5, 6, 7] rfl (by decide) (q0 := 0) rfl rfl) rfl rfl hl.1 rfl (lv_room (Nat.le_of_ble_eq_true rfl)) d_ThumbCore_miscellaneous_148 (by decide)) hP hD hS hA [0, 1, 2, 3, 4, 5, 6, 7] [] [0, 1, 2, 3, 4, 5, 6, 7] rfl rfl (by decide) (by decide) (by decide) (fun _ => rfl) (fun u H locs hu hP hD hS => ?_)
    obtain ⟨r9, s10⟩ := u
    have hq := hq.trans (un2_eq hu _)
    have e_r9 := hu
    have hP : va_P D tcl (wd_ThumbCore cI cB cZ h h_memory h_memory_words h_registers h_flags h_exceptions h_exceptions_priorities h_counter q_memory_size n_memory_words c_asleep c_locked c_next c_memory_words c_registers c_flags_negative c_flags_zero c_flags_carry c_flags_overflow c_exceptions_pending c_exceptions_active c_exceptions_current s10 c_exceptions_priorities c_counter_number c_counter_reload c_counter_on) H := hP
    have hD : va_D A (wd_ThumbCore cI cB cZ h h_memory h_memory_words h_registers h_flags h_exceptions h_exceptions_priorities h_counter q_memory_size n_memory_words c_asleep c_locked c_next c_memory_words c_registers c_flags_negative c_flags_zero c_flags_carry c_flags_overflow c_exceptions_pending c_exceptions_active c_exceptions_current s10 c_exceptions_priorities c_counter_number c_counter_reload c_counter_on) := hD
    refine W.eq (g2 := F0 m 151 ls [.int (bI r9)]) rfl ?_
    exact RET H locs ls 151 (r9, c_asleep, c_next, c_memory_words, c_registers, c_flags_negative, c_flags_zero, c_flags_carry, c_flags_overflow, c_exceptions_active, c_exceptions_current, s10) d_ThumbCore_miscellaneous_151 hP hD hS hq
  have hq := hq.trans (if_neg g_7_6)
  by_cases g_7_10 : ((o_iushr x1 8) &&& 15) = 10
  · have hq := hq.trans (if_pos g_7_10)
    refine tc_tabIn (k := 10) (off := 145) (tgt := 152) hx hb d_ThumbCore_miscellaneous_7 g_7_10 (by decide) (by decide) (by decide +kernel) (by decide) ?_
    refine lv_aload_n hx hb d_ThumbCore_miscellaneous_152 rfl (lv_at hl 0 rfl) ?_
    refine lv_iload_n hx hb d_ThumbCore_miscellaneous_153 rfl (lv_at hl 1 rfl) ?_
    refine tc_mz (wo := fun u => (wd_ThumbCore cI cB cZ h h_memory h_memory_words h_registers h_flags h_exceptions h_exceptions_priorities h_counter q_memory_size n_memory_words c_asleep c_locked c_next c_memory_words u.2 c_flags_negative c_flags_zero c_flags_carry c_flags_overflow c_exceptions_pending c_exceptions_active c_exceptions_current c_exceptions_masked c_exceptions_priorities c_counter_number c_counter_reload c_counter_on)) (va_runV (As := [.int x1]) (rest := []) ⟨hx, hb, hml, hown, hts⟩ (c_ThumbCore_swapBytes l D cI cB cZ h h_memory h_memory_words h_registers h_flags h_exceptions h_exceptions_priorities h_counter H.size q_memory_size n_memory_words c_asleep c_locked c_next c_memory_words c_registers c_flags_negative c_flags_zero c_flags_carry c_flags_overflow c_exceptions_pending c_exceptions_active c_exceptions_current c_exceptions_masked c_exceptions_priorities c_counter_number c_counter_reload c_counter_on x1) (cwV 1 hts (tc_gV wl_ThumbCore_266 wm_ThumbCore_swapBytes ws_ThumbCore_swapBytes wi_ThumbCore wc_ThumbCore_swapBytes) rfl rfl rfl (by decide +kernel) ⟨Nat.le_of_ble_eq_true rfl, Nat.le_of_ble_eq_true rfl⟩) (tc_preV hK hN hP hD [0, 1, 2, 3, 4, 5, 6, 7] rfl (by decide) (q0 := 0) rfl rfl) rfl rfl hl.1 rfl (lv_room (Nat.le_of_ble_eq_true rfl)) d_ThumbCore_miscellaneous_154 (by decide)) hP hD hS hA [0, 1, 2, 3, 4, 5, 6, 7] [] [0, 1, 2, 3, 4, 5, 6, 7] rfl rfl (by decide) (by decide) (by decide) (fun _ => rfl) (fun u H locs hu hP hD hS => ?_)
    obtain ⟨r11, s12⟩ := u
    have hq := hq.trans (un2_eq hu _)
    have e_r11 := hu
    have hP : va_P D tcl (wd_ThumbCore cI cB cZ h h_memory h_memory_words h_registers h_flags h_exceptions h_exceptions_priorities h_counter q_memory_size n_memory_words c_asleep c_locked c_next c_memory_words s12 c_flags_negative c_flags_zero c_flags_carry c_flags_overflow c_exceptions_pending c_exceptions_active c_exceptions_current c_exceptions_masked c_exceptions_priorities c_counter_number c_counter_reload c_counter_on) H := hP
    have hD : va_D A (wd_ThumbCore cI cB cZ h h_memory h_memory_words h_registers h_flags h_exceptions h_exceptions_priorities h_counter q_memory_size n_memory_words c_asleep c_locked c_next c_memory_words s12 c_flags_negative c_flags_zero c_flags_carry c_flags_overflow c_exceptions_pending c_exceptions_active c_exceptions_current c_exceptions_masked c_exceptions_priorities c_counter_number c_counter_reload c_counter_on) := hD
    refine W.eq (g2 := F0 m 157 ls [.int (bI r11)]) rfl ?_
    exact RET H locs ls 157 (r11, c_asleep, c_next, c_memory_words, s12, c_flags_negative, c_flags_zero, c_flags_carry, c_flags_overflow, c_exceptions_active, c_exceptions_current, c_exceptions_masked) d_ThumbCore_miscellaneous_157 hP hD hS hq
  have hq := hq.trans (if_neg g_7_10)
  by_cases g_7_12 : ((o_iushr x1 8) &&& 15) = 12
  · have hq := hq.trans (if_pos g_7_12)
    refine tc_tabIn (k := 12) (off := 151) (tgt := 158) hx hb d_ThumbCore_miscellaneous_7 g_7_12 (by decide) (by decide) (by decide +kernel) (by decide) ?_
    refine lv_aload_n hx hb d_ThumbCore_miscellaneous_158 rfl (lv_at hl 0 rfl) ?_
    refine lv_iload_n hx hb d_ThumbCore_miscellaneous_159 rfl (lv_at hl 1 rfl) ?_
    refine lv_sipush (v := 255) hx hb d_ThumbCore_miscellaneous_160 (by decide) ?_
    refine lv_iand hx hb d_ThumbCore_miscellaneous_163 ?_
    refine tc_mz (wo := fun u => (wd_ThumbCore cI cB cZ h h_memory h_memory_words h_registers h_flags h_exceptions h_exceptions_priorities h_counter q_memory_size n_memory_words c_asleep c_locked c_next c_memory_words u.2 c_flags_negative c_flags_zero c_flags_carry c_flags_overflow c_exceptions_pending c_exceptions_active c_exceptions_current c_exceptions_masked c_exceptions_priorities c_counter_number c_counter_reload c_counter_on)) (va_runV (As := [.int (x1 &&& 255)]) (rest := []) ⟨hx, hb, hml, hown, hts⟩ (c_ThumbCore_pop l D cI cB cZ h h_memory h_memory_words h_registers h_flags h_exceptions h_exceptions_priorities h_counter H.size q_memory_size n_memory_words c_asleep c_locked c_next c_memory_words c_registers c_flags_negative c_flags_zero c_flags_carry c_flags_overflow c_exceptions_pending c_exceptions_active c_exceptions_current c_exceptions_masked c_exceptions_priorities c_counter_number c_counter_reload c_counter_on (x1 &&& 255) hm (tc_c255 _)) (cwV 1 hts (tc_gV wl_ThumbCore_269 wm_ThumbCore_pop ws_ThumbCore_pop wi_ThumbCore wc_ThumbCore_pop) rfl rfl rfl (by decide +kernel) ⟨Nat.le_of_ble_eq_true rfl, Nat.le_of_ble_eq_true rfl⟩) (tc_preV hK hN hP hD [0, 1, 2, 3, 4, 5, 6, 7] rfl (by decide) (q0 := 0) rfl rfl) rfl rfl hl.1 rfl (lv_room (Nat.le_of_ble_eq_true rfl)) d_ThumbCore_miscellaneous_164 (by decide)) hP hD hS hA [0, 1, 2, 3, 4, 5, 6, 7] [] [0, 1, 2, 3, 4, 5, 6, 7] rfl rfl (by decide) (by decide) (by decide) (fun _ => rfl) (fun u H locs hu hP hD hS => ?_)
    obtain ⟨r13, s14⟩ := u
    have hq := hq.trans (un2_eq hu _)
    have e_r13 := hu
    have hP : va_P D tcl (wd_ThumbCore cI cB cZ h h_memory h_memory_words h_registers h_flags h_exceptions h_exceptions_priorities h_counter q_memory_size n_memory_words c_asleep c_locked c_next c_memory_words s14 c_flags_negative c_flags_zero c_flags_carry c_flags_overflow c_exceptions_pending c_exceptions_active c_exceptions_current c_exceptions_masked c_exceptions_priorities c_counter_number c_counter_reload c_counter_on) H := hP
    have hD : va_D A (wd_ThumbCore cI cB cZ h h_memory h_memory_words h_registers h_flags h_exceptions h_exceptions_priorities h_counter q_memory_size n_memory_words c_asleep c_locked c_next c_memory_words s14 c_flags_negative c_flags_zero c_flags_carry c_flags_overflow c_exceptions_pending c_exceptions_active c_exceptions_current c_exceptions_masked c_exceptions_priorities c_counter_number c_counter_reload c_counter_on) := hD
    refine W.eq (g2 := F0 m 167 ls [.int (bI r13)]) rfl ?_
    exact RET H locs ls 167 (r13, c_asleep, c_next, c_memory_words, s14, c_flags_negative, c_flags_zero, c_flags_carry, c_flags_overflow, c_exceptions_active, c_exceptions_current, c_exceptions_masked) d_ThumbCore_miscellaneous_167 hP hD hS hq
  have hq := hq.trans (if_neg g_7_12)
  by_cases g_7_13 : ((o_iushr x1 8) &&& 15) = 13
  · have hq := hq.trans (if_pos g_7_13)
    refine tc_tabIn (k := 13) (off := 161) (tgt := 168) hx hb d_ThumbCore_miscellaneous_7 g_7_13 (by decide) (by decide) (by decide +kernel) (by decide) ?_
    refine lv_aload_n hx hb d_ThumbCore_miscellaneous_168 rfl (lv_at hl 0 rfl) ?_
    refine lv_iload_n hx hb d_ThumbCore_miscellaneous_169 rfl (lv_at hl 1 rfl) ?_
    refine lv_sipush (v := 255) hx hb d_ThumbCore_miscellaneous_170 (by decide) ?_
    refine lv_iand hx hb d_ThumbCore_miscellaneous_173 ?_
    refine tc_mz (wo := fun u => (wd_ThumbCore cI cB cZ h h_memory h_memory_words h_registers h_flags h_exceptions h_exceptions_priorities h_counter q_memory_size n_memory_words c_asleep c_locked u.2.1 c_memory_words u.2.2.1 u.2.2.2.1 u.2.2.2.2.1 u.2.2.2.2.2.1 u.2.2.2.2.2.2.1 c_exceptions_pending u.2.2.2.2.2.2.2.1 u.2.2.2.2.2.2.2.2 c_exceptions_masked c_exceptions_priorities c_counter_number c_counter_reload c_counter_on)) (va_runV (As := [.int (x1 &&& 255)]) (rest := []) ⟨hx, hb, hml, hown, hts⟩ (c_ThumbCore_popAndGo l D cI cB cZ h h_memory h_memory_words h_registers h_flags h_exceptions h_exceptions_priorities h_counter tL H.size q_memory_size n_memory_words c_asleep c_locked c_next c_memory_words c_registers c_flags_negative c_flags_zero c_flags_carry c_flags_overflow c_exceptions_pending c_exceptions_active c_exceptions_current c_exceptions_masked c_exceptions_priorities c_counter_number c_counter_reload c_counter_on (x1 &&& 255) hm (tc_c255 _)) (cwV 1 hts (tc_gV wl_ThumbCore_272 wm_ThumbCore_popAndGo ws_ThumbCore_popAndGo wi_ThumbCore wc_ThumbCore_popAndGo) rfl rfl rfl (by decide +kernel) ⟨Nat.le_of_ble_eq_true rfl, Nat.le_of_ble_eq_true rfl⟩) (tc_preVZ hK hN hP hD hS hA hZ [0, 1, 2, 3, 4, 5, 6, 7] rfl (by decide) (q0 := 0) rfl rfl) rfl rfl hl.1 rfl (lv_room (Nat.le_of_ble_eq_true rfl)) d_ThumbCore_miscellaneous_174 (by decide)) hP hD hS hA [0, 1, 2, 3, 4, 5, 6, 7] [] [0, 1, 2, 3, 4, 5, 6, 7] rfl rfl (by decide) (by decide) (by decide) (fun _ => rfl) (fun u H locs hu hP hD hS => ?_)
    obtain ⟨r15, s16, s17, s18, s19, s20, s21, s22, s23⟩ := u
    have hq := hq.trans (un9_eq hu _)
    have e_r15 := hu
    have hP : va_P D tcl (wd_ThumbCore cI cB cZ h h_memory h_memory_words h_registers h_flags h_exceptions h_exceptions_priorities h_counter q_memory_size n_memory_words c_asleep c_locked s16 c_memory_words s17 s18 s19 s20 s21 c_exceptions_pending s22 s23 c_exceptions_masked c_exceptions_priorities c_counter_number c_counter_reload c_counter_on) H := hP
    have hD : va_D A (wd_ThumbCore cI cB cZ h h_memory h_memory_words h_registers h_flags h_exceptions h_exceptions_priorities h_counter q_memory_size n_memory_words c_asleep c_locked s16 c_memory_words s17 s18 s19 s20 s21 c_exceptions_pending s22 s23 c_exceptions_masked c_exceptions_priorities c_counter_number c_counter_reload c_counter_on) := hD
    refine W.eq (g2 := F0 m 177 ls [.int (bI r15)]) rfl ?_
    exact RET H locs ls 177 (r15, c_asleep, s16, c_memory_words, s17, s18, s19, s20, s21, s22, s23, c_exceptions_masked) d_ThumbCore_miscellaneous_177 hP hD hS hq
  have hq := hq.trans (if_neg g_7_13)
  by_cases g_7_15 : ((o_iushr x1 8) &&& 15) = 15
  · have hq := hq.trans (if_pos g_7_15)
    refine tc_tabIn (k := 15) (off := 171) (tgt := 178) hx hb d_ThumbCore_miscellaneous_7 g_7_15 (by decide) (by decide) (by decide +kernel) (by decide) ?_
    refine lv_aload_n hx hb d_ThumbCore_miscellaneous_178 rfl (lv_at hl 0 rfl) ?_
    refine lv_iload_n hx hb d_ThumbCore_miscellaneous_179 rfl (lv_at hl 1 rfl) ?_
    refine tc_mz (wo := fun u => (wd_ThumbCore cI cB cZ h h_memory h_memory_words h_registers h_flags h_exceptions h_exceptions_priorities h_counter q_memory_size n_memory_words u.2 c_locked c_next c_memory_words c_registers c_flags_negative c_flags_zero c_flags_carry c_flags_overflow c_exceptions_pending c_exceptions_active c_exceptions_current c_exceptions_masked c_exceptions_priorities c_counter_number c_counter_reload c_counter_on)) (va_runV (As := [.int x1]) (rest := []) ⟨hx, hb, hml, hown, hts⟩ (c_ThumbCore_hint l D cI cB cZ h h_memory h_memory_words h_registers h_flags h_exceptions h_exceptions_priorities h_counter H.size q_memory_size n_memory_words c_asleep c_locked c_next c_memory_words c_registers c_flags_negative c_flags_zero c_flags_carry c_flags_overflow c_exceptions_pending c_exceptions_active c_exceptions_current c_exceptions_masked c_exceptions_priorities c_counter_number c_counter_reload c_counter_on x1) (cwV 1 hts (tc_gV wl_ThumbCore_275 wm_ThumbCore_hint ws_ThumbCore_hint wi_ThumbCore wc_ThumbCore_hint) rfl rfl rfl (by decide +kernel) ⟨Nat.le_of_ble_eq_true rfl, Nat.le_of_ble_eq_true rfl⟩) (tc_preV hK hN hP hD [0, 1, 2, 3, 4, 5, 6, 7] rfl (by decide) (q0 := 0) rfl rfl) rfl rfl hl.1 rfl (lv_room (Nat.le_of_ble_eq_true rfl)) d_ThumbCore_miscellaneous_180 (by decide)) hP hD hS hA [0, 1, 2, 3, 4, 5, 6, 7] [] [0, 1, 2, 3, 4, 5, 6, 7] rfl rfl (by decide) (by decide) (by decide) (fun _ => rfl) (fun u H locs hu hP hD hS => ?_)
    obtain ⟨r24, s25⟩ := u
    have hq := hq.trans (un2_eq hu _)
    have e_r24 := hu
    have hP : va_P D tcl (wd_ThumbCore cI cB cZ h h_memory h_memory_words h_registers h_flags h_exceptions h_exceptions_priorities h_counter q_memory_size n_memory_words s25 c_locked c_next c_memory_words c_registers c_flags_negative c_flags_zero c_flags_carry c_flags_overflow c_exceptions_pending c_exceptions_active c_exceptions_current c_exceptions_masked c_exceptions_priorities c_counter_number c_counter_reload c_counter_on) H := hP
    have hD : va_D A (wd_ThumbCore cI cB cZ h h_memory h_memory_words h_registers h_flags h_exceptions h_exceptions_priorities h_counter q_memory_size n_memory_words s25 c_locked c_next c_memory_words c_registers c_flags_negative c_flags_zero c_flags_carry c_flags_overflow c_exceptions_pending c_exceptions_active c_exceptions_current c_exceptions_masked c_exceptions_priorities c_counter_number c_counter_reload c_counter_on) := hD
    refine W.eq (g2 := F0 m 183 ls [.int (bI r24)]) rfl ?_
    exact RET H locs ls 183 (r24, s25, c_next, c_memory_words, c_registers, c_flags_negative, c_flags_zero, c_flags_carry, c_flags_overflow, c_exceptions_active, c_exceptions_current, c_exceptions_masked) d_ThumbCore_miscellaneous_183 hP hD hS hq
  have hq := hq.trans (if_neg g_7_15)
  have DF : W p l e rm_ThumbCore_miscellaneous s m ([.ref h, .int x1] : List Value).toArray below meth c H locs 0 0 Q (F0 m 184 ls []) := by
    refine lv_iconst (v := 0) hx hb d_ThumbCore_miscellaneous_184 (by decide) ?_
    exact RET H locs ls 185 (false, c_asleep, c_next, c_memory_words, c_registers, c_flags_negative, c_flags_zero, c_flags_carry, c_flags_overflow, c_exceptions_active, c_exceptions_current, c_exceptions_masked) d_ThumbCore_miscellaneous_185 hP hD hS hq
  by_cases g_7_1 : ((o_iushr x1 8) &&& 15) = 1
  · exact tc_tabIn (k := 1) (off := 177) (tgt := 184) hx hb d_ThumbCore_miscellaneous_7 g_7_1 (by decide) (by decide) (by decide +kernel) (by decide) DF
  by_cases g_7_3 : ((o_iushr x1 8) &&& 15) = 3
  · exact tc_tabIn (k := 3) (off := 177) (tgt := 184) hx hb d_ThumbCore_miscellaneous_7 g_7_3 (by decide) (by decide) (by decide +kernel) (by decide) DF
  by_cases g_7_7 : ((o_iushr x1 8) &&& 15) = 7
  · exact tc_tabIn (k := 7) (off := 177) (tgt := 184) hx hb d_ThumbCore_miscellaneous_7 g_7_7 (by decide) (by decide) (by decide +kernel) (by decide) DF
  by_cases g_7_8 : ((o_iushr x1 8) &&& 15) = 8
  · exact tc_tabIn (k := 8) (off := 177) (tgt := 184) hx hb d_ThumbCore_miscellaneous_7 g_7_8 (by decide) (by decide) (by decide +kernel) (by decide) DF
  by_cases g_7_9 : ((o_iushr x1 8) &&& 15) = 9
  · exact tc_tabIn (k := 9) (off := 177) (tgt := 184) hx hb d_ThumbCore_miscellaneous_7 g_7_9 (by decide) (by decide) (by decide +kernel) (by decide) DF
  by_cases g_7_11 : ((o_iushr x1 8) &&& 15) = 11
  · exact tc_tabIn (k := 11) (off := 177) (tgt := 184) hx hb d_ThumbCore_miscellaneous_7 g_7_11 (by decide) (by decide) (by decide +kernel) (by decide) DF
  by_cases g_7_14 : ((o_iushr x1 8) &&& 15) = 14
  · exact tc_tabIn (k := 14) (off := 177) (tgt := 184) hx hb d_ThumbCore_miscellaneous_7 g_7_14 (by decide) (by decide) (by decide +kernel) (by decide) DF
  exact lv_tableOut (x := ((o_iushr x1 8) &&& 15)) hx hb d_ThumbCore_miscellaneous_7 (by have n0 := tc_ne (j := 0) g_7_0 (by decide); have n1 := tc_ne (j := 1) g_7_1 (by decide); have n2 := tc_ne (j := 2) g_7_2 (by decide); have n3 := tc_ne (j := 3) g_7_3 (by decide); have n4 := tc_ne (j := 4) g_7_4 (by decide); have n5 := tc_ne (j := 5) g_7_5 (by decide); have n6 := tc_ne (j := 6) g_7_6 (by decide); have n7 := tc_ne (j := 7) g_7_7 (by decide); have n8 := tc_ne (j := 8) g_7_8 (by decide); have n9 := tc_ne (j := 9) g_7_9 (by decide); have n10 := tc_ne (j := 10) g_7_10 (by decide); have n11 := tc_ne (j := 11) g_7_11 (by decide); have n12 := tc_ne (j := 12) g_7_12 (by decide); have n13 := tc_ne (j := 13) g_7_13 (by decide); have n14 := tc_ne (j := 14) g_7_14 (by decide); have n15 := tc_ne (j := 15) g_7_15 (by decide); omega) (by decide) DF
abbrev rm_ThumbCore_storeMany : Room := { frames := 3, cells := 0, slots := 0, locals := 70 }
set_option maxHeartbeats 4000000 in
set_option maxRecDepth 100000 in
theorem c_ThumbCore_storeMany (l : Launch) (D : va_G) (cI cB cZ : ClassId) (h h_memory h_memory_words h_registers h_flags h_exceptions h_exceptions_priorities h_counter sz : Nat) (q_memory_size : Int32) (n_memory_words : Nat) (c_asleep : Bool) (c_locked : Bool) (c_next : Int32) (c_memory_words : Nat → Int32) (c_registers : Nat → Int32) (c_flags_negative : Bool) (c_flags_zero : Bool) (c_flags_carry : Bool) (c_flags_overflow : Bool) (c_exceptions_pending : Int32) (c_exceptions_active : Int32) (c_exceptions_current : Int32) (c_exceptions_masked : Bool) (c_exceptions_priorities : Nat → Int32) (c_counter_number : Int32) (c_counter_reload : Int32) (c_counter_on : Bool) (x1 : Int32) (x2 : Int32) (hm : tc_mem q_memory_size n_memory_words) (hi_x1 : vp_in x1 16) (hc : tc_cl x2) : Met l y_ThumbCore_storeMany (.code y_ThumbCore_storeMany b_ThumbCore_storeMany 6 (some .boolean) :: tcb) rm_ThumbCore_storeMany (tc_Pw D tcl (tys cI cB cZ) (wd_ThumbCore cI cB cZ h h_memory h_memory_words h_registers h_flags h_exceptions h_exceptions_priorities h_counter q_memory_size n_memory_words c_asleep c_locked c_next c_memory_words c_registers c_flags_negative c_flags_zero c_flags_carry c_flags_overflow c_exceptions_pending c_exceptions_active c_exceptions_current c_exceptions_masked c_exceptions_priorities c_counter_number c_counter_reload c_counter_on) sz ([.ref h, .int x1, .int x2] : List Value) none) (tc_Qz D tcl (wd_ThumbCore cI cB cZ h h_memory h_memory_words h_registers h_flags h_exceptions h_exceptions_priorities h_counter q_memory_size n_memory_words c_asleep c_locked c_next c_memory_words c_registers c_flags_negative c_flags_zero c_flags_carry c_flags_overflow c_exceptions_pending c_exceptions_active c_exceptions_current c_exceptions_masked c_exceptions_priorities c_counter_number c_counter_reload c_counter_on) sz (fun u => (wd_ThumbCore cI cB cZ h h_memory h_memory_words h_registers h_flags h_exceptions h_exceptions_priorities h_counter q_memory_size n_memory_words c_asleep c_locked c_next u.2.1 u.2.2 c_flags_negative c_flags_zero c_flags_carry c_flags_overflow c_exceptions_pending c_exceptions_active c_exceptions_current c_exceptions_masked c_exceptions_priorities c_counter_number c_counter_reload c_counter_on)) (f_ThumbCore_storeMany q_memory_size c_memory_words c_registers x1 x2)) 0 0 (va_A (wd_ThumbCore cI cB cZ h h_memory h_memory_words h_registers h_flags h_exceptions h_exceptions_priorities h_counter q_memory_size n_memory_words c_asleep c_locked c_next c_memory_words c_registers c_flags_negative c_flags_zero c_flags_carry c_flags_overflow c_exceptions_pending c_exceptions_active c_exceptions_current c_exceptions_masked c_exceptions_priorities c_counter_number c_counter_reload c_counter_on) sz) := by
  refine tc_mu_z (by decide) (Nat.le_of_ble_eq_true rfl) ?_
  intro p e s m below meth c A Q ls hx hb hml hts hown hK hN hP hD hA hZ hl RET
  have hS : va_S A s.heap s.heap [] := va_S.rf
  have hl : lv_has ls 6 [(0, .ref h), (1, .int x1), (2, .int x2)] := hl
  generalize hF : f_ThumbCore_storeMany q_memory_size c_memory_words c_registers x1 x2 = FF at RET
  have J_50 : ∀ (H : Heap) (locs : List Loc) (ls : Array Slot) (c_memory_words : Nat → Int32) (c_registers : Nat → Int32) (y1 : Int32) (y2 : Int32) (y3 : Int32), va_P D tcl (wd_ThumbCore cI cB cZ h h_memory h_memory_words h_registers h_flags h_exceptions h_exceptions_priorities h_counter q_memory_size n_memory_words c_asleep c_locked c_next c_memory_words c_registers c_flags_negative c_flags_zero c_flags_carry c_flags_overflow c_exceptions_pending c_exceptions_active c_exceptions_current c_exceptions_masked c_exceptions_priorities c_counter_number c_counter_reload c_counter_on) H → va_D A (wd_ThumbCore cI cB cZ h h_memory h_memory_words h_registers h_flags h_exceptions h_exceptions_priorities h_counter q_memory_size n_memory_words c_asleep c_locked c_next c_memory_words c_registers c_flags_negative c_flags_zero c_flags_carry c_flags_overflow c_exceptions_pending c_exceptions_active c_exceptions_current c_exceptions_masked c_exceptions_priorities c_counter_number c_counter_reload c_counter_on) → va_S A s.heap H locs → lv_has ls 6 [(0, .ref h), (1, .int y1), (2, .int y2), (3, .int y3)] → FF = k_ThumbCore_storeMany_50 q_memory_size c_memory_words c_registers y1 y2 y3 → (vp_in y1 16) → (tc_cl y2) → W p l e rm_ThumbCore_storeMany s m ([.ref h, .int x1, .int x2] : List Value).toArray below meth c H locs 0 0 Q (F0 m 50 ls []) := by
    intro H locs ls c_memory_words c_registers y1 y2 y3 hP hD hS hl hq hi_y1 hc
    refine lv_aload_n hx hb d_ThumbCore_storeMany_50 rfl (lv_at hl 0 rfl) ?_
    refine lv_iload_n hx hb d_ThumbCore_storeMany_51 rfl (lv_at hl 2 rfl) ?_
    refine lv_iload_n hx hb d_ThumbCore_storeMany_52 rfl (lv_at hl 3 rfl) ?_
    refine tc_rd (va_runV (As := [.int y2, .int y3]) (rest := []) ⟨hx, hb, hml, hown, hts⟩ (c_ThumbCore_areThere l D cI cB cZ h h_memory h_memory_words h_registers h_flags h_exceptions h_exceptions_priorities h_counter H.size q_memory_size n_memory_words c_asleep c_locked c_next c_memory_words c_registers c_flags_negative c_flags_zero c_flags_carry c_flags_overflow c_exceptions_pending c_exceptions_active c_exceptions_current c_exceptions_masked c_exceptions_priorities c_counter_number c_counter_reload c_counter_on y2 y3) (cwV 2 hts (tc_gV wl_ThumbCore_283 wm_ThumbCore_areThere ws_ThumbCore_areThere wi_ThumbCore wc_ThumbCore_areThere) rfl rfl rfl (by decide +kernel) ⟨Nat.le_of_ble_eq_true rfl, Nat.le_of_ble_eq_true rfl⟩) (tc_preV hK hN hP hD [0, 1, 2, 3, 4, 5, 6, 7] rfl (by decide) (q0 := 0) rfl rfl) rfl rfl hl.1 rfl (lv_room (Nat.le_of_ble_eq_true rfl)) d_ThumbCore_storeMany_53 (by decide)) ?_
    refine tc_topb (fun v1 e_v1 => ?_)
    have hq := tc_nm hq e_v1
    refine lv_if_ne (tgt := 61) hx hb d_ThumbCore_storeMany_56 (by decide) (fun g_56 => ?_) (fun g_56 => ?_)
    · have hq := hq.trans (if_pos g_56)
      refine lv_aload_n hx hb d_ThumbCore_storeMany_61 rfl (lv_at hl 0 rfl) ?_
      refine lv_iload_n hx hb d_ThumbCore_storeMany_62 rfl (lv_at hl 2 rfl) ?_
      refine lv_iload_n hx hb d_ThumbCore_storeMany_63 rfl (lv_at hl 3 rfl) ?_
      refine tc_mv (wo := fun u => (wd_ThumbCore cI cB cZ h h_memory h_memory_words h_registers h_flags h_exceptions h_exceptions_priorities h_counter q_memory_size n_memory_words c_asleep c_locked c_next u c_registers c_flags_negative c_flags_zero c_flags_carry c_flags_overflow c_exceptions_pending c_exceptions_active c_exceptions_current c_exceptions_masked c_exceptions_priorities c_counter_number c_counter_reload c_counter_on)) (va_runV (As := [.int y2, .int y3]) (rest := []) ⟨hx, hb, hml, hown, hts⟩ (c_ThumbCore_writeList l D cI cB cZ h h_memory h_memory_words h_registers h_flags h_exceptions h_exceptions_priorities h_counter H.size q_memory_size n_memory_words c_asleep c_locked c_next c_memory_words c_registers c_flags_negative c_flags_zero c_flags_carry c_flags_overflow c_exceptions_pending c_exceptions_active c_exceptions_current c_exceptions_masked c_exceptions_priorities c_counter_number c_counter_reload c_counter_on y2 y3 hm (tc_lT hm hc (tc_bT e_v1 g_56))) (cwV 2 hts (tc_gV wl_ThumbCore_286 wm_ThumbCore_writeList ws_ThumbCore_writeList wi_ThumbCore wc_ThumbCore_writeList) rfl rfl rfl (by decide +kernel) ⟨Nat.le_of_ble_eq_true rfl, Nat.le_of_ble_eq_true rfl⟩) (tc_preV hK hN hP hD [0, 1, 2, 3, 4, 5, 6, 7] rfl (by decide) (q0 := 0) rfl rfl) rfl rfl hl.1 rfl (lv_room (Nat.le_of_ble_eq_true rfl)) d_ThumbCore_storeMany_64 (by decide)) hP hD hS hA [0, 1, 2, 3, 4, 5, 6, 7] [] [0, 1, 2, 3, 4, 5, 6, 7] rfl rfl (by decide) (by decide) (by decide) (fun _ => rfl) (fun s2 H locs e_s2 hP hD hS => ?_)
      have hq := tc_nm hq e_s2
      have hP : va_P D tcl (wd_ThumbCore cI cB cZ h h_memory h_memory_words h_registers h_flags h_exceptions h_exceptions_priorities h_counter q_memory_size n_memory_words c_asleep c_locked c_next s2 c_registers c_flags_negative c_flags_zero c_flags_carry c_flags_overflow c_exceptions_pending c_exceptions_active c_exceptions_current c_exceptions_masked c_exceptions_priorities c_counter_number c_counter_reload c_counter_on) H := hP
      have hD : va_D A (wd_ThumbCore cI cB cZ h h_memory h_memory_words h_registers h_flags h_exceptions h_exceptions_priorities h_counter q_memory_size n_memory_words c_asleep c_locked c_next s2 c_registers c_flags_negative c_flags_zero c_flags_carry c_flags_overflow c_exceptions_pending c_exceptions_active c_exceptions_current c_exceptions_masked c_exceptions_priorities c_counter_number c_counter_reload c_counter_on) := hD
      refine lv_aload_n hx hb d_ThumbCore_storeMany_67 rfl (lv_at hl 0 rfl) ?_
      refine va_get (D := D) (ci := 4) (v := .ref h_registers) (C := R_ThumbCore) (T := F_ThumbCore) (N := 8) hx hb hts u_ThumbCore hown hK hP 0 rfl rfl 1 (by decide) (hts _ wf_ThumbCore_27) (fun _ h9 => h9) rfl d_ThumbCore_storeMany_68 ?_
      refine lv_iload_n hx hb d_ThumbCore_storeMany_71 rfl (lv_at hl 1 rfl) ?_
      refine lv_iload_n hx hb d_ThumbCore_storeMany_72 rfl (lv_at hl 2 rfl) ?_
      refine lv_iload_n hx hb d_ThumbCore_storeMany_73 rfl (lv_at hl 3 rfl) ?_
      refine tc_rd (va_runS (As := [.int y2, .int y3]) (rest := [.int y1, .ref h_registers]) ⟨hx, hb, hml, hown, hts⟩ (c_ThumbCore_behind l y2 y3) (va_cwS 2 hts (tc_gS wl_ThumbCore_292 wt_ThumbCore_behind wi_ThumbCore wc_ThumbCore_behind) rfl rfl rfl (by decide +kernel) ⟨Nat.le_of_ble_eq_true rfl, Nat.le_of_ble_eq_true rfl⟩) tc_preS rfl rfl hl.1 rfl (lv_room (Nat.le_of_ble_eq_true rfl)) d_ThumbCore_storeMany_74 (by decide)) ?_
      refine lv_topi (fun v3 e_v3 => ?_)
      have hq := tc_nm hq e_v3
      refine va_iast hx hb hK hP hD hS 3 0 rfl rfl hi_y1 d_ThumbCore_storeMany_77 (fun H locs hP hD hS => ?_)
      have hP : va_P D tcl (wd_ThumbCore cI cB cZ h h_memory h_memory_words h_registers h_flags h_exceptions h_exceptions_priorities h_counter q_memory_size n_memory_words c_asleep c_locked c_next s2 (upd c_registers y1.toNatClampNeg v3) c_flags_negative c_flags_zero c_flags_carry c_flags_overflow c_exceptions_pending c_exceptions_active c_exceptions_current c_exceptions_masked c_exceptions_priorities c_counter_number c_counter_reload c_counter_on) H := hP
      have hD : va_D A (wd_ThumbCore cI cB cZ h h_memory h_memory_words h_registers h_flags h_exceptions h_exceptions_priorities h_counter q_memory_size n_memory_words c_asleep c_locked c_next s2 (upd c_registers y1.toNatClampNeg v3) c_flags_negative c_flags_zero c_flags_carry c_flags_overflow c_exceptions_pending c_exceptions_active c_exceptions_current c_exceptions_masked c_exceptions_priorities c_counter_number c_counter_reload c_counter_on) := hD
      refine lv_iconst (v := 1) hx hb d_ThumbCore_storeMany_78 (by decide) ?_
      exact RET H locs ls 79 (true, s2, (upd c_registers y1.toNatClampNeg v3)) d_ThumbCore_storeMany_79 hP hD hS hq
    · have hq := hq.trans (if_neg (fun g => g g_56))
      refine lv_iconst (v := 0) hx hb d_ThumbCore_storeMany_59 (by decide) ?_
      exact RET H locs ls 60 (false, c_memory_words, c_registers) d_ThumbCore_storeMany_60 hP hD hS hq
  have J_38 : ∀ (H : Heap) (locs : List Loc) (ls : Array Slot) (c_memory_words : Nat → Int32) (c_registers : Nat → Int32) (y1 : Int32) (y2 : Int32) (y3 : Int32) (y4 : Bool) (z0 : Bool), va_P D tcl (wd_ThumbCore cI cB cZ h h_memory h_memory_words h_registers h_flags h_exceptions h_exceptions_priorities h_counter q_memory_size n_memory_words c_asleep c_locked c_next c_memory_words c_registers c_flags_negative c_flags_zero c_flags_carry c_flags_overflow c_exceptions_pending c_exceptions_active c_exceptions_current c_exceptions_masked c_exceptions_priorities c_counter_number c_counter_reload c_counter_on) H → va_D A (wd_ThumbCore cI cB cZ h h_memory h_memory_words h_registers h_flags h_exceptions h_exceptions_priorities h_counter q_memory_size n_memory_words c_asleep c_locked c_next c_memory_words c_registers c_flags_negative c_flags_zero c_flags_carry c_flags_overflow c_exceptions_pending c_exceptions_active c_exceptions_current c_exceptions_masked c_exceptions_priorities c_counter_number c_counter_reload c_counter_on) → va_S A s.heap H locs → lv_has ls 6 [(0, .ref h), (1, .int y1), (2, .int y2), (3, .int y3), (4, .int (bI y4))] → FF = k_ThumbCore_storeMany_38 q_memory_size c_memory_words c_registers y1 y2 y3 y4 z0 → (vp_in y1 16) → (tc_cl y2) → W p l e rm_ThumbCore_storeMany s m ([.ref h, .int x1, .int x2] : List Value).toArray below meth c H locs 0 0 Q (F0 m 38 ls [.int (bI z0)]) := by
    intro H locs ls c_memory_words c_registers y1 y2 y3 y4 z0 hP hD hS hl hq hi_y1 hc
    refine lv_istore (lv' := [(5, .int (bI z0)), (0, .ref h), (1, .int y1), (2, .int y2), (3, .int y3), (4, .int (bI y4))]) hx hb d_ThumbCore_storeMany_38 hl (by decide) rfl (fun ls hl => ?_)
    refine lv_iload hx hb d_ThumbCore_storeMany_40 (lv_at hl 5 rfl) ?_
    refine lv_if_eq (tgt := 50) hx hb d_ThumbCore_storeMany_42 (by decide) (fun g_42 => ?_) (fun g_42 => ?_)
    · have hq := hq.trans (if_pos g_42)
      exact J_50 H locs ls c_memory_words c_registers y1 y2 y3 hP hD hS (lv_sub hl [1, 2, 3, 4] rfl) hq hi_y1 (by assumption)
    · have hq := hq.trans (if_neg g_42)
      refine lv_iload hx hb d_ThumbCore_storeMany_45 (lv_at hl 0 rfl) ?_
      refine lv_if_ne (tgt := 59) hx hb d_ThumbCore_storeMany_47 (by decide) (fun g_47 => ?_) (fun g_47 => ?_)
      · have hq := hq.trans (if_pos g_47)
        refine lv_iconst (v := 0) hx hb d_ThumbCore_storeMany_59 (by decide) ?_
        exact RET H locs ls 60 (false, c_memory_words, c_registers) d_ThumbCore_storeMany_60 hP hD hS hq
      · have hq := hq.trans (if_neg (fun g => g g_47))
        exact J_50 H locs ls c_memory_words c_registers y1 y2 y3 hP hD hS (lv_sub hl [1, 2, 3, 4] rfl) hq hi_y1 (by assumption)
  have J_21 : ∀ (H : Heap) (locs : List Loc) (ls : Array Slot) (c_memory_words : Nat → Int32) (c_registers : Nat → Int32) (y1 : Int32) (y2 : Int32) (y3 : Int32) (z0 : Bool), va_P D tcl (wd_ThumbCore cI cB cZ h h_memory h_memory_words h_registers h_flags h_exceptions h_exceptions_priorities h_counter q_memory_size n_memory_words c_asleep c_locked c_next c_memory_words c_registers c_flags_negative c_flags_zero c_flags_carry c_flags_overflow c_exceptions_pending c_exceptions_active c_exceptions_current c_exceptions_masked c_exceptions_priorities c_counter_number c_counter_reload c_counter_on) H → va_D A (wd_ThumbCore cI cB cZ h h_memory h_memory_words h_registers h_flags h_exceptions h_exceptions_priorities h_counter q_memory_size n_memory_words c_asleep c_locked c_next c_memory_words c_registers c_flags_negative c_flags_zero c_flags_carry c_flags_overflow c_exceptions_pending c_exceptions_active c_exceptions_current c_exceptions_masked c_exceptions_priorities c_counter_number c_counter_reload c_counter_on) → va_S A s.heap H locs → lv_has ls 6 [(0, .ref h), (1, .int y1), (2, .int y2), (3, .int y3)] → FF = k_ThumbCore_storeMany_21 q_memory_size c_memory_words c_registers y1 y2 y3 z0 → (vp_in y1 16) → (tc_cl y2) → W p l e rm_ThumbCore_storeMany s m ([.ref h, .int x1, .int x2] : List Value).toArray below meth c H locs 0 0 Q (F0 m 21 ls [.int (bI z0)]) := by
    intro H locs ls c_memory_words c_registers y1 y2 y3 z0 hP hD hS hl hq hi_y1 hc
    refine lv_istore (lv' := [(4, .int (bI z0)), (0, .ref h), (1, .int y1), (2, .int y2), (3, .int y3)]) hx hb d_ThumbCore_storeMany_21 hl (by decide) rfl (fun ls hl => ?_)
    refine lv_iload_n hx hb d_ThumbCore_storeMany_23 rfl (lv_at hl 3 rfl) ?_
    refine lv_iconst (v := 1) hx hb d_ThumbCore_storeMany_24 (by decide) ?_
    refine lv_iload_n hx hb d_ThumbCore_storeMany_25 rfl (lv_at hl 2 rfl) ?_
    refine lv_ishl hx hb d_ThumbCore_storeMany_26 ?_
    refine lv_iconst (v := 1) hx hb d_ThumbCore_storeMany_27 (by decide) ?_
    refine lv_isub hx hb d_ThumbCore_storeMany_28 ?_
    refine lv_iand hx hb d_ThumbCore_storeMany_29 ?_
    refine lv_if_eq (tgt := 37) hx hb d_ThumbCore_storeMany_30 (by decide) (fun g_30 => ?_) (fun g_30 => ?_)
    · have hq := hq.trans (if_pos g_30)
      refine lv_iconst (v := 0) hx hb d_ThumbCore_storeMany_37 (by decide) ?_
      exact J_38 H locs ls c_memory_words c_registers y1 y2 y3 z0 false hP hD hS (lv_sub hl [1, 2, 3, 4, 0] rfl) hq hi_y1 (by assumption)
    · have hq := hq.trans (if_neg g_30)
      refine lv_iconst (v := 1) hx hb d_ThumbCore_storeMany_33 (by decide) ?_
      refine lv_goto (tgt := 38) hx hb d_ThumbCore_storeMany_34 (by decide) ?_
      exact J_38 H locs ls c_memory_words c_registers y1 y2 y3 z0 true hP hD hS (lv_sub hl [1, 2, 3, 4, 0] rfl) hq hi_y1 (by assumption)
  have hq : FF = f_ThumbCore_storeMany q_memory_size c_memory_words c_registers x1 x2 := hF.symm
  revert hP hD hS
  suffices G : ∀ (H : Heap) (locs : List Loc), va_P D tcl (wd_ThumbCore cI cB cZ h h_memory h_memory_words h_registers h_flags h_exceptions h_exceptions_priorities h_counter q_memory_size n_memory_words c_asleep c_locked c_next c_memory_words c_registers c_flags_negative c_flags_zero c_flags_carry c_flags_overflow c_exceptions_pending c_exceptions_active c_exceptions_current c_exceptions_masked c_exceptions_priorities c_counter_number c_counter_reload c_counter_on) H → va_D A (wd_ThumbCore cI cB cZ h h_memory h_memory_words h_registers h_flags h_exceptions h_exceptions_priorities h_counter q_memory_size n_memory_words c_asleep c_locked c_next c_memory_words c_registers c_flags_negative c_flags_zero c_flags_carry c_flags_overflow c_exceptions_pending c_exceptions_active c_exceptions_current c_exceptions_masked c_exceptions_priorities c_counter_number c_counter_reload c_counter_on) → va_S A s.heap H locs → W p l e rm_ThumbCore_storeMany s m ([.ref h, .int x1, .int x2] : List Value).toArray below meth c H locs 0 0 Q (F0 m 0 ls []) from fun hP hD hS => G _ _ hP hD hS
  intro H locs hP hD hS
  refine lv_aload_n hx hb d_ThumbCore_storeMany_0 rfl (lv_at hl 0 rfl) ?_
  refine va_get (D := D) (ci := 4) (v := .ref h_registers) (C := R_ThumbCore) (T := F_ThumbCore) (N := 8) hx hb hts u_ThumbCore hown hK hP 0 rfl rfl 1 (by decide) (hts _ wf_ThumbCore_27) (fun _ h9 => h9) rfl d_ThumbCore_storeMany_1 ?_
  refine lv_iload_n hx hb d_ThumbCore_storeMany_4 rfl (lv_at hl 1 rfl) ?_
  refine va_iald hx hb hK hP 3 0 rfl rfl hi_x1 d_ThumbCore_storeMany_5 ?_
  refine lv_topi (fun v1 e_v1 => ?_)
  have hq := tc_nm hq e_v1
  refine lv_istore_n (lv' := [(3, .int v1), (0, .ref h), (1, .int x1), (2, .int x2)]) hx hb d_ThumbCore_storeMany_6 rfl hl (by decide) rfl (fun ls hl => ?_)
  refine lv_iload_n hx hb d_ThumbCore_storeMany_7 rfl (lv_at hl 3 rfl) ?_
  refine lv_iload_n hx hb d_ThumbCore_storeMany_8 rfl (lv_at hl 2 rfl) ?_
  refine lv_iushr (v := (o_iushr x2 x1)) hx hb d_ThumbCore_storeMany_9 rfl ?_
  refine lv_iconst (v := 1) hx hb d_ThumbCore_storeMany_10 (by decide) ?_
  refine lv_iand hx hb d_ThumbCore_storeMany_11 ?_
  refine lv_iconst (v := 1) hx hb d_ThumbCore_storeMany_12 (by decide) ?_
  refine lv_icmp_ne (tgt := 20) hx hb d_ThumbCore_storeMany_13 (by decide) (fun g_13 => ?_) (fun g_13 => ?_)
  · have hq := hq.trans (if_pos g_13)
    refine lv_iconst (v := 0) hx hb d_ThumbCore_storeMany_20 (by decide) ?_
    exact J_21 H locs ls c_memory_words c_registers x1 x2 v1 false hP hD hS (lv_sub hl [1, 2, 3, 0] rfl) hq hi_x1 (by assumption)
  · have hq := hq.trans (if_neg (fun g => g g_13))
    refine lv_iconst (v := 1) hx hb d_ThumbCore_storeMany_16 (by decide) ?_
    refine lv_goto (tgt := 21) hx hb d_ThumbCore_storeMany_17 (by decide) ?_
    exact J_21 H locs ls c_memory_words c_registers x1 x2 v1 true hP hD hS (lv_sub hl [1, 2, 3, 0] rfl) hq hi_x1 (by assumption)

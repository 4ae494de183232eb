abbrev wd_Flags (cI cB cZ : ClassId) (h : Nat) (c_negative : Bool) (c_zero : Bool) (c_carry : Bool) (c_overflow : Bool) : va_W := [(h, .inr (2, [.int (bI c_negative), .int (bI c_zero), .int (bI c_carry), .int (bI c_overflow)]))]
abbrev rm_Flags_bits : Room := { frames := 1, cells := 0, slots := 0, locals := 24 }
set_option maxHeartbeats 4000000 in
set_option maxRecDepth 100000 in
theorem c_Flags_bits (l : Launch) (D : va_G) (cI cB cZ : ClassId) (h sz : Nat) (c_negative : Bool) (c_zero : Bool) (c_carry : Bool) (c_overflow : Bool) : Met l y_Flags_bits (.code y_Flags_bits b_Flags_bits 1 (some .int) :: tcb) rm_Flags_bits (tc_Pw D tcl (tys cI cB cZ) (wd_Flags cI cB cZ h c_negative c_zero c_carry c_overflow) sz ([.ref h] : List Value) none) (QcRead (f_Flags_bits c_negative c_zero c_carry c_overflow)) 0 0 (fun _ => False) := by
  refine tc_rd_i (by decide) (Nat.le_of_ble_eq_true rfl) ?_
  intro p e s m below meth c Q ls hx hb hml hts hown hK hN hP hD hl RET
  have hl : lv_has ls 1 [(0, .ref h)] := hl
  generalize hF : f_Flags_bits c_negative c_zero c_carry c_overflow = FF at RET
  have J_40 : ∀ (ls : Array Slot) (z0 : Int32) (z1 : Int32), lv_has ls 1 [(0, .ref h)] → FF = k_Flags_bits_40 c_negative c_zero c_carry c_overflow z0 z1 → W p l e rm_Flags_bits s m ([.ref h] : List Value).toArray below meth c s.heap [] 0 0 Q (F0 m 40 ls [.int z1, .int z0]) := by
    intro ls z0 z1 hl hq
    refine lv_ior hx hb d_Flags_bits_40 ?_
    refine lv_aload_n hx hb d_Flags_bits_41 rfl (lv_at hl 0 rfl) ?_
    refine va_get (D := D) (ci := 2) (v := .int (bI c_overflow)) (C := R_Flags) (T := F_Flags) (N := 4) hx hb hts u_Flags hown hK hP 0 rfl rfl 3 (by decide) (hts _ wf_Flags_22) (fun _ h9 => h9) rfl d_Flags_bits_42 ?_
    refine lv_if_eq (tgt := 53) hx hb d_Flags_bits_45 (by decide) (fun g_45 => ?_) (fun g_45 => ?_)
    · have hq := hq.trans (if_pos g_45)
      refine lv_iconst (v := 0) hx hb d_Flags_bits_53 (by decide) ?_
      refine lv_ior hx hb d_Flags_bits_54 ?_
      exact RET ls 55 d_Flags_bits_55 hq
    · have hq := hq.trans (if_neg g_45)
      refine lv_ldc (v := 268435456) hx hb hown (hts _ wk_Flags_25) d_Flags_bits_48 ?_
      refine lv_goto (tgt := 54) hx hb d_Flags_bits_50 (by decide) ?_
      refine lv_ior hx hb d_Flags_bits_54 ?_
      exact RET ls 55 d_Flags_bits_55 hq
  have J_26 : ∀ (ls : Array Slot) (z0 : Int32) (z1 : Int32), lv_has ls 1 [(0, .ref h)] → FF = k_Flags_bits_26 c_negative c_zero c_carry c_overflow z0 z1 → W p l e rm_Flags_bits s m ([.ref h] : List Value).toArray below meth c s.heap [] 0 0 Q (F0 m 26 ls [.int z1, .int z0]) := by
    intro ls z0 z1 hl hq
    refine lv_ior hx hb d_Flags_bits_26 ?_
    refine lv_aload_n hx hb d_Flags_bits_27 rfl (lv_at hl 0 rfl) ?_
    refine va_get (D := D) (ci := 2) (v := .int (bI c_carry)) (C := R_Flags) (T := F_Flags) (N := 4) hx hb hts u_Flags hown hK hP 0 rfl rfl 2 (by decide) (hts _ wf_Flags_18) (fun _ h9 => h9) rfl d_Flags_bits_28 ?_
    refine lv_if_eq (tgt := 39) hx hb d_Flags_bits_31 (by decide) (fun g_31 => ?_) (fun g_31 => ?_)
    · have hq := hq.trans (if_pos g_31)
      refine lv_iconst (v := 0) hx hb d_Flags_bits_39 (by decide) ?_
      exact J_40 ls (z0 ||| z1) 0 (lv_sub hl [0] rfl) hq
    · have hq := hq.trans (if_neg g_31)
      refine lv_ldc (v := 536870912) hx hb hown (hts _ wk_Flags_21) d_Flags_bits_34 ?_
      refine lv_goto (tgt := 40) hx hb d_Flags_bits_36 (by decide) ?_
      exact J_40 ls (z0 ||| z1) 536870912 (lv_sub hl [0] rfl) hq
  have J_13 : ∀ (ls : Array Slot) (z0 : Int32), lv_has ls 1 [(0, .ref h)] → FF = k_Flags_bits_13 c_negative c_zero c_carry c_overflow z0 → W p l e rm_Flags_bits s m ([.ref h] : List Value).toArray below meth c s.heap [] 0 0 Q (F0 m 13 ls [.int z0]) := by
    intro ls z0 hl hq
    refine lv_aload_n hx hb d_Flags_bits_13 rfl (lv_at hl 0 rfl) ?_
    refine va_get (D := D) (ci := 2) (v := .int (bI c_zero)) (C := R_Flags) (T := F_Flags) (N := 4) hx hb hts u_Flags hown hK hP 0 rfl rfl 1 (by decide) (hts _ wf_Flags_14) (fun _ h9 => h9) rfl d_Flags_bits_14 ?_
    refine lv_if_eq (tgt := 25) hx hb d_Flags_bits_17 (by decide) (fun g_17 => ?_) (fun g_17 => ?_)
    · have hq := hq.trans (if_pos g_17)
      refine lv_iconst (v := 0) hx hb d_Flags_bits_25 (by decide) ?_
      exact J_26 ls z0 0 (lv_sub hl [0] rfl) hq
    · have hq := hq.trans (if_neg g_17)
      refine lv_ldc (v := 1073741824) hx hb hown (hts _ wk_Flags_17) d_Flags_bits_20 ?_
      refine lv_goto (tgt := 26) hx hb d_Flags_bits_22 (by decide) ?_
      exact J_26 ls z0 1073741824 (lv_sub hl [0] rfl) hq
  have hq : FF = f_Flags_bits c_negative c_zero c_carry c_overflow := hF.symm
  refine lv_aload_n hx hb d_Flags_bits_0 rfl (lv_at hl 0 rfl) ?_
  refine va_get (D := D) (ci := 2) (v := .int (bI c_negative)) (C := R_Flags) (T := F_Flags) (N := 4) hx hb hts u_Flags hown hK hP 0 rfl rfl 0 (by decide) (hts _ wf_Flags_7) (fun _ h9 => h9) rfl d_Flags_bits_1 ?_
  refine lv_if_eq (tgt := 12) hx hb d_Flags_bits_4 (by decide) (fun g_4 => ?_) (fun g_4 => ?_)
  · have hq := hq.trans (if_pos g_4)
    refine lv_iconst (v := 0) hx hb d_Flags_bits_12 (by decide) ?_
    exact J_13 ls 0 (lv_sub hl [0] rfl) hq
  · have hq := hq.trans (if_neg g_4)
    refine lv_ldc (v := (-2147483648)) hx hb hown (hts _ wk_Flags_13) d_Flags_bits_7 ?_
    refine lv_goto (tgt := 13) hx hb d_Flags_bits_9 (by decide) ?_
    exact J_13 ls (-2147483648) (lv_sub hl [0] rfl) hq
abbrev rm_Flags_take : Room := { frames := 1, cells := 0, slots := 0, locals := 24 }
set_option maxHeartbeats 4000000 in
set_option maxRecDepth 100000 in
theorem c_Flags_take (l : Launch) (D : va_G) (cI cB cZ : ClassId) (h sz : Nat) (c_negative : Bool) (c_zero : Bool) (c_carry : Bool) (c_overflow : Bool) (x1 : Int32) : Met l y_Flags_take (.code y_Flags_take b_Flags_take 2 none :: tcb) rm_Flags_take (tc_Pw D tcl (tys cI cB cZ) (wd_Flags cI cB cZ h c_negative c_zero c_carry c_overflow) sz ([.ref h, .int x1] : List Value) none) (tc_Qv D tcl (wd_Flags cI cB cZ h c_negative c_zero c_carry c_overflow) sz (fun u => (wd_Flags cI cB cZ h u.1 u.2.1 u.2.2.1 u.2.2.2)) (f_Flags_take c_negative c_zero c_carry c_overflow x1)) 0 0 (va_A (wd_Flags cI cB cZ h c_negative c_zero c_carry c_overflow) sz) := by
  refine tc_mu_v (by decide) (Nat.le_of_ble_eq_true rfl) ?_
  intro p e s m below meth c A Q ls hx hb hml hts hown hK hN hP hD hA hZ hl RET
  have hS : va_S A s.heap s.heap [] := va_S.rf
  have hl : lv_has ls 2 [(0, .ref h), (1, .int x1)] := hl
  generalize hF : f_Flags_take c_negative c_zero c_carry c_overflow x1 = FF at RET
  have J_67 : ∀ (H : Heap) (locs : List Loc) (ls : Array Slot) (c_negative : Bool) (c_zero : Bool) (c_carry : Bool) (c_overflow : Bool) (z1 : Bool), va_P D tcl (wd_Flags cI cB cZ h c_negative c_zero c_carry c_overflow) H → va_D A (wd_Flags cI cB cZ h c_negative c_zero c_carry c_overflow) → va_S A s.heap H locs → lv_has ls 2 [] → FF = k_Flags_take_67 c_negative c_zero c_carry c_overflow z1 → W p l e rm_Flags_take s m ([.ref h, .int x1] : List Value).toArray below meth c H locs 0 0 Q (F0 m 67 ls [.int (bI z1), .ref h]) := by
    intro H locs ls c_negative c_zero c_carry c_overflow z1 hP hD hS hl hq
    refine va_put (D := D) (ci := 2) (v := .int (bI z1)) (ty := .boolean) (C := R_Flags) (T := F_Flags) (N := 4) hx hb hts u_Flags t_Flags t_Flags_ok n_Flags hown hK hP hD hS 0 rfl rfl 3 (by decide) (hts _ wf_Flags_22) (fun _ h9 => h9) rfl (by decide +kernel) (tc_nb z1) (tc_fb z1) (Nat.le_of_ble_eq_true rfl) d_Flags_take_67 (fun H locs hP hD hS => ?_)
    have hP : va_P D tcl (wd_Flags cI cB cZ h c_negative c_zero c_carry z1) H := hP
    have hD : va_D A (wd_Flags cI cB cZ h c_negative c_zero c_carry z1) := hD
    exact RET H locs ls 70 (c_negative, c_zero, c_carry, z1) d_Flags_take_70 hP hD hS hq
  have J_48 : ∀ (H : Heap) (locs : List Loc) (ls : Array Slot) (c_negative : Bool) (c_zero : Bool) (c_carry : Bool) (c_overflow : Bool) (y1 : Int32) (z1 : Bool), va_P D tcl (wd_Flags cI cB cZ h c_negative c_zero c_carry c_overflow) H → va_D A (wd_Flags cI cB cZ h c_negative c_zero c_carry c_overflow) → va_S A s.heap H locs → lv_has ls 2 [(0, .ref h), (1, .int y1)] → FF = k_Flags_take_48 c_negative c_zero c_carry c_overflow y1 z1 → W p l e rm_Flags_take s m ([.ref h, .int x1] : List Value).toArray below meth c H locs 0 0 Q (F0 m 48 ls [.int (bI z1), .ref h]) := by
    intro H locs ls c_negative c_zero c_carry c_overflow y1 z1 hP hD hS hl hq
    refine va_put (D := D) (ci := 2) (v := .int (bI z1)) (ty := .boolean) (C := R_Flags) (T := F_Flags) (N := 4) hx hb hts u_Flags t_Flags t_Flags_ok n_Flags hown hK hP hD hS 0 rfl rfl 2 (by decide) (hts _ wf_Flags_18) (fun _ h9 => h9) rfl (by decide +kernel) (tc_nb z1) (tc_fb z1) (Nat.le_of_ble_eq_true rfl) d_Flags_take_48 (fun H locs hP hD hS => ?_)
    have hP : va_P D tcl (wd_Flags cI cB cZ h c_negative c_zero z1 c_overflow) H := hP
    have hD : va_D A (wd_Flags cI cB cZ h c_negative c_zero z1 c_overflow) := hD
    refine lv_aload_n hx hb d_Flags_take_51 rfl (lv_at hl 0 rfl) ?_
    refine lv_iload_n hx hb d_Flags_take_52 rfl (lv_at hl 1 rfl) ?_
    refine lv_bipush (v := 28) hx hb d_Flags_take_53 (by decide) ?_
    refine lv_iushr (v := (o_iushr y1 28)) hx hb d_Flags_take_55 rfl ?_
    refine lv_iconst (v := 1) hx hb d_Flags_take_56 (by decide) ?_
    refine lv_iand hx hb d_Flags_take_57 ?_
    refine lv_iconst (v := 1) hx hb d_Flags_take_58 (by decide) ?_
    refine lv_icmp_ne (tgt := 66) hx hb d_Flags_take_59 (by decide) (fun g_59 => ?_) (fun g_59 => ?_)
    · have hq := hq.trans (if_pos g_59)
      refine lv_iconst (v := 0) hx hb d_Flags_take_66 (by decide) ?_
      exact J_67 H locs ls c_negative c_zero z1 c_overflow false hP hD hS (lv_sub hl [] rfl) hq
    · have hq := hq.trans (if_neg (fun g => g g_59))
      refine lv_iconst (v := 1) hx hb d_Flags_take_62 (by decide) ?_
      refine lv_goto (tgt := 67) hx hb d_Flags_take_63 (by decide) ?_
      exact J_67 H locs ls c_negative c_zero z1 c_overflow true hP hD hS (lv_sub hl [] rfl) hq
  have J_29 : ∀ (H : Heap) (locs : List Loc) (ls : Array Slot) (c_negative : Bool) (c_zero : Bool) (c_carry : Bool) (c_overflow : Bool) (y1 : Int32) (z1 : Bool), va_P D tcl (wd_Flags cI cB cZ h c_negative c_zero c_carry c_overflow) H → va_D A (wd_Flags cI cB cZ h c_negative c_zero c_carry c_overflow) → va_S A s.heap H locs → lv_has ls 2 [(0, .ref h), (1, .int y1)] → FF = k_Flags_take_29 c_negative c_zero c_carry c_overflow y1 z1 → W p l e rm_Flags_take s m ([.ref h, .int x1] : List Value).toArray below meth c H locs 0 0 Q (F0 m 29 ls [.int (bI z1), .ref h]) := by
    intro H locs ls c_negative c_zero c_carry c_overflow y1 z1 hP hD hS hl hq
    refine va_put (D := D) (ci := 2) (v := .int (bI z1)) (ty := .boolean) (C := R_Flags) (T := F_Flags) (N := 4) hx hb hts u_Flags t_Flags t_Flags_ok n_Flags hown hK hP hD hS 0 rfl rfl 1 (by decide) (hts _ wf_Flags_14) (fun _ h9 => h9) rfl (by decide +kernel) (tc_nb z1) (tc_fb z1) (Nat.le_of_ble_eq_true rfl) d_Flags_take_29 (fun H locs hP hD hS => ?_)
    have hP : va_P D tcl (wd_Flags cI cB cZ h c_negative z1 c_carry c_overflow) H := hP
    have hD : va_D A (wd_Flags cI cB cZ h c_negative z1 c_carry c_overflow) := hD
    refine lv_aload_n hx hb d_Flags_take_32 rfl (lv_at hl 0 rfl) ?_
    refine lv_iload_n hx hb d_Flags_take_33 rfl (lv_at hl 1 rfl) ?_
    refine lv_bipush (v := 29) hx hb d_Flags_take_34 (by decide) ?_
    refine lv_iushr (v := (o_iushr y1 29)) hx hb d_Flags_take_36 rfl ?_
    refine lv_iconst (v := 1) hx hb d_Flags_take_37 (by decide) ?_
    refine lv_iand hx hb d_Flags_take_38 ?_
    refine lv_iconst (v := 1) hx hb d_Flags_take_39 (by decide) ?_
    refine lv_icmp_ne (tgt := 47) hx hb d_Flags_take_40 (by decide) (fun g_40 => ?_) (fun g_40 => ?_)
    · have hq := hq.trans (if_pos g_40)
      refine lv_iconst (v := 0) hx hb d_Flags_take_47 (by decide) ?_
      exact J_48 H locs ls c_negative z1 c_carry c_overflow y1 false hP hD hS (lv_sub hl [0, 1] rfl) hq
    · have hq := hq.trans (if_neg (fun g => g g_40))
      refine lv_iconst (v := 1) hx hb d_Flags_take_43 (by decide) ?_
      refine lv_goto (tgt := 48) hx hb d_Flags_take_44 (by decide) ?_
      exact J_48 H locs ls c_negative z1 c_carry c_overflow y1 true hP hD hS (lv_sub hl [0, 1] rfl) hq
  have J_10 : ∀ (H : Heap) (locs : List Loc) (ls : Array Slot) (c_negative : Bool) (c_zero : Bool) (c_carry : Bool) (c_overflow : Bool) (y1 : Int32) (z1 : Bool), va_P D tcl (wd_Flags cI cB cZ h c_negative c_zero c_carry c_overflow) H → va_D A (wd_Flags cI cB cZ h c_negative c_zero c_carry c_overflow) → va_S A s.heap H locs → lv_has ls 2 [(0, .ref h), (1, .int y1)] → FF = k_Flags_take_10 c_negative c_zero c_carry c_overflow y1 z1 → W p l e rm_Flags_take s m ([.ref h, .int x1] : List Value).toArray below meth c H locs 0 0 Q (F0 m 10 ls [.int (bI z1), .ref h]) := by
    intro H locs ls c_negative c_zero c_carry c_overflow y1 z1 hP hD hS hl hq
    refine va_put (D := D) (ci := 2) (v := .int (bI z1)) (ty := .boolean) (C := R_Flags) (T := F_Flags) (N := 4) hx hb hts u_Flags t_Flags t_Flags_ok n_Flags hown hK hP hD hS 0 rfl rfl 0 (by decide) (hts _ wf_Flags_7) (fun _ h9 => h9) rfl (by decide +kernel) (tc_nb z1) (tc_fb z1) (Nat.le_of_ble_eq_true rfl) d_Flags_take_10 (fun H locs hP hD hS => ?_)
    have hP : va_P D tcl (wd_Flags cI cB cZ h z1 c_zero c_carry c_overflow) H := hP
    have hD : va_D A (wd_Flags cI cB cZ h z1 c_zero c_carry c_overflow) := hD
    refine lv_aload_n hx hb d_Flags_take_13 rfl (lv_at hl 0 rfl) ?_
    refine lv_iload_n hx hb d_Flags_take_14 rfl (lv_at hl 1 rfl) ?_
    refine lv_bipush (v := 30) hx hb d_Flags_take_15 (by decide) ?_
    refine lv_iushr (v := (o_iushr y1 30)) hx hb d_Flags_take_17 rfl ?_
    refine lv_iconst (v := 1) hx hb d_Flags_take_18 (by decide) ?_
    refine lv_iand hx hb d_Flags_take_19 ?_
    refine lv_iconst (v := 1) hx hb d_Flags_take_20 (by decide) ?_
    refine lv_icmp_ne (tgt := 28) hx hb d_Flags_take_21 (by decide) (fun g_21 => ?_) (fun g_21 => ?_)
    · have hq := hq.trans (if_pos g_21)
      refine lv_iconst (v := 0) hx hb d_Flags_take_28 (by decide) ?_
      exact J_29 H locs ls z1 c_zero c_carry c_overflow y1 false hP hD hS (lv_sub hl [0, 1] rfl) hq
    · have hq := hq.trans (if_neg (fun g => g g_21))
      refine lv_iconst (v := 1) hx hb d_Flags_take_24 (by decide) ?_
      refine lv_goto (tgt := 29) hx hb d_Flags_take_25 (by decide) ?_
      exact J_29 H locs ls z1 c_zero c_carry c_overflow y1 true hP hD hS (lv_sub hl [0, 1] rfl) hq
  have hq : FF = f_Flags_take c_negative c_zero c_carry c_overflow x1 := hF.symm
  revert hP hD hS
  suffices G : ∀ (H : Heap) (locs : List Loc), va_P D tcl (wd_Flags cI cB cZ h c_negative c_zero c_carry c_overflow) H → va_D A (wd_Flags cI cB cZ h c_negative c_zero c_carry c_overflow) → va_S A s.heap H locs → W p l e rm_Flags_take s m ([.ref h, .int x1] : List Value).toArray below meth c H locs 0 0 Q (F0 m 0 ls []) from fun hP hD hS => G _ _ hP hD hS
  intro H locs hP hD hS
  refine lv_aload_n hx hb d_Flags_take_0 rfl (lv_at hl 0 rfl) ?_
  refine lv_iload_n hx hb d_Flags_take_1 rfl (lv_at hl 1 rfl) ?_
  refine lv_if_ge (tgt := 9) hx hb d_Flags_take_2 (by decide) (fun g_2 => ?_) (fun g_2 => ?_)
  · have hq := hq.trans (if_pos g_2)
    refine lv_iconst (v := 0) hx hb d_Flags_take_9 (by decide) ?_
    exact J_10 H locs ls c_negative c_zero c_carry c_overflow x1 false hP hD hS (lv_sub hl [0, 1] rfl) hq
  · have hq := hq.trans (if_neg g_2)
    refine lv_iconst (v := 1) hx hb d_Flags_take_5 (by decide) ?_
    refine lv_goto (tgt := 10) hx hb d_Flags_take_6 (by decide) ?_
    exact J_10 H locs ls c_negative c_zero c_carry c_overflow x1 true hP hD hS (lv_sub hl [0, 1] rfl) hq
abbrev rm_Flags_mark : Room := { frames := 1, cells := 0, slots := 0, locals := 24 }
set_option maxHeartbeats 4000000 in
set_option maxRecDepth 100000 in
theorem c_Flags_mark (l : Launch) (D : va_G) (cI cB cZ : ClassId) (h sz : Nat) (c_negative : Bool) (c_zero : Bool) (c_carry : Bool) (c_overflow : Bool) (x1 : Int32) : Met l y_Flags_mark (.code y_Flags_mark b_Flags_mark 2 (some .int) :: tcb) rm_Flags_mark (tc_Pw D tcl (tys cI cB cZ) (wd_Flags cI cB cZ h c_negative c_zero c_carry c_overflow) sz ([.ref h, .int x1] : List Value) none) (tc_Qi D tcl (wd_Flags cI cB cZ h c_negative c_zero c_carry c_overflow) sz (fun u => (wd_Flags cI cB cZ h u.2.1 u.2.2 c_carry c_overflow)) (f_Flags_mark c_negative c_zero x1)) 0 0 (va_A (wd_Flags cI cB cZ h c_negative c_zero c_carry c_overflow) sz) := by
  refine tc_mu_i (by decide) (Nat.le_of_ble_eq_true rfl) ?_
  intro p e s m below meth c A Q ls hx hb hml hts hown hK hN hP hD hA hZ hl RET
  have hS : va_S A s.heap s.heap [] := va_S.rf
  have hl : lv_has ls 2 [(0, .ref h), (1, .int x1)] := hl
  generalize hF : f_Flags_mark c_negative c_zero x1 = FF at RET
  have J_23 : ∀ (H : Heap) (locs : List Loc) (ls : Array Slot) (c_negative : Bool) (c_zero : Bool) (y1 : Int32) (z1 : Bool), va_P D tcl (wd_Flags cI cB cZ h c_negative c_zero c_carry c_overflow) H → va_D A (wd_Flags cI cB cZ h c_negative c_zero c_carry c_overflow) → va_S A s.heap H locs → lv_has ls 2 [(1, .int y1)] → FF = k_Flags_mark_23 c_negative c_zero y1 z1 → W p l e rm_Flags_mark s m ([.ref h, .int x1] : List Value).toArray below meth c H locs 0 0 Q (F0 m 23 ls [.int (bI z1), .ref h]) := by
    intro H locs ls c_negative c_zero y1 z1 hP hD hS hl hq
    refine va_put (D := D) (ci := 2) (v := .int (bI z1)) (ty := .boolean) (C := R_Flags) (T := F_Flags) (N := 4) hx hb hts u_Flags t_Flags t_Flags_ok n_Flags hown hK hP hD hS 0 rfl rfl 1 (by decide) (hts _ wf_Flags_14) (fun _ h9 => h9) rfl (by decide +kernel) (tc_nb z1) (tc_fb z1) (Nat.le_of_ble_eq_true rfl) d_Flags_mark_23 (fun H locs hP hD hS => ?_)
    have hP : va_P D tcl (wd_Flags cI cB cZ h c_negative z1 c_carry c_overflow) H := hP
    have hD : va_D A (wd_Flags cI cB cZ h c_negative z1 c_carry c_overflow) := hD
    refine lv_iload_n hx hb d_Flags_mark_26 rfl (lv_at hl 0 rfl) ?_
    exact RET H locs ls 27 (y1, c_negative, z1) d_Flags_mark_27 hP hD hS hq
  have J_10 : ∀ (H : Heap) (locs : List Loc) (ls : Array Slot) (c_negative : Bool) (c_zero : Bool) (y1 : Int32) (z1 : Bool), va_P D tcl (wd_Flags cI cB cZ h c_negative c_zero c_carry c_overflow) H → va_D A (wd_Flags cI cB cZ h c_negative c_zero c_carry c_overflow) → va_S A s.heap H locs → lv_has ls 2 [(0, .ref h), (1, .int y1)] → FF = k_Flags_mark_10 c_negative c_zero y1 z1 → W p l e rm_Flags_mark s m ([.ref h, .int x1] : List Value).toArray below meth c H locs 0 0 Q (F0 m 10 ls [.int (bI z1), .ref h]) := by
    intro H locs ls c_negative c_zero y1 z1 hP hD hS hl hq
    refine va_put (D := D) (ci := 2) (v := .int (bI z1)) (ty := .boolean) (C := R_Flags) (T := F_Flags) (N := 4) hx hb hts u_Flags t_Flags t_Flags_ok n_Flags hown hK hP hD hS 0 rfl rfl 0 (by decide) (hts _ wf_Flags_7) (fun _ h9 => h9) rfl (by decide +kernel) (tc_nb z1) (tc_fb z1) (Nat.le_of_ble_eq_true rfl) d_Flags_mark_10 (fun H locs hP hD hS => ?_)
    have hP : va_P D tcl (wd_Flags cI cB cZ h z1 c_zero c_carry c_overflow) H := hP
    have hD : va_D A (wd_Flags cI cB cZ h z1 c_zero c_carry c_overflow) := hD
    refine lv_aload_n hx hb d_Flags_mark_13 rfl (lv_at hl 0 rfl) ?_
    refine lv_iload_n hx hb d_Flags_mark_14 rfl (lv_at hl 1 rfl) ?_
    refine lv_if_ne (tgt := 22) hx hb d_Flags_mark_15 (by decide) (fun g_15 => ?_) (fun g_15 => ?_)
    · have hq := hq.trans (if_pos g_15)
      refine lv_iconst (v := 0) hx hb d_Flags_mark_22 (by decide) ?_
      exact J_23 H locs ls z1 c_zero y1 false hP hD hS (lv_sub hl [1] rfl) hq
    · have hq := hq.trans (if_neg (fun g => g g_15))
      refine lv_iconst (v := 1) hx hb d_Flags_mark_18 (by decide) ?_
      refine lv_goto (tgt := 23) hx hb d_Flags_mark_19 (by decide) ?_
      exact J_23 H locs ls z1 c_zero y1 true hP hD hS (lv_sub hl [1] rfl) hq
  have hq : FF = f_Flags_mark c_negative c_zero x1 := hF.symm
  revert hP hD hS
  suffices G : ∀ (H : Heap) (locs : List Loc), va_P D tcl (wd_Flags cI cB cZ h c_negative c_zero c_carry c_overflow) H → va_D A (wd_Flags cI cB cZ h c_negative c_zero c_carry c_overflow) → va_S A s.heap H locs → W p l e rm_Flags_mark s m ([.ref h, .int x1] : List Value).toArray below meth c H locs 0 0 Q (F0 m 0 ls []) from fun hP hD hS => G _ _ hP hD hS
  intro H locs hP hD hS
  refine lv_aload_n hx hb d_Flags_mark_0 rfl (lv_at hl 0 rfl) ?_
  refine lv_iload_n hx hb d_Flags_mark_1 rfl (lv_at hl 1 rfl) ?_
  refine lv_if_ge (tgt := 9) hx hb d_Flags_mark_2 (by decide) (fun g_2 => ?_) (fun g_2 => ?_)
  · have hq := hq.trans (if_pos g_2)
    refine lv_iconst (v := 0) hx hb d_Flags_mark_9 (by decide) ?_
    exact J_10 H locs ls c_negative c_zero x1 false hP hD hS (lv_sub hl [0, 1] rfl) hq
  · have hq := hq.trans (if_neg g_2)
    refine lv_iconst (v := 1) hx hb d_Flags_mark_5 (by decide) ?_
    refine lv_goto (tgt := 10) hx hb d_Flags_mark_6 (by decide) ?_
    exact J_10 H locs ls c_negative c_zero x1 true hP hD hS (lv_sub hl [0, 1] rfl) hq
abbrev rm_Flags_add : Room := { frames := 2, cells := 0, slots := 0, locals := 45 }
set_option maxHeartbeats 4000000 in
set_option maxRecDepth 100000 in
theorem c_Flags_add (l : Launch) (D : va_G) (cI cB cZ : ClassId) (h sz : Nat) (c_negative : Bool) (c_zero : Bool) (c_carry : Bool) (c_overflow : Bool) (x1 : Int32) (x2 : Int32) (x3 : Int32) : Met l y_Flags_add (.code y_Flags_add b_Flags_add 9 (some .int) :: tcb) rm_Flags_add (tc_Pw D tcl (tys cI cB cZ) (wd_Flags cI cB cZ h c_negative c_zero c_carry c_overflow) sz ([.ref h, .int x1, .int x2, .int x3] : List Value) none) (tc_Qi D tcl (wd_Flags cI cB cZ h c_negative c_zero c_carry c_overflow) sz (fun u => (wd_Flags cI cB cZ h u.2.1 u.2.2.1 u.2.2.2.1 u.2.2.2.2)) (f_Flags_add c_negative c_zero c_carry c_overflow x1 x2 x3)) 0 0 (va_A (wd_Flags cI cB cZ h c_negative c_zero c_carry c_overflow) sz) := by
  refine tc_mu_i (by decide) (Nat.le_of_ble_eq_true rfl) ?_
  intro p e s m below meth c A Q ls hx hb hml hts hown hK hN hP hD hA hZ hl RET
  have hS : va_S A s.heap s.heap [] := va_S.rf
  have hl : lv_has ls 9 [(0, .ref h), (1, .int x1), (2, .int x2), (3, .int x3)] := hl
  generalize hF : f_Flags_add c_negative c_zero c_carry c_overflow x1 x2 x3 = FF at RET
  have J_67 : ∀ (H : Heap) (locs : List Loc) (ls : Array Slot) (c_negative : Bool) (c_zero : Bool) (c_carry : Bool) (c_overflow : Bool) (y8 : Int32) (z1 : Bool), va_P D tcl (wd_Flags cI cB cZ h c_negative c_zero c_carry c_overflow) H → va_D A (wd_Flags cI cB cZ h c_negative c_zero c_carry c_overflow) → va_S A s.heap H locs → lv_has ls 9 [(0, .ref h), (8, .int y8)] → FF = k_Flags_add_67 c_negative c_zero c_carry c_overflow y8 z1 → W p l e rm_Flags_add s m ([.ref h, .int x1, .int x2, .int x3] : List Value).toArray below meth c H locs 0 0 Q (F0 m 67 ls [.int (bI z1), .ref h]) := by
    intro H locs ls c_negative c_zero c_carry c_overflow y8 z1 hP hD hS hl hq
    refine va_put (D := D) (ci := 2) (v := .int (bI z1)) (ty := .boolean) (C := R_Flags) (T := F_Flags) (N := 4) hx hb hts u_Flags t_Flags t_Flags_ok n_Flags hown hK hP hD hS 0 rfl rfl 3 (by decide) (hts _ wf_Flags_22) (fun _ h9 => h9) rfl (by decide +kernel) (tc_nb z1) (tc_fb z1) (Nat.le_of_ble_eq_true rfl) d_Flags_add_67 (fun H locs hP hD hS => ?_)
    have hP : va_P D tcl (wd_Flags cI cB cZ h c_negative c_zero c_carry z1) H := hP
    have hD : va_D A (wd_Flags cI cB cZ h c_negative c_zero c_carry z1) := hD
    refine lv_aload_n hx hb d_Flags_add_70 rfl (lv_at hl 0 rfl) ?_
    refine lv_iload hx hb d_Flags_add_71 (lv_at hl 1 rfl) ?_
    refine tc_mi (wo := fun u => (wd_Flags cI cB cZ h u.2.1 u.2.2 c_carry z1)) (va_runV (As := [.int y8]) (rest := []) ⟨hx, hb, hml, hown, hts⟩ (c_Flags_mark l D cI cB cZ h H.size c_negative c_zero c_carry z1 y8) (cwV 1 hts (tc_gV wl_Flags_28 wm_Flags_mark ws_Flags_mark wi_Flags wc_Flags_mark) rfl rfl rfl (by decide +kernel) ⟨Nat.le_of_ble_eq_true rfl, Nat.le_of_ble_eq_true rfl⟩) (tc_preV hK hN hP hD [0] rfl (by decide) (q0 := 0) rfl rfl) rfl rfl hl.1 rfl (lv_room (Nat.le_of_ble_eq_true rfl)) d_Flags_add_73 (by decide)) hP hD hS hA [0] [] [0] rfl rfl (by decide) (by decide) (by decide) (fun _ => rfl) (fun u H locs hu hP hD hS => ?_)
    obtain ⟨r1, s2, s3⟩ := u
    have hq := hq.trans (un3_eq hu _)
    have e_r1 := hu
    have hP : va_P D tcl (wd_Flags cI cB cZ h s2 s3 c_carry z1) H := hP
    have hD : va_D A (wd_Flags cI cB cZ h s2 s3 c_carry z1) := hD
    refine W.eq (g2 := F0 m 76 ls [.int r1]) rfl ?_
    exact RET H locs ls 76 (r1, s2, s3, c_carry, z1) d_Flags_add_76 hP hD hS hq
  have J_49 : ∀ (H : Heap) (locs : List Loc) (ls : Array Slot) (c_negative : Bool) (c_zero : Bool) (c_carry : Bool) (c_overflow : Bool) (y6 : Int64) (y8 : Int32) (z1 : Bool), va_P D tcl (wd_Flags cI cB cZ h c_negative c_zero c_carry c_overflow) H → va_D A (wd_Flags cI cB cZ h c_negative c_zero c_carry c_overflow) → va_S A s.heap H locs → lv_has ls 9 [(0, .ref h), (6, .long y6), (8, .int y8)] → FF = k_Flags_add_49 c_negative c_zero c_carry c_overflow y6 y8 z1 → W p l e rm_Flags_add s m ([.ref h, .int x1, .int x2, .int x3] : List Value).toArray below meth c H locs 0 0 Q (F0 m 49 ls [.int (bI z1), .ref h]) := by
    intro H locs ls c_negative c_zero c_carry c_overflow y6 y8 z1 hP hD hS hl hq
    refine va_put (D := D) (ci := 2) (v := .int (bI z1)) (ty := .boolean) (C := R_Flags) (T := F_Flags) (N := 4) hx hb hts u_Flags t_Flags t_Flags_ok n_Flags hown hK hP hD hS 0 rfl rfl 2 (by decide) (hts _ wf_Flags_18) (fun _ h9 => h9) rfl (by decide +kernel) (tc_nb z1) (tc_fb z1) (Nat.le_of_ble_eq_true rfl) d_Flags_add_49 (fun H locs hP hD hS => ?_)
    have hP : va_P D tcl (wd_Flags cI cB cZ h c_negative c_zero z1 c_overflow) H := hP
    have hD : va_D A (wd_Flags cI cB cZ h c_negative c_zero z1 c_overflow) := hD
    refine lv_aload_n hx hb d_Flags_add_52 rfl (lv_at hl 0 rfl) ?_
    refine lv_lload hx hb d_Flags_add_53 (lv_at hl 1 rfl) ?_
    refine lv_iload hx hb d_Flags_add_55 (lv_at hl 2 rfl) ?_
    refine lv_i2l (v := y8.toInt64) hx hb d_Flags_add_57 rfl ?_
    refine W.lcmp hx hb d_Flags_add_58 ?_
    refine lv_if_eq (tgt := 66) hx hb d_Flags_add_59 (by decide) (fun g_59 => ?_) (fun g_59 => ?_)
    · have hq := hq.trans (if_pos g_59)
      refine lv_iconst (v := 0) hx hb d_Flags_add_66 (by decide) ?_
      exact J_67 H locs ls c_negative c_zero z1 c_overflow y8 false hP hD hS (lv_sub hl [0, 2] rfl) hq
    · have hq := hq.trans (if_neg g_59)
      refine lv_iconst (v := 1) hx hb d_Flags_add_62 (by decide) ?_
      refine lv_goto (tgt := 67) hx hb d_Flags_add_63 (by decide) ?_
      exact J_67 H locs ls c_negative c_zero z1 c_overflow y8 true hP hD hS (lv_sub hl [0, 2] rfl) hq
  have hq : FF = f_Flags_add c_negative c_zero c_carry c_overflow x1 x2 x3 := hF.symm
  revert hP hD hS
  suffices G : ∀ (H : Heap) (locs : List Loc), va_P D tcl (wd_Flags cI cB cZ h c_negative c_zero c_carry c_overflow) H → va_D A (wd_Flags cI cB cZ h c_negative c_zero c_carry c_overflow) → va_S A s.heap H locs → W p l e rm_Flags_add s m ([.ref h, .int x1, .int x2, .int x3] : List Value).toArray below meth c H locs 0 0 Q (F0 m 0 ls []) from fun hP hD hS => G _ _ hP hD hS
  intro H locs hP hD hS
  refine lv_iload_n hx hb d_Flags_add_0 rfl (lv_at hl 1 rfl) ?_
  refine lv_i2l (v := x1.toInt64) hx hb d_Flags_add_1 rfl ?_
  refine lv_ldc2 (v := 4294967295) hx hb hown (hts _ wk_Flags_26) d_Flags_add_2 ?_
  refine lv_land hx hb d_Flags_add_5 ?_
  refine lv_iload_n hx hb d_Flags_add_6 rfl (lv_at hl 2 rfl) ?_
  refine lv_i2l (v := x2.toInt64) hx hb d_Flags_add_7 rfl ?_
  refine lv_ldc2 (v := 4294967295) hx hb hown (hts _ wk_Flags_26) d_Flags_add_8 ?_
  refine lv_land hx hb d_Flags_add_11 ?_
  refine lv_ladd hx hb d_Flags_add_12 ?_
  refine lv_iload_n hx hb d_Flags_add_13 rfl (lv_at hl 3 rfl) ?_
  refine lv_i2l (v := x3.toInt64) hx hb d_Flags_add_14 rfl ?_
  refine lv_ladd hx hb d_Flags_add_15 ?_
  refine lv_topl (fun v1 e_v1 => ?_)
  have hq := tc_nm hq e_v1
  refine lv_lstore (lv' := [(4, .long v1), (0, .ref h), (1, .int x1), (2, .int x2), (3, .int x3)]) hx hb d_Flags_add_16 hl (by decide) rfl (fun ls hl => ?_)
  refine lv_iload_n hx hb d_Flags_add_18 rfl (lv_at hl 2 rfl) ?_
  refine lv_i2l (v := x1.toInt64) hx hb d_Flags_add_19 rfl ?_
  refine lv_iload_n hx hb d_Flags_add_20 rfl (lv_at hl 3 rfl) ?_
  refine lv_i2l (v := x2.toInt64) hx hb d_Flags_add_21 rfl ?_
  refine lv_ladd hx hb d_Flags_add_22 ?_
  refine lv_iload_n hx hb d_Flags_add_23 rfl (lv_at hl 4 rfl) ?_
  refine lv_i2l (v := x3.toInt64) hx hb d_Flags_add_24 rfl ?_
  refine lv_ladd hx hb d_Flags_add_25 ?_
  refine lv_topl (fun v2 e_v2 => ?_)
  have hq := tc_nm hq e_v2
  refine lv_lstore (lv' := [(6, .long v2), (4, .long v1), (0, .ref h), (1, .int x1), (2, .int x2), (3, .int x3)]) hx hb d_Flags_add_26 hl (by decide) rfl (fun ls hl => ?_)
  refine lv_lload hx hb d_Flags_add_28 (lv_at hl 1 rfl) ?_
  refine lv_l2i (v := v1.toInt32) hx hb d_Flags_add_30 rfl ?_
  refine lv_istore (lv' := [(8, .int v1.toInt32), (6, .long v2), (4, .long v1), (0, .ref h), (1, .int x1), (2, .int x2), (3, .int x3)]) hx hb d_Flags_add_31 hl (by decide) rfl (fun ls hl => ?_)
  refine lv_aload_n hx hb d_Flags_add_33 rfl (lv_at hl 3 rfl) ?_
  refine lv_lload hx hb d_Flags_add_34 (lv_at hl 2 rfl) ?_
  refine lv_bipush (v := 32) hx hb d_Flags_add_36 (by decide) ?_
  refine lv_lushr (v := (o_lushr v1 32)) hx hb d_Flags_add_38 rfl ?_
  refine lv_lconst (v := 0) hx hb d_Flags_add_39 (by decide) ?_
  refine W.lcmp hx hb d_Flags_add_40 ?_
  refine lv_if_eq (tgt := 48) hx hb d_Flags_add_41 (by decide) (fun g_41 => ?_) (fun g_41 => ?_)
  · have hq := hq.trans (if_pos g_41)
    refine lv_iconst (v := 0) hx hb d_Flags_add_48 (by decide) ?_
    exact J_49 H locs ls c_negative c_zero c_carry c_overflow v2 v1.toInt32 false hP hD hS (lv_sub hl [3, 1, 0] rfl) hq
  · have hq := hq.trans (if_neg g_41)
    refine lv_iconst (v := 1) hx hb d_Flags_add_44 (by decide) ?_
    refine lv_goto (tgt := 49) hx hb d_Flags_add_45 (by decide) ?_
    exact J_49 H locs ls c_negative c_zero c_carry c_overflow v2 v1.toInt32 true hP hD hS (lv_sub hl [3, 1, 0] rfl) hq
abbrev rm_Flags_moveUp : Room := { frames := 2, cells := 0, slots := 0, locals := 45 }
set_option maxHeartbeats 4000000 in
set_option maxRecDepth 100000 in
theorem c_Flags_moveUp (l : Launch) (D : va_G) (cI cB cZ : ClassId) (h sz : Nat) (c_negative : Bool) (c_zero : Bool) (c_carry : Bool) (c_overflow : Bool) (x1 : Int32) (x2 : Int32) : Met l y_Flags_moveUp (.code y_Flags_moveUp b_Flags_moveUp 3 (some .int) :: tcb) rm_Flags_moveUp (tc_Pw D tcl (tys cI cB cZ) (wd_Flags cI cB cZ h c_negative c_zero c_carry c_overflow) sz ([.ref h, .int x1, .int x2] : List Value) none) (tc_Qi D tcl (wd_Flags cI cB cZ h c_negative c_zero c_carry c_overflow) sz (fun u => (wd_Flags cI cB cZ h u.2.1 u.2.2.1 u.2.2.2 c_overflow)) (f_Flags_moveUp c_negative c_zero c_carry x1 x2)) 0 0 (va_A (wd_Flags cI cB cZ h c_negative c_zero c_carry c_overflow) sz) := by
  refine tc_mu_i (by decide) (Nat.le_of_ble_eq_true rfl) ?_
  intro p e s m below meth c A Q ls hx hb hml hts hown hK hN hP hD hA hZ hl RET
  have hS : va_S A s.heap s.heap [] := va_S.rf
  have hl : lv_has ls 3 [(0, .ref h), (1, .int x1), (2, .int x2)] := hl
  generalize hF : f_Flags_moveUp c_negative c_zero c_carry x1 x2 = FF at RET
  have J_45 : ∀ (H : Heap) (locs : List Loc) (ls : Array Slot) (c_negative : Bool) (c_zero : Bool) (c_carry : Bool) (z1 : Int32), va_P D tcl (wd_Flags cI cB cZ h c_negative c_zero c_carry c_overflow) H → va_D A (wd_Flags cI cB cZ h c_negative c_zero c_carry c_overflow) → va_S A s.heap H locs → lv_has ls 3 [] → FF = k_Flags_moveUp_45 c_negative c_zero c_carry z1 → W p l e rm_Flags_moveUp s m ([.ref h, .int x1, .int x2] : List Value).toArray below meth c H locs 0 0 Q (F0 m 45 ls [.int z1, .ref h]) := by
    intro H locs ls c_negative c_zero c_carry z1 hP hD hS hl hq
    refine tc_mi (wo := fun u => (wd_Flags cI cB cZ h u.2.1 u.2.2 c_carry c_overflow)) (va_runV (As := [.int z1]) (rest := []) ⟨hx, hb, hml, hown, hts⟩ (c_Flags_mark l D cI cB cZ h H.size c_negative c_zero c_carry c_overflow z1) (cwV 1 hts (tc_gV wl_Flags_28 wm_Flags_mark ws_Flags_mark wi_Flags wc_Flags_mark) rfl rfl rfl (by decide +kernel) ⟨Nat.le_of_ble_eq_true rfl, Nat.le_of_ble_eq_true rfl⟩) (tc_preV hK hN hP hD [0] rfl (by decide) (q0 := 0) rfl rfl) rfl rfl hl.1 rfl (lv_room (Nat.le_of_ble_eq_true rfl)) d_Flags_moveUp_45 (by decide)) hP hD hS hA [0] [] [0] rfl rfl (by decide) (by decide) (by decide) (fun _ => rfl) (fun u H locs hu hP hD hS => ?_)
    obtain ⟨r1, s2, s3⟩ := u
    have hq := hq.trans (un3_eq hu _)
    have e_r1 := hu
    have hP : va_P D tcl (wd_Flags cI cB cZ h s2 s3 c_carry c_overflow) H := hP
    have hD : va_D A (wd_Flags cI cB cZ h s2 s3 c_carry c_overflow) := hD
    refine W.eq (g2 := F0 m 48 ls [.int r1]) rfl ?_
    exact RET H locs ls 48 (r1, s2, s3, c_carry) d_Flags_moveUp_48 hP hD hS hq
  have J_31 : ∀ (H : Heap) (locs : List Loc) (ls : Array Slot) (c_negative : Bool) (c_zero : Bool) (c_carry : Bool) (y1 : Int32) (y2 : Int32), va_P D tcl (wd_Flags cI cB cZ h c_negative c_zero c_carry c_overflow) H → va_D A (wd_Flags cI cB cZ h c_negative c_zero c_carry c_overflow) → va_S A s.heap H locs → lv_has ls 3 [(0, .ref h), (1, .int y1), (2, .int y2)] → FF = k_Flags_moveUp_31 c_negative c_zero c_carry y1 y2 → W p l e rm_Flags_moveUp s m ([.ref h, .int x1, .int x2] : List Value).toArray below meth c H locs 0 0 Q (F0 m 31 ls []) := by
    intro H locs ls c_negative c_zero c_carry y1 y2 hP hD hS hl hq
    refine lv_aload_n hx hb d_Flags_moveUp_31 rfl (lv_at hl 0 rfl) ?_
    refine lv_iload_n hx hb d_Flags_moveUp_32 rfl (lv_at hl 2 rfl) ?_
    refine lv_bipush (v := 32) hx hb d_Flags_moveUp_33 (by decide) ?_
    refine lv_icmp_ge (tgt := 44) hx hb d_Flags_moveUp_35 (by decide) (fun g_35 => ?_) (fun g_35 => ?_)
    · have hq := hq.trans (if_pos g_35)
      refine lv_iconst (v := 0) hx hb d_Flags_moveUp_44 (by decide) ?_
      exact J_45 H locs ls c_negative c_zero c_carry 0 hP hD hS (lv_sub hl [] rfl) hq
    · have hq := hq.trans (if_neg g_35)
      refine lv_iload_n hx hb d_Flags_moveUp_38 rfl (lv_at hl 1 rfl) ?_
      refine lv_iload_n hx hb d_Flags_moveUp_39 rfl (lv_at hl 2 rfl) ?_
      refine lv_ishl hx hb d_Flags_moveUp_40 ?_
      refine lv_goto (tgt := 45) hx hb d_Flags_moveUp_41 (by decide) ?_
      exact J_45 H locs ls c_negative c_zero c_carry (o_ishl y1 y2) hP hD hS (lv_sub hl [] rfl) hq
  have J_28 : ∀ (H : Heap) (locs : List Loc) (ls : Array Slot) (c_negative : Bool) (c_zero : Bool) (c_carry : Bool) (y1 : Int32) (y2 : Int32) (z1 : Bool), va_P D tcl (wd_Flags cI cB cZ h c_negative c_zero c_carry c_overflow) H → va_D A (wd_Flags cI cB cZ h c_negative c_zero c_carry c_overflow) → va_S A s.heap H locs → lv_has ls 3 [(0, .ref h), (1, .int y1), (2, .int y2)] → FF = k_Flags_moveUp_28 c_negative c_zero c_carry y1 y2 z1 → W p l e rm_Flags_moveUp s m ([.ref h, .int x1, .int x2] : List Value).toArray below meth c H locs 0 0 Q (F0 m 28 ls [.int (bI z1), .ref h]) := by
    intro H locs ls c_negative c_zero c_carry y1 y2 z1 hP hD hS hl hq
    refine va_put (D := D) (ci := 2) (v := .int (bI z1)) (ty := .boolean) (C := R_Flags) (T := F_Flags) (N := 4) hx hb hts u_Flags t_Flags t_Flags_ok n_Flags hown hK hP hD hS 0 rfl rfl 2 (by decide) (hts _ wf_Flags_18) (fun _ h9 => h9) rfl (by decide +kernel) (tc_nb z1) (tc_fb z1) (Nat.le_of_ble_eq_true rfl) d_Flags_moveUp_28 (fun H locs hP hD hS => ?_)
    have hP : va_P D tcl (wd_Flags cI cB cZ h c_negative c_zero z1 c_overflow) H := hP
    have hD : va_D A (wd_Flags cI cB cZ h c_negative c_zero z1 c_overflow) := hD
    exact J_31 H locs ls c_negative c_zero z1 y1 y2 hP hD hS (lv_sub hl [0, 1, 2] rfl) hq
  have J_27 : ∀ (H : Heap) (locs : List Loc) (ls : Array Slot) (c_negative : Bool) (c_zero : Bool) (c_carry : Bool) (y1 : Int32) (y2 : Int32), va_P D tcl (wd_Flags cI cB cZ h c_negative c_zero c_carry c_overflow) H → va_D A (wd_Flags cI cB cZ h c_negative c_zero c_carry c_overflow) → va_S A s.heap H locs → lv_has ls 3 [(0, .ref h), (1, .int y1), (2, .int y2)] → FF = k_Flags_moveUp_27 c_negative c_zero c_carry y1 y2 → W p l e rm_Flags_moveUp s m ([.ref h, .int x1, .int x2] : List Value).toArray below meth c H locs 0 0 Q (F0 m 27 ls [.ref h]) := by
    intro H locs ls c_negative c_zero c_carry y1 y2 hP hD hS hl hq
    refine lv_iconst (v := 0) hx hb d_Flags_moveUp_27 (by decide) ?_
    exact J_28 H locs ls c_negative c_zero c_carry y1 y2 false hP hD hS (lv_sub hl [0, 1, 2] rfl) hq
  have hq : FF = f_Flags_moveUp c_negative c_zero c_carry x1 x2 := hF.symm
  revert hP hD hS
  suffices G : ∀ (H : Heap) (locs : List Loc), va_P D tcl (wd_Flags cI cB cZ h c_negative c_zero c_carry c_overflow) H → va_D A (wd_Flags cI cB cZ h c_negative c_zero c_carry c_overflow) → va_S A s.heap H locs → W p l e rm_Flags_moveUp s m ([.ref h, .int x1, .int x2] : List Value).toArray below meth c H locs 0 0 Q (F0 m 0 ls []) from fun hP hD hS => G _ _ hP hD hS
  intro H locs hP hD hS
  refine lv_iload_n hx hb d_Flags_moveUp_0 rfl (lv_at hl 2 rfl) ?_
  refine lv_if_eq (tgt := 31) hx hb d_Flags_moveUp_1 (by decide) (fun g_1 => ?_) (fun g_1 => ?_)
  · have hq := hq.trans (if_pos g_1)
    exact J_31 H locs ls c_negative c_zero c_carry x1 x2 hP hD hS (lv_sub hl [0, 1, 2] rfl) hq
  · have hq := hq.trans (if_neg g_1)
    refine lv_aload_n hx hb d_Flags_moveUp_4 rfl (lv_at hl 0 rfl) ?_
    refine lv_iload_n hx hb d_Flags_moveUp_5 rfl (lv_at hl 2 rfl) ?_
    refine lv_bipush (v := 32) hx hb d_Flags_moveUp_6 (by decide) ?_
    refine lv_icmp_gt (tgt := 27) hx hb d_Flags_moveUp_8 (by decide) (fun g_8 => ?_) (fun g_8 => ?_)
    · have hq := hq.trans (if_pos g_8)
      exact J_27 H locs ls c_negative c_zero c_carry x1 x2 hP hD hS (lv_sub hl [0, 1, 2] rfl) hq
    · have hq := hq.trans (if_neg g_8)
      refine lv_iload_n hx hb d_Flags_moveUp_11 rfl (lv_at hl 1 rfl) ?_
      refine lv_bipush (v := 32) hx hb d_Flags_moveUp_12 (by decide) ?_
      refine lv_iload_n hx hb d_Flags_moveUp_14 rfl (lv_at hl 2 rfl) ?_
      refine lv_isub hx hb d_Flags_moveUp_15 ?_
      refine lv_iushr (v := (o_iushr x1 (32 - x2))) hx hb d_Flags_moveUp_16 rfl ?_
      refine lv_iconst (v := 1) hx hb d_Flags_moveUp_17 (by decide) ?_
      refine lv_iand hx hb d_Flags_moveUp_18 ?_
      refine lv_iconst (v := 1) hx hb d_Flags_moveUp_19 (by decide) ?_
      refine lv_icmp_ne (tgt := 27) hx hb d_Flags_moveUp_20 (by decide) (fun g_20 => ?_) (fun g_20 => ?_)
      · have hq := hq.trans (if_pos g_20)
        exact J_27 H locs ls c_negative c_zero c_carry x1 x2 hP hD hS (lv_sub hl [0, 1, 2] rfl) hq
      · have hq := hq.trans (if_neg (fun g => g g_20))
        refine lv_iconst (v := 1) hx hb d_Flags_moveUp_23 (by decide) ?_
        refine lv_goto (tgt := 28) hx hb d_Flags_moveUp_24 (by decide) ?_
        exact J_28 H locs ls c_negative c_zero c_carry x1 x2 true hP hD hS (lv_sub hl [0, 1, 2] rfl) hq
abbrev rm_Flags_moveDown : Room := { frames := 2, cells := 0, slots := 0, locals := 45 }
set_option maxHeartbeats 4000000 in
set_option maxRecDepth 100000 in
theorem c_Flags_moveDown (l : Launch) (D : va_G) (cI cB cZ : ClassId) (h sz : Nat) (c_negative : Bool) (c_zero : Bool) (c_carry : Bool) (c_overflow : Bool) (x1 : Int32) (x2 : Int32) : Met l y_Flags_moveDown (.code y_Flags_moveDown b_Flags_moveDown 3 (some .int) :: tcb) rm_Flags_moveDown (tc_Pw D tcl (tys cI cB cZ) (wd_Flags cI cB cZ h c_negative c_zero c_carry c_overflow) sz ([.ref h, .int x1, .int x2] : List Value) none) (tc_Qi D tcl (wd_Flags cI cB cZ h c_negative c_zero c_carry c_overflow) sz (fun u => (wd_Flags cI cB cZ h u.2.1 u.2.2.1 u.2.2.2 c_overflow)) (f_Flags_moveDown c_negative c_zero c_carry x1 x2)) 0 0 (va_A (wd_Flags cI cB cZ h c_negative c_zero c_carry c_overflow) sz) := by
  refine tc_mu_i (by decide) (Nat.le_of_ble_eq_true rfl) ?_
  intro p e s m below meth c A Q ls hx hb hml hts hown hK hN hP hD hA hZ hl RET
  have hS : va_S A s.heap s.heap [] := va_S.rf
  have hl : lv_has ls 3 [(0, .ref h), (1, .int x1), (2, .int x2)] := hl
  generalize hF : f_Flags_moveDown c_negative c_zero c_carry x1 x2 = FF at RET
  have J_44 : ∀ (H : Heap) (locs : List Loc) (ls : Array Slot) (c_negative : Bool) (c_zero : Bool) (c_carry : Bool) (z1 : Int32), va_P D tcl (wd_Flags cI cB cZ h c_negative c_zero c_carry c_overflow) H → va_D A (wd_Flags cI cB cZ h c_negative c_zero c_carry c_overflow) → va_S A s.heap H locs → lv_has ls 3 [] → FF = k_Flags_moveDown_44 c_negative c_zero c_carry z1 → W p l e rm_Flags_moveDown s m ([.ref h, .int x1, .int x2] : List Value).toArray below meth c H locs 0 0 Q (F0 m 44 ls [.int z1, .ref h]) := by
    intro H locs ls c_negative c_zero c_carry z1 hP hD hS hl hq
    refine tc_mi (wo := fun u => (wd_Flags cI cB cZ h u.2.1 u.2.2 c_carry c_overflow)) (va_runV (As := [.int z1]) (rest := []) ⟨hx, hb, hml, hown, hts⟩ (c_Flags_mark l D cI cB cZ h H.size c_negative c_zero c_carry c_overflow z1) (cwV 1 hts (tc_gV wl_Flags_28 wm_Flags_mark ws_Flags_mark wi_Flags wc_Flags_mark) rfl rfl rfl (by decide +kernel) ⟨Nat.le_of_ble_eq_true rfl, Nat.le_of_ble_eq_true rfl⟩) (tc_preV hK hN hP hD [0] rfl (by decide) (q0 := 0) rfl rfl) rfl rfl hl.1 rfl (lv_room (Nat.le_of_ble_eq_true rfl)) d_Flags_moveDown_44 (by decide)) hP hD hS hA [0] [] [0] rfl rfl (by decide) (by decide) (by decide) (fun _ => rfl) (fun u H locs hu hP hD hS => ?_)
    obtain ⟨r1, s2, s3⟩ := u
    have hq := hq.trans (un3_eq hu _)
    have e_r1 := hu
    have hP : va_P D tcl (wd_Flags cI cB cZ h s2 s3 c_carry c_overflow) H := hP
    have hD : va_D A (wd_Flags cI cB cZ h s2 s3 c_carry c_overflow) := hD
    refine W.eq (g2 := F0 m 47 ls [.int r1]) rfl ?_
    exact RET H locs ls 47 (r1, s2, s3, c_carry) d_Flags_moveDown_47 hP hD hS hq
  have J_30 : ∀ (H : Heap) (locs : List Loc) (ls : Array Slot) (c_negative : Bool) (c_zero : Bool) (c_carry : Bool) (y1 : Int32) (y2 : Int32), va_P D tcl (wd_Flags cI cB cZ h c_negative c_zero c_carry c_overflow) H → va_D A (wd_Flags cI cB cZ h c_negative c_zero c_carry c_overflow) → va_S A s.heap H locs → lv_has ls 3 [(0, .ref h), (1, .int y1), (2, .int y2)] → FF = k_Flags_moveDown_30 c_negative c_zero c_carry y1 y2 → W p l e rm_Flags_moveDown s m ([.ref h, .int x1, .int x2] : List Value).toArray below meth c H locs 0 0 Q (F0 m 30 ls []) := by
    intro H locs ls c_negative c_zero c_carry y1 y2 hP hD hS hl hq
    refine lv_aload_n hx hb d_Flags_moveDown_30 rfl (lv_at hl 0 rfl) ?_
    refine lv_iload_n hx hb d_Flags_moveDown_31 rfl (lv_at hl 2 rfl) ?_
    refine lv_bipush (v := 32) hx hb d_Flags_moveDown_32 (by decide) ?_
    refine lv_icmp_ge (tgt := 43) hx hb d_Flags_moveDown_34 (by decide) (fun g_34 => ?_) (fun g_34 => ?_)
    · have hq := hq.trans (if_pos g_34)
      refine lv_iconst (v := 0) hx hb d_Flags_moveDown_43 (by decide) ?_
      exact J_44 H locs ls c_negative c_zero c_carry 0 hP hD hS (lv_sub hl [] rfl) hq
    · have hq := hq.trans (if_neg g_34)
      refine lv_iload_n hx hb d_Flags_moveDown_37 rfl (lv_at hl 1 rfl) ?_
      refine lv_iload_n hx hb d_Flags_moveDown_38 rfl (lv_at hl 2 rfl) ?_
      refine lv_iushr (v := (o_iushr y1 y2)) hx hb d_Flags_moveDown_39 rfl ?_
      refine lv_goto (tgt := 44) hx hb d_Flags_moveDown_40 (by decide) ?_
      exact J_44 H locs ls c_negative c_zero c_carry (o_iushr y1 y2) hP hD hS (lv_sub hl [] rfl) hq
  have J_27 : ∀ (H : Heap) (locs : List Loc) (ls : Array Slot) (c_negative : Bool) (c_zero : Bool) (c_carry : Bool) (y1 : Int32) (y2 : Int32) (z1 : Bool), va_P D tcl (wd_Flags cI cB cZ h c_negative c_zero c_carry c_overflow) H → va_D A (wd_Flags cI cB cZ h c_negative c_zero c_carry c_overflow) → va_S A s.heap H locs → lv_has ls 3 [(0, .ref h), (1, .int y1), (2, .int y2)] → FF = k_Flags_moveDown_27 c_negative c_zero c_carry y1 y2 z1 → W p l e rm_Flags_moveDown s m ([.ref h, .int x1, .int x2] : List Value).toArray below meth c H locs 0 0 Q (F0 m 27 ls [.int (bI z1), .ref h]) := by
    intro H locs ls c_negative c_zero c_carry y1 y2 z1 hP hD hS hl hq
    refine va_put (D := D) (ci := 2) (v := .int (bI z1)) (ty := .boolean) (C := R_Flags) (T := F_Flags) (N := 4) hx hb hts u_Flags t_Flags t_Flags_ok n_Flags hown hK hP hD hS 0 rfl rfl 2 (by decide) (hts _ wf_Flags_18) (fun _ h9 => h9) rfl (by decide +kernel) (tc_nb z1) (tc_fb z1) (Nat.le_of_ble_eq_true rfl) d_Flags_moveDown_27 (fun H locs hP hD hS => ?_)
    have hP : va_P D tcl (wd_Flags cI cB cZ h c_negative c_zero z1 c_overflow) H := hP
    have hD : va_D A (wd_Flags cI cB cZ h c_negative c_zero z1 c_overflow) := hD
    exact J_30 H locs ls c_negative c_zero z1 y1 y2 hP hD hS (lv_sub hl [0, 1, 2] rfl) hq
  have J_26 : ∀ (H : Heap) (locs : List Loc) (ls : Array Slot) (c_negative : Bool) (c_zero : Bool) (c_carry : Bool) (y1 : Int32) (y2 : Int32), va_P D tcl (wd_Flags cI cB cZ h c_negative c_zero c_carry c_overflow) H → va_D A (wd_Flags cI cB cZ h c_negative c_zero c_carry c_overflow) → va_S A s.heap H locs → lv_has ls 3 [(0, .ref h), (1, .int y1), (2, .int y2)] → FF = k_Flags_moveDown_26 c_negative c_zero c_carry y1 y2 → W p l e rm_Flags_moveDown s m ([.ref h, .int x1, .int x2] : List Value).toArray below meth c H locs 0 0 Q (F0 m 26 ls [.ref h]) := by
    intro H locs ls c_negative c_zero c_carry y1 y2 hP hD hS hl hq
    refine lv_iconst (v := 0) hx hb d_Flags_moveDown_26 (by decide) ?_
    exact J_27 H locs ls c_negative c_zero c_carry y1 y2 false hP hD hS (lv_sub hl [0, 1, 2] rfl) hq
  have hq : FF = f_Flags_moveDown c_negative c_zero c_carry x1 x2 := hF.symm
  revert hP hD hS
  suffices G : ∀ (H : Heap) (locs : List Loc), va_P D tcl (wd_Flags cI cB cZ h c_negative c_zero c_carry c_overflow) H → va_D A (wd_Flags cI cB cZ h c_negative c_zero c_carry c_overflow) → va_S A s.heap H locs → W p l e rm_Flags_moveDown s m ([.ref h, .int x1, .int x2] : List Value).toArray below meth c H locs 0 0 Q (F0 m 0 ls []) from fun hP hD hS => G _ _ hP hD hS
  intro H locs hP hD hS
  refine lv_iload_n hx hb d_Flags_moveDown_0 rfl (lv_at hl 2 rfl) ?_
  refine lv_if_eq (tgt := 30) hx hb d_Flags_moveDown_1 (by decide) (fun g_1 => ?_) (fun g_1 => ?_)
  · have hq := hq.trans (if_pos g_1)
    exact J_30 H locs ls c_negative c_zero c_carry x1 x2 hP hD hS (lv_sub hl [0, 1, 2] rfl) hq
  · have hq := hq.trans (if_neg g_1)
    refine lv_aload_n hx hb d_Flags_moveDown_4 rfl (lv_at hl 0 rfl) ?_
    refine lv_iload_n hx hb d_Flags_moveDown_5 rfl (lv_at hl 2 rfl) ?_
    refine lv_bipush (v := 32) hx hb d_Flags_moveDown_6 (by decide) ?_
    refine lv_icmp_gt (tgt := 26) hx hb d_Flags_moveDown_8 (by decide) (fun g_8 => ?_) (fun g_8 => ?_)
    · have hq := hq.trans (if_pos g_8)
      exact J_26 H locs ls c_negative c_zero c_carry x1 x2 hP hD hS (lv_sub hl [0, 1, 2] rfl) hq
    · have hq := hq.trans (if_neg g_8)
      refine lv_iload_n hx hb d_Flags_moveDown_11 rfl (lv_at hl 1 rfl) ?_
      refine lv_iload_n hx hb d_Flags_moveDown_12 rfl (lv_at hl 2 rfl) ?_
      refine lv_iconst (v := 1) hx hb d_Flags_moveDown_13 (by decide) ?_
      refine lv_isub hx hb d_Flags_moveDown_14 ?_
      refine lv_iushr (v := (o_iushr x1 (x2 - 1))) hx hb d_Flags_moveDown_15 rfl ?_
      refine lv_iconst (v := 1) hx hb d_Flags_moveDown_16 (by decide) ?_
      refine lv_iand hx hb d_Flags_moveDown_17 ?_
      refine lv_iconst (v := 1) hx hb d_Flags_moveDown_18 (by decide) ?_
      refine lv_icmp_ne (tgt := 26) hx hb d_Flags_moveDown_19 (by decide) (fun g_19 => ?_) (fun g_19 => ?_)
      · have hq := hq.trans (if_pos g_19)
        exact J_26 H locs ls c_negative c_zero c_carry x1 x2 hP hD hS (lv_sub hl [0, 1, 2] rfl) hq
      · have hq := hq.trans (if_neg (fun g => g g_19))
        refine lv_iconst (v := 1) hx hb d_Flags_moveDown_22 (by decide) ?_
        refine lv_goto (tgt := 27) hx hb d_Flags_moveDown_23 (by decide) ?_
        exact J_27 H locs ls c_negative c_zero c_carry x1 x2 true hP hD hS (lv_sub hl [0, 1, 2] rfl) hq
abbrev rm_Flags_moveDownSigned : Room := { frames := 2, cells := 0, slots := 0, locals := 45 }
set_option maxHeartbeats 4000000 in
set_option maxRecDepth 100000 in
theorem c_Flags_moveDownSigned (l : Launch) (D : va_G) (cI cB cZ : ClassId) (h sz : Nat) (c_negative : Bool) (c_zero : Bool) (c_carry : Bool) (c_overflow : Bool) (x1 : Int32) (x2 : Int32) : Met l y_Flags_moveDownSigned (.code y_Flags_moveDownSigned b_Flags_moveDownSigned 3 (some .int) :: tcb) rm_Flags_moveDownSigned (tc_Pw D tcl (tys cI cB cZ) (wd_Flags cI cB cZ h c_negative c_zero c_carry c_overflow) sz ([.ref h, .int x1, .int x2] : List Value) none) (tc_Qi D tcl (wd_Flags cI cB cZ h c_negative c_zero c_carry c_overflow) sz (fun u => (wd_Flags cI cB cZ h u.2.1 u.2.2.1 u.2.2.2 c_overflow)) (f_Flags_moveDownSigned c_negative c_zero c_carry x1 x2)) 0 0 (va_A (wd_Flags cI cB cZ h c_negative c_zero c_carry c_overflow) sz) := by
  refine tc_mu_i (by decide) (Nat.le_of_ble_eq_true rfl) ?_
  intro p e s m below meth c A Q ls hx hb hml hts hown hK hN hP hD hA hZ hl RET
  have hS : va_S A s.heap s.heap [] := va_S.rf
  have hl : lv_has ls 3 [(0, .ref h), (1, .int x1), (2, .int x2)] := hl
  generalize hF : f_Flags_moveDownSigned c_negative c_zero c_carry x1 x2 = FF at RET
  have J_29 : ∀ (H : Heap) (locs : List Loc) (ls : Array Slot) (c_negative : Bool) (c_zero : Bool) (c_carry : Bool) (y1 : Int32) (y2 : Int32), va_P D tcl (wd_Flags cI cB cZ h c_negative c_zero c_carry c_overflow) H → va_D A (wd_Flags cI cB cZ h c_negative c_zero c_carry c_overflow) → va_S A s.heap H locs → lv_has ls 3 [(0, .ref h), (1, .int y1), (2, .int y2)] → FF = k_Flags_moveDownSigned_29 c_negative c_zero c_carry y1 y2 → W p l e rm_Flags_moveDownSigned s m ([.ref h, .int x1, .int x2] : List Value).toArray below meth c H locs 0 0 Q (F0 m 29 ls []) := by
    intro H locs ls c_negative c_zero c_carry y1 y2 hP hD hS hl hq
    refine lv_aload_n hx hb d_Flags_moveDownSigned_29 rfl (lv_at hl 0 rfl) ?_
    refine lv_iload_n hx hb d_Flags_moveDownSigned_30 rfl (lv_at hl 1 rfl) ?_
    refine lv_iload_n hx hb d_Flags_moveDownSigned_31 rfl (lv_at hl 2 rfl) ?_
    refine lv_bipush (v := 31) hx hb d_Flags_moveDownSigned_32 (by decide) ?_
    refine va_mmin hx hb (hml.trans hl.1.symm) hown (hts _ wl_Flags_32) (hts _ wt_Math_min) (hts _ wi_Math) (hts _ wc_Math_min) (Nat.le_of_ble_eq_true rfl) (Nat.le_of_ble_eq_true rfl) (Nat.le_of_ble_eq_true rfl) (Nat.le_of_ble_eq_true rfl) d_Flags_moveDownSigned_34 ?_
    refine lv_ishr hx hb d_Flags_moveDownSigned_37 ?_
    refine tc_mi (wo := fun u => (wd_Flags cI cB cZ h u.2.1 u.2.2 c_carry c_overflow)) (va_runV (As := [.int (o_ishr y1 (o_min y2 31))]) (rest := []) ⟨hx, hb, hml, hown, hts⟩ (c_Flags_mark l D cI cB cZ h H.size c_negative c_zero c_carry c_overflow (o_ishr y1 (o_min y2 31))) (cwV 1 hts (tc_gV wl_Flags_28 wm_Flags_mark ws_Flags_mark wi_Flags wc_Flags_mark) rfl rfl rfl (by decide +kernel) ⟨Nat.le_of_ble_eq_true rfl, Nat.le_of_ble_eq_true rfl⟩) (tc_preV hK hN hP hD [0] rfl (by decide) (q0 := 0) rfl rfl) rfl rfl hl.1 rfl (lv_room (Nat.le_of_ble_eq_true rfl)) d_Flags_moveDownSigned_38 (by decide)) hP hD hS hA [0] [] [0] rfl rfl (by decide) (by decide) (by decide) (fun _ => rfl) (fun u H locs hu hP hD hS => ?_)
    obtain ⟨r1, s2, s3⟩ := u
    have hq := hq.trans (un3_eq hu _)
    have e_r1 := hu
    have hP : va_P D tcl (wd_Flags cI cB cZ h s2 s3 c_carry c_overflow) H := hP
    have hD : va_D A (wd_Flags cI cB cZ h s2 s3 c_carry c_overflow) := hD
    refine W.eq (g2 := F0 m 41 ls [.int r1]) rfl ?_
    exact RET H locs ls 41 (r1, s2, s3, c_carry) d_Flags_moveDownSigned_41 hP hD hS hq
  have J_26 : ∀ (H : Heap) (locs : List Loc) (ls : Array Slot) (c_negative : Bool) (c_zero : Bool) (c_carry : Bool) (y1 : Int32) (y2 : Int32) (z1 : Bool), va_P D tcl (wd_Flags cI cB cZ h c_negative c_zero c_carry c_overflow) H → va_D A (wd_Flags cI cB cZ h c_negative c_zero c_carry c_overflow) → va_S A s.heap H locs → lv_has ls 3 [(0, .ref h), (1, .int y1), (2, .int y2)] → FF = k_Flags_moveDownSigned_26 c_negative c_zero c_carry y1 y2 z1 → W p l e rm_Flags_moveDownSigned s m ([.ref h, .int x1, .int x2] : List Value).toArray below meth c H locs 0 0 Q (F0 m 26 ls [.int (bI z1), .ref h]) := by
    intro H locs ls c_negative c_zero c_carry y1 y2 z1 hP hD hS hl hq
    refine va_put (D := D) (ci := 2) (v := .int (bI z1)) (ty := .boolean) (C := R_Flags) (T := F_Flags) (N := 4) hx hb hts u_Flags t_Flags t_Flags_ok n_Flags hown hK hP hD hS 0 rfl rfl 2 (by decide) (hts _ wf_Flags_18) (fun _ h9 => h9) rfl (by decide +kernel) (tc_nb z1) (tc_fb z1) (Nat.le_of_ble_eq_true rfl) d_Flags_moveDownSigned_26 (fun H locs hP hD hS => ?_)
    have hP : va_P D tcl (wd_Flags cI cB cZ h c_negative c_zero z1 c_overflow) H := hP
    have hD : va_D A (wd_Flags cI cB cZ h c_negative c_zero z1 c_overflow) := hD
    exact J_29 H locs ls c_negative c_zero z1 y1 y2 hP hD hS (lv_sub hl [0, 1, 2] rfl) hq
  have hq : FF = f_Flags_moveDownSigned c_negative c_zero c_carry x1 x2 := hF.symm
  revert hP hD hS
  suffices G : ∀ (H : Heap) (locs : List Loc), va_P D tcl (wd_Flags cI cB cZ h c_negative c_zero c_carry c_overflow) H → va_D A (wd_Flags cI cB cZ h c_negative c_zero c_carry c_overflow) → va_S A s.heap H locs → W p l e rm_Flags_moveDownSigned s m ([.ref h, .int x1, .int x2] : List Value).toArray below meth c H locs 0 0 Q (F0 m 0 ls []) from fun hP hD hS => G _ _ hP hD hS
  intro H locs hP hD hS
  refine lv_iload_n hx hb d_Flags_moveDownSigned_0 rfl (lv_at hl 2 rfl) ?_
  refine lv_if_eq (tgt := 29) hx hb d_Flags_moveDownSigned_1 (by decide) (fun g_1 => ?_) (fun g_1 => ?_)
  · have hq := hq.trans (if_pos g_1)
    exact J_29 H locs ls c_negative c_zero c_carry x1 x2 hP hD hS (lv_sub hl [0, 1, 2] rfl) hq
  · have hq := hq.trans (if_neg g_1)
    refine lv_aload_n hx hb d_Flags_moveDownSigned_4 rfl (lv_at hl 0 rfl) ?_
    refine lv_iload_n hx hb d_Flags_moveDownSigned_5 rfl (lv_at hl 1 rfl) ?_
    refine lv_iload_n hx hb d_Flags_moveDownSigned_6 rfl (lv_at hl 2 rfl) ?_
    refine lv_iconst (v := 1) hx hb d_Flags_moveDownSigned_7 (by decide) ?_
    refine lv_isub hx hb d_Flags_moveDownSigned_8 ?_
    refine lv_bipush (v := 31) hx hb d_Flags_moveDownSigned_9 (by decide) ?_
    refine va_mmin hx hb (hml.trans hl.1.symm) hown (hts _ wl_Flags_32) (hts _ wt_Math_min) (hts _ wi_Math) (hts _ wc_Math_min) (Nat.le_of_ble_eq_true rfl) (Nat.le_of_ble_eq_true rfl) (Nat.le_of_ble_eq_true rfl) (Nat.le_of_ble_eq_true rfl) d_Flags_moveDownSigned_11 ?_
    refine lv_ishr hx hb d_Flags_moveDownSigned_14 ?_
    refine lv_iconst (v := 1) hx hb d_Flags_moveDownSigned_15 (by decide) ?_
    refine lv_iand hx hb d_Flags_moveDownSigned_16 ?_
    refine lv_iconst (v := 1) hx hb d_Flags_moveDownSigned_17 (by decide) ?_
    refine lv_icmp_ne (tgt := 25) hx hb d_Flags_moveDownSigned_18 (by decide) (fun g_18 => ?_) (fun g_18 => ?_)
    · have hq := hq.trans (if_pos g_18)
      refine lv_iconst (v := 0) hx hb d_Flags_moveDownSigned_25 (by decide) ?_
      exact J_26 H locs ls c_negative c_zero c_carry x1 x2 false hP hD hS (lv_sub hl [0, 1, 2] rfl) hq
    · have hq := hq.trans (if_neg (fun g => g g_18))
      refine lv_iconst (v := 1) hx hb d_Flags_moveDownSigned_21 (by decide) ?_
      refine lv_goto (tgt := 26) hx hb d_Flags_moveDownSigned_22 (by decide) ?_
      exact J_26 H locs ls c_negative c_zero c_carry x1 x2 true hP hD hS (lv_sub hl [0, 1, 2] rfl) hq
abbrev rm_Flags_turnRound : Room := { frames := 2, cells := 0, slots := 0, locals := 45 }
set_option maxHeartbeats 4000000 in
set_option maxRecDepth 100000 in
theorem c_Flags_turnRound (l : Launch) (D : va_G) (cI cB cZ : ClassId) (h sz : Nat) (c_negative : Bool) (c_zero : Bool) (c_carry : Bool) (c_overflow : Bool) (x1 : Int32) (x2 : Int32) : Met l y_Flags_turnRound (.code y_Flags_turnRound b_Flags_turnRound 5 (some .int) :: tcb) rm_Flags_turnRound (tc_Pw D tcl (tys cI cB cZ) (wd_Flags cI cB cZ h c_negative c_zero c_carry c_overflow) sz ([.ref h, .int x1, .int x2] : List Value) none) (tc_Qi D tcl (wd_Flags cI cB cZ h c_negative c_zero c_carry c_overflow) sz (fun u => (wd_Flags cI cB cZ h u.2.1 u.2.2.1 u.2.2.2 c_overflow)) (f_Flags_turnRound c_negative c_zero c_carry x1 x2)) 0 0 (va_A (wd_Flags cI cB cZ h c_negative c_zero c_carry c_overflow) sz) := by
  refine tc_mu_i (by decide) (Nat.le_of_ble_eq_true rfl) ?_
  intro p e s m below meth c A Q ls hx hb hml hts hown hK hN hP hD hA hZ hl RET
  have hS : va_S A s.heap s.heap [] := va_S.rf
  have hl : lv_has ls 5 [(0, .ref h), (1, .int x1), (2, .int x2)] := hl
  generalize hF : f_Flags_turnRound c_negative c_zero c_carry x1 x2 = FF at RET
  have J_43 : ∀ (H : Heap) (locs : List Loc) (ls : Array Slot) (c_negative : Bool) (c_zero : Bool) (c_carry : Bool) (y4 : Int32), va_P D tcl (wd_Flags cI cB cZ h c_negative c_zero c_carry c_overflow) H → va_D A (wd_Flags cI cB cZ h c_negative c_zero c_carry c_overflow) → va_S A s.heap H locs → lv_has ls 5 [(0, .ref h), (4, .int y4)] → FF = k_Flags_turnRound_43 c_negative c_zero c_carry y4 → W p l e rm_Flags_turnRound s m ([.ref h, .int x1, .int x2] : List Value).toArray below meth c H locs 0 0 Q (F0 m 43 ls []) := by
    intro H locs ls c_negative c_zero c_carry y4 hP hD hS hl hq
    refine lv_aload_n hx hb d_Flags_turnRound_43 rfl (lv_at hl 0 rfl) ?_
    refine lv_iload hx hb d_Flags_turnRound_44 (lv_at hl 1 rfl) ?_
    refine tc_mi (wo := fun u => (wd_Flags cI cB cZ h u.2.1 u.2.2 c_carry c_overflow)) (va_runV (As := [.int y4]) (rest := []) ⟨hx, hb, hml, hown, hts⟩ (c_Flags_mark l D cI cB cZ h H.size c_negative c_zero c_carry c_overflow y4) (cwV 1 hts (tc_gV wl_Flags_28 wm_Flags_mark ws_Flags_mark wi_Flags wc_Flags_mark) rfl rfl rfl (by decide +kernel) ⟨Nat.le_of_ble_eq_true rfl, Nat.le_of_ble_eq_true rfl⟩) (tc_preV hK hN hP hD [0] rfl (by decide) (q0 := 0) rfl rfl) rfl rfl hl.1 rfl (lv_room (Nat.le_of_ble_eq_true rfl)) d_Flags_turnRound_46 (by decide)) hP hD hS hA [0] [] [0] rfl rfl (by decide) (by decide) (by decide) (fun _ => rfl) (fun u H locs hu hP hD hS => ?_)
    obtain ⟨r1, s2, s3⟩ := u
    have hq := hq.trans (un3_eq hu _)
    have e_r1 := hu
    have hP : va_P D tcl (wd_Flags cI cB cZ h s2 s3 c_carry c_overflow) H := hP
    have hD : va_D A (wd_Flags cI cB cZ h s2 s3 c_carry c_overflow) := hD
    refine W.eq (g2 := F0 m 49 ls [.int r1]) rfl ?_
    exact RET H locs ls 49 (r1, s2, s3, c_carry) d_Flags_turnRound_49 hP hD hS hq
  have J_40 : ∀ (H : Heap) (locs : List Loc) (ls : Array Slot) (c_negative : Bool) (c_zero : Bool) (c_carry : Bool) (y4 : Int32) (z1 : Bool), va_P D tcl (wd_Flags cI cB cZ h c_negative c_zero c_carry c_overflow) H → va_D A (wd_Flags cI cB cZ h c_negative c_zero c_carry c_overflow) → va_S A s.heap H locs → lv_has ls 5 [(0, .ref h), (4, .int y4)] → FF = k_Flags_turnRound_40 c_negative c_zero c_carry y4 z1 → W p l e rm_Flags_turnRound s m ([.ref h, .int x1, .int x2] : List Value).toArray below meth c H locs 0 0 Q (F0 m 40 ls [.int (bI z1), .ref h]) := by
    intro H locs ls c_negative c_zero c_carry y4 z1 hP hD hS hl hq
    refine va_put (D := D) (ci := 2) (v := .int (bI z1)) (ty := .boolean) (C := R_Flags) (T := F_Flags) (N := 4) hx hb hts u_Flags t_Flags t_Flags_ok n_Flags hown hK hP hD hS 0 rfl rfl 2 (by decide) (hts _ wf_Flags_18) (fun _ h9 => h9) rfl (by decide +kernel) (tc_nb z1) (tc_fb z1) (Nat.le_of_ble_eq_true rfl) d_Flags_turnRound_40 (fun H locs hP hD hS => ?_)
    have hP : va_P D tcl (wd_Flags cI cB cZ h c_negative c_zero z1 c_overflow) H := hP
    have hD : va_D A (wd_Flags cI cB cZ h c_negative c_zero z1 c_overflow) := hD
    exact J_43 H locs ls c_negative c_zero z1 y4 hP hD hS (lv_sub hl [0, 1] rfl) hq
  have J_23 : ∀ (H : Heap) (locs : List Loc) (ls : Array Slot) (c_negative : Bool) (c_zero : Bool) (c_carry : Bool) (y2 : Int32) (z0 : Int32), va_P D tcl (wd_Flags cI cB cZ h c_negative c_zero c_carry c_overflow) H → va_D A (wd_Flags cI cB cZ h c_negative c_zero c_carry c_overflow) → va_S A s.heap H locs → lv_has ls 5 [(0, .ref h), (2, .int y2)] → FF = k_Flags_turnRound_23 c_negative c_zero c_carry y2 z0 → W p l e rm_Flags_turnRound s m ([.ref h, .int x1, .int x2] : List Value).toArray below meth c H locs 0 0 Q (F0 m 23 ls [.int z0]) := by
    intro H locs ls c_negative c_zero c_carry y2 z0 hP hD hS hl hq
    refine lv_istore (lv' := [(4, .int z0), (0, .ref h), (2, .int y2)]) hx hb d_Flags_turnRound_23 hl (by decide) rfl (fun ls hl => ?_)
    refine lv_iload_n hx hb d_Flags_turnRound_25 rfl (lv_at hl 2 rfl) ?_
    refine lv_if_eq (tgt := 43) hx hb d_Flags_turnRound_26 (by decide) (fun g_26 => ?_) (fun g_26 => ?_)
    · have hq := hq.trans (if_pos g_26)
      exact J_43 H locs ls c_negative c_zero c_carry z0 hP hD hS (lv_sub hl [1, 0] rfl) hq
    · have hq := hq.trans (if_neg g_26)
      refine lv_aload_n hx hb d_Flags_turnRound_29 rfl (lv_at hl 1 rfl) ?_
      refine lv_iload hx hb d_Flags_turnRound_30 (lv_at hl 0 rfl) ?_
      refine lv_if_ge (tgt := 39) hx hb d_Flags_turnRound_32 (by decide) (fun g_32 => ?_) (fun g_32 => ?_)
      · have hq := hq.trans (if_pos g_32)
        refine lv_iconst (v := 0) hx hb d_Flags_turnRound_39 (by decide) ?_
        exact J_40 H locs ls c_negative c_zero c_carry z0 false hP hD hS (lv_sub hl [1, 0] rfl) hq
      · have hq := hq.trans (if_neg g_32)
        refine lv_iconst (v := 1) hx hb d_Flags_turnRound_35 (by decide) ?_
        refine lv_goto (tgt := 40) hx hb d_Flags_turnRound_36 (by decide) ?_
        exact J_40 H locs ls c_negative c_zero c_carry z0 true hP hD hS (lv_sub hl [1, 0] rfl) hq
  have hq : FF = f_Flags_turnRound c_negative c_zero c_carry x1 x2 := hF.symm
  revert hP hD hS
  suffices G : ∀ (H : Heap) (locs : List Loc), va_P D tcl (wd_Flags cI cB cZ h c_negative c_zero c_carry c_overflow) H → va_D A (wd_Flags cI cB cZ h c_negative c_zero c_carry c_overflow) → va_S A s.heap H locs → W p l e rm_Flags_turnRound s m ([.ref h, .int x1, .int x2] : List Value).toArray below meth c H locs 0 0 Q (F0 m 0 ls []) from fun hP hD hS => G _ _ hP hD hS
  intro H locs hP hD hS
  refine lv_iload_n hx hb d_Flags_turnRound_0 rfl (lv_at hl 2 rfl) ?_
  refine lv_bipush (v := 31) hx hb d_Flags_turnRound_1 (by decide) ?_
  refine lv_iand hx hb d_Flags_turnRound_3 ?_
  refine lv_topi (fun v1 e_v1 => ?_)
  have hq := tc_nm hq e_v1
  refine lv_istore_n (lv' := [(3, .int v1), (0, .ref h), (1, .int x1), (2, .int x2)]) hx hb d_Flags_turnRound_4 rfl hl (by decide) rfl (fun ls hl => ?_)
  refine lv_iload_n hx hb d_Flags_turnRound_5 rfl (lv_at hl 0 rfl) ?_
  refine lv_if_ne (tgt := 13) hx hb d_Flags_turnRound_6 (by decide) (fun g_6 => ?_) (fun g_6 => ?_)
  · have hq := hq.trans (if_pos g_6)
    refine lv_iload_n hx hb d_Flags_turnRound_13 rfl (lv_at hl 2 rfl) ?_
    refine lv_iload_n hx hb d_Flags_turnRound_14 rfl (lv_at hl 0 rfl) ?_
    refine lv_iushr (v := (o_iushr x1 v1)) hx hb d_Flags_turnRound_15 rfl ?_
    refine lv_iload_n hx hb d_Flags_turnRound_16 rfl (lv_at hl 2 rfl) ?_
    refine lv_bipush (v := 32) hx hb d_Flags_turnRound_17 (by decide) ?_
    refine lv_iload_n hx hb d_Flags_turnRound_19 rfl (lv_at hl 0 rfl) ?_
    refine lv_isub hx hb d_Flags_turnRound_20 ?_
    refine lv_ishl hx hb d_Flags_turnRound_21 ?_
    refine lv_ior hx hb d_Flags_turnRound_22 ?_
    exact J_23 H locs ls c_negative c_zero c_carry x2 ((o_iushr x1 v1) ||| (o_ishl x1 (32 - v1))) hP hD hS (lv_sub hl [1, 3] rfl) hq
  · have hq := hq.trans (if_neg (fun g => g g_6))
    refine lv_iload_n hx hb d_Flags_turnRound_9 rfl (lv_at hl 2 rfl) ?_
    refine lv_goto (tgt := 23) hx hb d_Flags_turnRound_10 (by decide) ?_
    exact J_23 H locs ls c_negative c_zero c_carry x2 x1 hP hD hS (lv_sub hl [1, 3] rfl) hq
abbrev rm_Flags_even : Room := { frames := 1, cells := 0, slots := 0, locals := 24 }
set_option maxHeartbeats 4000000 in
set_option maxRecDepth 100000 in
theorem c_Flags_even (l : Launch) (D : va_G) (cI cB cZ : ClassId) (h sz : Nat) (c_negative : Bool) (c_zero : Bool) (c_carry : Bool) (c_overflow : Bool) (x1 : Int32) : Met l y_Flags_even (.code y_Flags_even b_Flags_even 2 (some .boolean) :: tcb) rm_Flags_even (tc_Pw D tcl (tys cI cB cZ) (wd_Flags cI cB cZ h c_negative c_zero c_carry c_overflow) sz ([.ref h, .int x1] : List Value) none) (QcRead (bI (f_Flags_even c_negative c_zero c_carry c_overflow x1))) 0 0 (fun _ => False) := by
  refine tc_rd_z (by decide) (Nat.le_of_ble_eq_true rfl) ?_
  intro p e s m below meth c Q ls hx hb hml hts hown hK hN hP hD hl RET
  have hl : lv_has ls 2 [(0, .ref h), (1, .int x1)] := hl
  generalize hF : f_Flags_even c_negative c_zero c_carry c_overflow x1 = FF at RET
  have hq : FF = f_Flags_even c_negative c_zero c_carry c_overflow x1 := hF.symm
  refine lv_iload_n hx hb d_Flags_even_0 rfl (lv_at hl 1 rfl) ?_
  by_cases g_1_0 : x1 = 0
  · have hq := hq.trans (if_pos g_1_0)
    refine tc_tabIn (k := 0) (off := 39) (tgt := 40) hx hb d_Flags_even_1 g_1_0 (by decide) (by decide) (by decide +kernel) (by decide) ?_
    refine lv_aload_n hx hb d_Flags_even_40 rfl (lv_at hl 0 rfl) ?_
    refine va_get (D := D) (ci := 2) (v := .int (bI c_zero)) (C := R_Flags) (T := F_Flags) (N := 4) hx hb hts u_Flags hown hK hP 0 rfl rfl 1 (by decide) (hts _ wf_Flags_14) (fun _ h9 => h9) rfl d_Flags_even_41 ?_
    exact RET ls 44 d_Flags_even_44 hq
  have hq := hq.trans (if_neg g_1_0)
  by_cases g_1_1 : x1 = 1
  · have hq := hq.trans (if_pos g_1_1)
    refine tc_tabIn (k := 1) (off := 44) (tgt := 45) hx hb d_Flags_even_1 g_1_1 (by decide) (by decide) (by decide +kernel) (by decide) ?_
    refine lv_aload_n hx hb d_Flags_even_45 rfl (lv_at hl 0 rfl) ?_
    refine va_get (D := D) (ci := 2) (v := .int (bI c_carry)) (C := R_Flags) (T := F_Flags) (N := 4) hx hb hts u_Flags hown hK hP 0 rfl rfl 2 (by decide) (hts _ wf_Flags_18) (fun _ h9 => h9) rfl d_Flags_even_46 ?_
    exact RET ls 49 d_Flags_even_49 hq
  have hq := hq.trans (if_neg g_1_1)
  by_cases g_1_2 : x1 = 2
  · have hq := hq.trans (if_pos g_1_2)
    refine tc_tabIn (k := 2) (off := 49) (tgt := 50) hx hb d_Flags_even_1 g_1_2 (by decide) (by decide) (by decide +kernel) (by decide) ?_
    refine lv_aload_n hx hb d_Flags_even_50 rfl (lv_at hl 0 rfl) ?_
    refine va_get (D := D) (ci := 2) (v := .int (bI c_negative)) (C := R_Flags) (T := F_Flags) (N := 4) hx hb hts u_Flags hown hK hP 0 rfl rfl 0 (by decide) (hts _ wf_Flags_7) (fun _ h9 => h9) rfl d_Flags_even_51 ?_
    exact RET ls 54 d_Flags_even_54 hq
  have hq := hq.trans (if_neg g_1_2)
  by_cases g_1_3 : x1 = 3
  · have hq := hq.trans (if_pos g_1_3)
    refine tc_tabIn (k := 3) (off := 54) (tgt := 55) hx hb d_Flags_even_1 g_1_3 (by decide) (by decide) (by decide +kernel) (by decide) ?_
    refine lv_aload_n hx hb d_Flags_even_55 rfl (lv_at hl 0 rfl) ?_
    refine va_get (D := D) (ci := 2) (v := .int (bI c_overflow)) (C := R_Flags) (T := F_Flags) (N := 4) hx hb hts u_Flags hown hK hP 0 rfl rfl 3 (by decide) (hts _ wf_Flags_22) (fun _ h9 => h9) rfl d_Flags_even_56 ?_
    exact RET ls 59 d_Flags_even_59 hq
  have hq := hq.trans (if_neg g_1_3)
  by_cases g_1_4 : x1 = 4
  · have hq := hq.trans (if_pos g_1_4)
    refine tc_tabIn (k := 4) (off := 59) (tgt := 60) hx hb d_Flags_even_1 g_1_4 (by decide) (by decide) (by decide +kernel) (by decide) ?_
    refine lv_aload_n hx hb d_Flags_even_60 rfl (lv_at hl 0 rfl) ?_
    refine va_get (D := D) (ci := 2) (v := .int (bI c_carry)) (C := R_Flags) (T := F_Flags) (N := 4) hx hb hts u_Flags hown hK hP 0 rfl rfl 2 (by decide) (hts _ wf_Flags_18) (fun _ h9 => h9) rfl d_Flags_even_61 ?_
    refine lv_if_eq (tgt := 78) hx hb d_Flags_even_64 (by decide) (fun g_64 => ?_) (fun g_64 => ?_)
    · have hq := hq.trans (if_pos g_64)
      refine lv_iconst (v := 0) hx hb d_Flags_even_78 (by decide) ?_
      exact RET ls 79 d_Flags_even_79 hq
    · have hq := hq.trans (if_neg g_64)
      refine lv_aload_n hx hb d_Flags_even_67 rfl (lv_at hl 0 rfl) ?_
      refine va_get (D := D) (ci := 2) (v := .int (bI c_zero)) (C := R_Flags) (T := F_Flags) (N := 4) hx hb hts u_Flags hown hK hP 0 rfl rfl 1 (by decide) (hts _ wf_Flags_14) (fun _ h9 => h9) rfl d_Flags_even_68 ?_
      refine lv_if_ne (tgt := 78) hx hb d_Flags_even_71 (by decide) (fun g_71 => ?_) (fun g_71 => ?_)
      · have hq := hq.trans (if_pos g_71)
        refine lv_iconst (v := 0) hx hb d_Flags_even_78 (by decide) ?_
        exact RET ls 79 d_Flags_even_79 hq
      · have hq := hq.trans (if_neg (fun g => g g_71))
        refine lv_iconst (v := 1) hx hb d_Flags_even_74 (by decide) ?_
        refine lv_goto (tgt := 79) hx hb d_Flags_even_75 (by decide) ?_
        exact RET ls 79 d_Flags_even_79 hq
  have hq := hq.trans (if_neg g_1_4)
  by_cases g_1_5 : x1 = 5
  · have hq := hq.trans (if_pos g_1_5)
    refine tc_tabIn (k := 5) (off := 79) (tgt := 80) hx hb d_Flags_even_1 g_1_5 (by decide) (by decide) (by decide +kernel) (by decide) ?_
    refine lv_aload_n hx hb d_Flags_even_80 rfl (lv_at hl 0 rfl) ?_
    refine va_get (D := D) (ci := 2) (v := .int (bI c_negative)) (C := R_Flags) (T := F_Flags) (N := 4) hx hb hts u_Flags hown hK hP 0 rfl rfl 0 (by decide) (hts _ wf_Flags_7) (fun _ h9 => h9) rfl d_Flags_even_81 ?_
    refine lv_aload_n hx hb d_Flags_even_84 rfl (lv_at hl 0 rfl) ?_
    refine va_get (D := D) (ci := 2) (v := .int (bI c_overflow)) (C := R_Flags) (T := F_Flags) (N := 4) hx hb hts u_Flags hown hK hP 0 rfl rfl 3 (by decide) (hts _ wf_Flags_22) (fun _ h9 => h9) rfl d_Flags_even_85 ?_
    refine lv_icmp_ne (tgt := 95) hx hb d_Flags_even_88 (by decide) (fun g_88 => ?_) (fun g_88 => ?_)
    · have hq := hq.trans (if_pos g_88)
      refine lv_iconst (v := 0) hx hb d_Flags_even_95 (by decide) ?_
      exact RET ls 96 d_Flags_even_96 hq
    · have hq := hq.trans (if_neg (fun g => g g_88))
      refine lv_iconst (v := 1) hx hb d_Flags_even_91 (by decide) ?_
      refine lv_goto (tgt := 96) hx hb d_Flags_even_92 (by decide) ?_
      exact RET ls 96 d_Flags_even_96 hq
  have hq := hq.trans (if_neg g_1_5)
  have DF : W p l e rm_Flags_even s m ([.ref h, .int x1] : List Value).toArray below meth c s.heap [] 0 0 Q (F0 m 97 ls []) := by
    refine lv_aload_n hx hb d_Flags_even_97 rfl (lv_at hl 0 rfl) ?_
    refine va_get (D := D) (ci := 2) (v := .int (bI c_zero)) (C := R_Flags) (T := F_Flags) (N := 4) hx hb hts u_Flags hown hK hP 0 rfl rfl 1 (by decide) (hts _ wf_Flags_14) (fun _ h9 => h9) rfl d_Flags_even_98 ?_
    refine lv_if_ne (tgt := 119) hx hb d_Flags_even_101 (by decide) (fun g_101 => ?_) (fun g_101 => ?_)
    · have hq := hq.trans (if_pos g_101)
      refine lv_iconst (v := 0) hx hb d_Flags_even_119 (by decide) ?_
      exact RET ls 120 d_Flags_even_120 hq
    · have hq := hq.trans (if_neg (fun g => g g_101))
      refine lv_aload_n hx hb d_Flags_even_104 rfl (lv_at hl 0 rfl) ?_
      refine va_get (D := D) (ci := 2) (v := .int (bI c_negative)) (C := R_Flags) (T := F_Flags) (N := 4) hx hb hts u_Flags hown hK hP 0 rfl rfl 0 (by decide) (hts _ wf_Flags_7) (fun _ h9 => h9) rfl d_Flags_even_105 ?_
      refine lv_aload_n hx hb d_Flags_even_108 rfl (lv_at hl 0 rfl) ?_
      refine va_get (D := D) (ci := 2) (v := .int (bI c_overflow)) (C := R_Flags) (T := F_Flags) (N := 4) hx hb hts u_Flags hown hK hP 0 rfl rfl 3 (by decide) (hts _ wf_Flags_22) (fun _ h9 => h9) rfl d_Flags_even_109 ?_
      refine lv_icmp_ne (tgt := 119) hx hb d_Flags_even_112 (by decide) (fun g_112 => ?_) (fun g_112 => ?_)
      · have hq := hq.trans (if_pos g_112)
        refine lv_iconst (v := 0) hx hb d_Flags_even_119 (by decide) ?_
        exact RET ls 120 d_Flags_even_120 hq
      · have hq := hq.trans (if_neg (fun g => g g_112))
        refine lv_iconst (v := 1) hx hb d_Flags_even_115 (by decide) ?_
        refine lv_goto (tgt := 120) hx hb d_Flags_even_116 (by decide) ?_
        exact RET ls 120 d_Flags_even_120 hq
  exact lv_tableOut (x := x1) hx hb d_Flags_even_1 (by have n0 := tc_ne (j := 0) g_1_0 (by decide); have n1 := tc_ne (j := 1) g_1_1 (by decide); have n2 := tc_ne (j := 2) g_1_2 (by decide); have n3 := tc_ne (j := 3) g_1_3 (by decide); have n4 := tc_ne (j := 4) g_1_4 (by decide); have n5 := tc_ne (j := 5) g_1_5 (by decide); omega) (by decide) DF
abbrev rm_Flags_meet : Room := { frames := 2, cells := 0, slots := 0, locals := 45 }
set_option maxHeartbeats 4000000 in
set_option maxRecDepth 100000 in
theorem c_Flags_meet (l : Launch) (D : va_G) (cI cB cZ : ClassId) (h sz : Nat) (c_negative : Bool) (c_zero : Bool) (c_carry : Bool) (c_overflow : Bool) (x1 : Int32) : Met l y_Flags_meet (.code y_Flags_meet b_Flags_meet 2 (some .boolean) :: tcb) rm_Flags_meet (tc_Pw D tcl (tys cI cB cZ) (wd_Flags cI cB cZ h c_negative c_zero c_carry c_overflow) sz ([.ref h, .int x1] : List Value) none) (QcRead (bI (f_Flags_meet c_negative c_zero c_carry c_overflow x1))) 0 0 (fun _ => False) := by
  refine tc_rd_z (by decide) (Nat.le_of_ble_eq_true rfl) ?_
  intro p e s m below meth c Q ls hx hb hml hts hown hK hN hP hD hl RET
  have hl : lv_has ls 2 [(0, .ref h), (1, .int x1)] := hl
  generalize hF : f_Flags_meet c_negative c_zero c_carry c_overflow x1 = FF at RET
  have J_19 : ∀ (ls : Array Slot) (z0 : Bool) (z1 : Bool), lv_has ls 2 [] → FF = k_Flags_meet_19 c_negative c_zero c_carry c_overflow z0 z1 → W p l e rm_Flags_meet s m ([.ref h, .int x1] : List Value).toArray below meth c s.heap [] 0 0 Q (F0 m 19 ls [.int (bI z1), .int (bI z0)]) := by
    intro ls z0 z1 hl hq
    refine lv_icmp_eq (tgt := 26) hx hb d_Flags_meet_19 (by decide) (fun g_19 => ?_) (fun g_19 => ?_)
    · have hq := hq.trans (if_pos g_19)
      refine lv_iconst (v := 0) hx hb d_Flags_meet_26 (by decide) ?_
      exact RET ls 27 d_Flags_meet_27 hq
    · have hq := hq.trans (if_neg g_19)
      refine lv_iconst (v := 1) hx hb d_Flags_meet_22 (by decide) ?_
      refine lv_goto (tgt := 27) hx hb d_Flags_meet_23 (by decide) ?_
      exact RET ls 27 d_Flags_meet_27 hq
  have hq : FF = f_Flags_meet c_negative c_zero c_carry c_overflow x1 := hF.symm
  refine lv_aload_n hx hb d_Flags_meet_0 rfl (lv_at hl 0 rfl) ?_
  refine lv_iload_n hx hb d_Flags_meet_1 rfl (lv_at hl 1 rfl) ?_
  refine lv_iconst (v := 1) hx hb d_Flags_meet_2 (by decide) ?_
  refine lv_iushr (v := (o_iushr x1 1)) hx hb d_Flags_meet_3 rfl ?_
  refine tc_rd (va_runV (As := [.int (o_iushr x1 1)]) (rest := []) ⟨hx, hb, hml, hown, hts⟩ (c_Flags_even l D cI cB cZ h s.heap.size c_negative c_zero c_carry c_overflow (o_iushr x1 1)) (cwV 1 hts (tc_gV wl_Flags_38 wm_Flags_even ws_Flags_even wi_Flags wc_Flags_even) rfl rfl rfl (by decide +kernel) ⟨Nat.le_of_ble_eq_true rfl, Nat.le_of_ble_eq_true rfl⟩) (tc_preV hK hN hP hD [0] rfl (by decide) (q0 := 0) rfl rfl) rfl rfl hl.1 rfl (lv_room (Nat.le_of_ble_eq_true rfl)) d_Flags_meet_4 (by decide)) ?_
  refine tc_topb (fun v1 e_v1 => ?_)
  have hq := tc_nm hq e_v1
  refine lv_iload_n hx hb d_Flags_meet_7 rfl (lv_at hl 1 rfl) ?_
  refine lv_iconst (v := 1) hx hb d_Flags_meet_8 (by decide) ?_
  refine lv_iand hx hb d_Flags_meet_9 ?_
  refine lv_iconst (v := 1) hx hb d_Flags_meet_10 (by decide) ?_
  refine lv_icmp_ne (tgt := 18) hx hb d_Flags_meet_11 (by decide) (fun g_11 => ?_) (fun g_11 => ?_)
  · have hq := hq.trans (if_pos g_11)
    refine lv_iconst (v := 0) hx hb d_Flags_meet_18 (by decide) ?_
    exact J_19 ls v1 false (lv_sub hl [] rfl) hq
  · have hq := hq.trans (if_neg (fun g => g g_11))
    refine lv_iconst (v := 1) hx hb d_Flags_meet_14 (by decide) ?_
    refine lv_goto (tgt := 19) hx hb d_Flags_meet_15 (by decide) ?_
    exact J_19 ls v1 true (lv_sub hl [] rfl) hq

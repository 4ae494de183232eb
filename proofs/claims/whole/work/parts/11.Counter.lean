abbrev wd_Counter (cI cB cZ : ClassId) (h : Nat) (c_number : Int32) (c_reload : Int32) (c_on : Bool) : va_W := [(h, .inr (0, [.int c_number, .int c_reload, .int (bI c_on)]))]
abbrev rm_Counter_begin : Room := { frames := 1, cells := 0, slots := 0, locals := 24 }
set_option maxHeartbeats 4000000 in
set_option maxRecDepth 100000 in
theorem c_Counter_begin (l : Launch) (D : va_G) (cI cB cZ : ClassId) (h sz : Nat) (c_number : Int32) (c_reload : Int32) (c_on : Bool) (x1 : Int32) (x2 : Bool) : Met l y_Counter_begin (.code y_Counter_begin b_Counter_begin 3 none :: tcb) rm_Counter_begin (tc_Pw D tcl (tys cI cB cZ) (wd_Counter cI cB cZ h c_number c_reload c_on) sz ([.ref h, .int x1, .int (bI x2)] : List Value) none) (tc_Qv D tcl (wd_Counter cI cB cZ h c_number c_reload c_on) sz (fun u => (wd_Counter cI cB cZ h u.1 u.2.1 u.2.2)) (f_Counter_begin c_number c_reload c_on x1 x2)) 0 0 (va_A (wd_Counter cI cB cZ h c_number c_reload c_on) sz) := by
  refine tc_mu_v (by decide) (Nat.le_of_ble_eq_true rfl) ?_
  intro p e s m below meth c A Q ls hx hb hml hts hown hK hN hP hD hA hZ hl RET
  have hS : va_S A s.heap s.heap [] := va_S.rf
  have hl : lv_has ls 3 [(0, .ref h), (1, .int x1), (2, .int (bI x2))] := hl
  generalize hF : f_Counter_begin c_number c_reload c_on x1 x2 = FF at RET
  have hq : FF = f_Counter_begin c_number c_reload c_on x1 x2 := hF.symm
  revert hP hD hS
  suffices G : ∀ (H : Heap) (locs : List Loc), va_P D tcl (wd_Counter cI cB cZ h c_number c_reload c_on) H → va_D A (wd_Counter cI cB cZ h c_number c_reload c_on) → va_S A s.heap H locs → W p l e rm_Counter_begin s m ([.ref h, .int x1, .int (bI x2)] : List Value).toArray below meth c H locs 0 0 Q (F0 m 0 ls []) from fun hP hD hS => G _ _ hP hD hS
  intro H locs hP hD hS
  refine lv_aload_n hx hb d_Counter_begin_0 rfl (lv_at hl 0 rfl) ?_
  refine lv_iconst (v := 0) hx hb d_Counter_begin_1 (by decide) ?_
  refine va_put (D := D) (ci := 0) (v := .int 0) (ty := .int) (C := R_Counter) (T := F_Counter) (N := 3) hx hb hts u_Counter t_Counter t_Counter_ok n_Counter hown hK hP hD hS 0 rfl rfl 0 (by decide) (hts _ wf_Counter_7) (fun _ h9 => h9) rfl (by decide +kernel) rfl rfl (Nat.le_of_ble_eq_true rfl) d_Counter_begin_2 (fun H locs hP hD hS => ?_)
  have hP : va_P D tcl (wd_Counter cI cB cZ h 0 c_reload c_on) H := hP
  have hD : va_D A (wd_Counter cI cB cZ h 0 c_reload c_on) := hD
  refine lv_aload_n hx hb d_Counter_begin_5 rfl (lv_at hl 0 rfl) ?_
  refine lv_iload_n hx hb d_Counter_begin_6 rfl (lv_at hl 1 rfl) ?_
  refine va_put (D := D) (ci := 0) (v := .int x1) (ty := .int) (C := R_Counter) (T := F_Counter) (N := 3) hx hb hts u_Counter t_Counter t_Counter_ok n_Counter hown hK hP hD hS 0 rfl rfl 1 (by decide) (hts _ wf_Counter_13) (fun _ h9 => h9) rfl (by decide +kernel) rfl rfl (Nat.le_of_ble_eq_true rfl) d_Counter_begin_7 (fun H locs hP hD hS => ?_)
  have hP : va_P D tcl (wd_Counter cI cB cZ h 0 x1 c_on) H := hP
  have hD : va_D A (wd_Counter cI cB cZ h 0 x1 c_on) := hD
  refine lv_aload_n hx hb d_Counter_begin_10 rfl (lv_at hl 0 rfl) ?_
  refine lv_iload_n hx hb d_Counter_begin_11 rfl (lv_at hl 2 rfl) ?_
  refine va_put (D := D) (ci := 0) (v := .int (bI x2)) (ty := .boolean) (C := R_Counter) (T := F_Counter) (N := 3) hx hb hts u_Counter t_Counter t_Counter_ok n_Counter hown hK hP hD hS 0 rfl rfl 2 (by decide) (hts _ wf_Counter_16) (fun _ h9 => h9) rfl (by decide +kernel) (tc_nb x2) (tc_fb x2) (Nat.le_of_ble_eq_true rfl) d_Counter_begin_12 (fun H locs hP hD hS => ?_)
  have hP : va_P D tcl (wd_Counter cI cB cZ h 0 x1 x2) H := hP
  have hD : va_D A (wd_Counter cI cB cZ h 0 x1 x2) := hD
  exact RET H locs ls 15 (0, x1, x2) d_Counter_begin_15 hP hD hS hq
abbrev rm_Counter_moves : Room := { frames := 1, cells := 0, slots := 0, locals := 24 }
set_option maxHeartbeats 4000000 in
set_option maxRecDepth 100000 in
theorem c_Counter_moves (l : Launch) (D : va_G) (cI cB cZ : ClassId) (h sz : Nat) (c_number : Int32) (c_reload : Int32) (c_on : Bool) : Met l y_Counter_moves (.code y_Counter_moves b_Counter_moves 1 (some .boolean) :: tcb) rm_Counter_moves (tc_Pw D tcl (tys cI cB cZ) (wd_Counter cI cB cZ h c_number c_reload c_on) sz ([.ref h] : List Value) none) (tc_Qz D tcl (wd_Counter cI cB cZ h c_number c_reload c_on) sz (fun u => (wd_Counter cI cB cZ h u.2 c_reload c_on)) (f_Counter_moves c_reload c_on c_number)) 0 0 (va_A (wd_Counter cI cB cZ h c_number c_reload c_on) sz) := by
  refine tc_mu_z (by decide) (Nat.le_of_ble_eq_true rfl) ?_
  intro p e s m below meth c A Q ls hx hb hml hts hown hK hN hP hD hA hZ hl RET
  have hS : va_S A s.heap s.heap [] := va_S.rf
  have hl : lv_has ls 1 [(0, .ref h)] := hl
  generalize hF : f_Counter_moves c_reload c_on c_number = FF at RET
  have hq : FF = f_Counter_moves c_reload c_on c_number := hF.symm
  revert hP hD hS
  suffices G : ∀ (H : Heap) (locs : List Loc), va_P D tcl (wd_Counter cI cB cZ h c_number c_reload c_on) H → va_D A (wd_Counter cI cB cZ h c_number c_reload c_on) → va_S A s.heap H locs → W p l e rm_Counter_moves s m ([.ref h] : List Value).toArray below meth c H locs 0 0 Q (F0 m 0 ls []) from fun hP hD hS => G _ _ hP hD hS
  intro H locs hP hD hS
  refine lv_aload_n hx hb d_Counter_moves_0 rfl (lv_at hl 0 rfl) ?_
  refine va_get (D := D) (ci := 0) (v := .int (bI c_on)) (C := R_Counter) (T := F_Counter) (N := 3) hx hb hts u_Counter hown hK hP 0 rfl rfl 2 (by decide) (hts _ wf_Counter_16) (fun _ h9 => h9) rfl d_Counter_moves_1 ?_
  refine lv_if_ne (tgt := 9) hx hb d_Counter_moves_4 (by decide) (fun g_4 => ?_) (fun g_4 => ?_)
  · have hq := hq.trans (if_pos g_4)
    refine lv_aload_n hx hb d_Counter_moves_9 rfl (lv_at hl 0 rfl) ?_
    refine va_get (D := D) (ci := 0) (v := .int c_number) (C := R_Counter) (T := F_Counter) (N := 3) hx hb hts u_Counter hown hK hP 0 rfl rfl 0 (by decide) (hts _ wf_Counter_7) (fun _ h9 => h9) rfl d_Counter_moves_10 ?_
    refine lv_if_ne (tgt := 26) hx hb d_Counter_moves_13 (by decide) (fun g_13 => ?_) (fun g_13 => ?_)
    · have hq := hq.trans (if_pos g_13)
      refine lv_aload_n hx hb d_Counter_moves_26 rfl (lv_at hl 0 rfl) ?_
      refine lv_dup hx hb d_Counter_moves_27 rfl ?_
      refine va_get (D := D) (ci := 0) (v := .int c_number) (C := R_Counter) (T := F_Counter) (N := 3) hx hb hts u_Counter hown hK hP 0 rfl rfl 0 (by decide) (hts _ wf_Counter_7) (fun _ h9 => h9) rfl d_Counter_moves_28 ?_
      refine lv_iconst (v := 1) hx hb d_Counter_moves_31 (by decide) ?_
      refine lv_isub hx hb d_Counter_moves_32 ?_
      refine va_put (D := D) (ci := 0) (v := .int (c_number - 1)) (ty := .int) (C := R_Counter) (T := F_Counter) (N := 3) hx hb hts u_Counter t_Counter t_Counter_ok n_Counter hown hK hP hD hS 0 rfl rfl 0 (by decide) (hts _ wf_Counter_7) (fun _ h9 => h9) rfl (by decide +kernel) rfl rfl (Nat.le_of_ble_eq_true rfl) d_Counter_moves_33 (fun H locs hP hD hS => ?_)
      have hP : va_P D tcl (wd_Counter cI cB cZ h (c_number - 1) c_reload c_on) H := hP
      have hD : va_D A (wd_Counter cI cB cZ h (c_number - 1) c_reload c_on) := hD
      refine lv_aload_n hx hb d_Counter_moves_36 rfl (lv_at hl 0 rfl) ?_
      refine va_get (D := D) (ci := 0) (v := .int (c_number - 1)) (C := R_Counter) (T := F_Counter) (N := 3) hx hb hts u_Counter hown hK hP 0 rfl rfl 0 (by decide) (hts _ wf_Counter_7) (fun _ h9 => h9) rfl d_Counter_moves_37 ?_
      refine lv_if_ne (tgt := 47) hx hb d_Counter_moves_40 (by decide) (fun g_40 => ?_) (fun g_40 => ?_)
      · have hq := hq.trans (if_pos g_40)
        refine lv_iconst (v := 0) hx hb d_Counter_moves_47 (by decide) ?_
        exact RET H locs ls 48 (false, (c_number - 1)) d_Counter_moves_48 hP hD hS hq
      · have hq := hq.trans (if_neg (fun g => g g_40))
        refine lv_iconst (v := 1) hx hb d_Counter_moves_43 (by decide) ?_
        refine lv_goto (tgt := 48) hx hb d_Counter_moves_44 (by decide) ?_
        exact RET H locs ls 48 (true, (c_number - 1)) d_Counter_moves_48 hP hD hS hq
    · have hq := hq.trans (if_neg (fun g => g g_13))
      refine lv_aload_n hx hb d_Counter_moves_16 rfl (lv_at hl 0 rfl) ?_
      refine lv_aload_n hx hb d_Counter_moves_17 rfl (lv_at hl 0 rfl) ?_
      refine va_get (D := D) (ci := 0) (v := .int c_reload) (C := R_Counter) (T := F_Counter) (N := 3) hx hb hts u_Counter hown hK hP 0 rfl rfl 1 (by decide) (hts _ wf_Counter_13) (fun _ h9 => h9) rfl d_Counter_moves_18 ?_
      refine va_put (D := D) (ci := 0) (v := .int c_reload) (ty := .int) (C := R_Counter) (T := F_Counter) (N := 3) hx hb hts u_Counter t_Counter t_Counter_ok n_Counter hown hK hP hD hS 0 rfl rfl 0 (by decide) (hts _ wf_Counter_7) (fun _ h9 => h9) rfl (by decide +kernel) rfl rfl (Nat.le_of_ble_eq_true rfl) d_Counter_moves_21 (fun H locs hP hD hS => ?_)
      have hP : va_P D tcl (wd_Counter cI cB cZ h c_reload c_reload c_on) H := hP
      have hD : va_D A (wd_Counter cI cB cZ h c_reload c_reload c_on) := hD
      refine lv_iconst (v := 0) hx hb d_Counter_moves_24 (by decide) ?_
      exact RET H locs ls 25 (false, c_reload) d_Counter_moves_25 hP hD hS hq
  · have hq := hq.trans (if_neg (fun g => g g_4))
    refine lv_iconst (v := 0) hx hb d_Counter_moves_7 (by decide) ?_
    exact RET H locs ls 8 (false, c_number) d_Counter_moves_8 hP hD hS hq

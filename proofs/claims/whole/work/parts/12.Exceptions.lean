abbrev wd_Exceptions (cI cB cZ : ClassId) (h h_priorities : Nat) (c_pending : Int32) (c_active : Int32) (c_current : Int32) (c_masked : Bool) (c_priorities : Nat → Int32) : va_W := [(h, .inr (1, [.ref h_priorities, .int c_pending, .int c_active, .int c_current, .int (bI c_masked)])), (h_priorities, .inl (cI, 16, .inl c_priorities))]
abbrev rm_Exceptions_clear : Room := { frames := 1, cells := 0, slots := 0, locals := 24 }
set_option maxHeartbeats 4000000 in
set_option maxRecDepth 100000 in
theorem c_Exceptions_clear (l : Launch) (D : va_G) (cI cB cZ : ClassId) (h h_priorities sz : Nat) (c_pending : Int32) (c_active : Int32) (c_current : Int32) (c_masked : Bool) (c_priorities : Nat → Int32) : Met l y_Exceptions_clear (.code y_Exceptions_clear b_Exceptions_clear 1 none :: tcb) rm_Exceptions_clear (tc_Pw D tcl (tys cI cB cZ) (wd_Exceptions cI cB cZ h h_priorities c_pending c_active c_current c_masked c_priorities) sz ([.ref h] : List Value) none) (tc_Qv D tcl (wd_Exceptions cI cB cZ h h_priorities c_pending c_active c_current c_masked c_priorities) sz (fun u => (wd_Exceptions cI cB cZ h h_priorities u.1 u.2.1 u.2.2.1 u.2.2.2 c_priorities)) (f_Exceptions_clear c_pending c_active c_current c_masked)) 0 0 (va_A (wd_Exceptions cI cB cZ h h_priorities c_pending c_active c_current c_masked c_priorities) sz) := by
  refine tc_mu_v (by decide) (Nat.le_of_ble_eq_true rfl) ?_
  intro p e s m below meth c A Q ls hx hb hml hts hown hK hN hP hD hA hZ hl RET
  have hS : va_S A s.heap s.heap [] := va_S.rf
  have hl : lv_has ls 1 [(0, .ref h)] := hl
  generalize hF : f_Exceptions_clear c_pending c_active c_current c_masked = FF at RET
  have hq : FF = f_Exceptions_clear c_pending c_active c_current c_masked := hF.symm
  revert hP hD hS
  suffices G : ∀ (H : Heap) (locs : List Loc), va_P D tcl (wd_Exceptions cI cB cZ h h_priorities c_pending c_active c_current c_masked c_priorities) H → va_D A (wd_Exceptions cI cB cZ h h_priorities c_pending c_active c_current c_masked c_priorities) → va_S A s.heap H locs → W p l e rm_Exceptions_clear s m ([.ref h] : List Value).toArray below meth c H locs 0 0 Q (F0 m 0 ls []) from fun hP hD hS => G _ _ hP hD hS
  intro H locs hP hD hS
  refine lv_aload_n hx hb d_Exceptions_clear_0 rfl (lv_at hl 0 rfl) ?_
  refine lv_iconst (v := 0) hx hb d_Exceptions_clear_1 (by decide) ?_
  refine va_put (D := D) (ci := 1) (v := .int 0) (ty := .int) (C := R_Exceptions) (T := F_Exceptions) (N := 5) hx hb hts u_Exceptions t_Exceptions t_Exceptions_ok n_Exceptions hown hK hP hD hS 0 rfl rfl 1 (by decide) (hts _ wf_Exceptions_15) (fun _ h9 => h9) rfl (by decide +kernel) rfl rfl (Nat.le_of_ble_eq_true rfl) d_Exceptions_clear_2 (fun H locs hP hD hS => ?_)
  have hP : va_P D tcl (wd_Exceptions cI cB cZ h h_priorities 0 c_active c_current c_masked c_priorities) H := hP
  have hD : va_D A (wd_Exceptions cI cB cZ h h_priorities 0 c_active c_current c_masked c_priorities) := hD
  refine lv_aload_n hx hb d_Exceptions_clear_5 rfl (lv_at hl 0 rfl) ?_
  refine lv_iconst (v := 0) hx hb d_Exceptions_clear_6 (by decide) ?_
  refine va_put (D := D) (ci := 1) (v := .int 0) (ty := .int) (C := R_Exceptions) (T := F_Exceptions) (N := 5) hx hb hts u_Exceptions t_Exceptions t_Exceptions_ok n_Exceptions hown hK hP hD hS 0 rfl rfl 2 (by decide) (hts _ wf_Exceptions_19) (fun _ h9 => h9) rfl (by decide +kernel) rfl rfl (Nat.le_of_ble_eq_true rfl) d_Exceptions_clear_7 (fun H locs hP hD hS => ?_)
  have hP : va_P D tcl (wd_Exceptions cI cB cZ h h_priorities 0 0 c_current c_masked c_priorities) H := hP
  have hD : va_D A (wd_Exceptions cI cB cZ h h_priorities 0 0 c_current c_masked c_priorities) := hD
  refine lv_aload_n hx hb d_Exceptions_clear_10 rfl (lv_at hl 0 rfl) ?_
  refine lv_iconst (v := 0) hx hb d_Exceptions_clear_11 (by decide) ?_
  refine va_put (D := D) (ci := 1) (v := .int 0) (ty := .int) (C := R_Exceptions) (T := F_Exceptions) (N := 5) hx hb hts u_Exceptions t_Exceptions t_Exceptions_ok n_Exceptions hown hK hP hD hS 0 rfl rfl 3 (by decide) (hts _ wf_Exceptions_22) (fun _ h9 => h9) rfl (by decide +kernel) rfl rfl (Nat.le_of_ble_eq_true rfl) d_Exceptions_clear_12 (fun H locs hP hD hS => ?_)
  have hP : va_P D tcl (wd_Exceptions cI cB cZ h h_priorities 0 0 0 c_masked c_priorities) H := hP
  have hD : va_D A (wd_Exceptions cI cB cZ h h_priorities 0 0 0 c_masked c_priorities) := hD
  refine lv_aload_n hx hb d_Exceptions_clear_15 rfl (lv_at hl 0 rfl) ?_
  refine lv_iconst (v := 0) hx hb d_Exceptions_clear_16 (by decide) ?_
  refine va_put (D := D) (ci := 1) (v := .int (bI false)) (ty := .boolean) (C := R_Exceptions) (T := F_Exceptions) (N := 5) hx hb hts u_Exceptions t_Exceptions t_Exceptions_ok n_Exceptions hown hK hP hD hS 0 rfl rfl 4 (by decide) (hts _ wf_Exceptions_25) (fun _ h9 => h9) rfl (by decide +kernel) (tc_nb false) (tc_fb false) (Nat.le_of_ble_eq_true rfl) d_Exceptions_clear_17 (fun H locs hP hD hS => ?_)
  have hP : va_P D tcl (wd_Exceptions cI cB cZ h h_priorities 0 0 0 false c_priorities) H := hP
  have hD : va_D A (wd_Exceptions cI cB cZ h h_priorities 0 0 0 false c_priorities) := hD
  exact RET H locs ls 20 (0, 0, 0, false) d_Exceptions_clear_20 hP hD hS hq
abbrev rm_Exceptions_await : Room := { frames := 1, cells := 0, slots := 0, locals := 24 }
set_option maxHeartbeats 4000000 in
set_option maxRecDepth 100000 in
theorem c_Exceptions_await (l : Launch) (D : va_G) (cI cB cZ : ClassId) (h h_priorities sz : Nat) (c_pending : Int32) (c_active : Int32) (c_current : Int32) (c_masked : Bool) (c_priorities : Nat → Int32) (x1 : Int32) : Met l y_Exceptions_await (.code y_Exceptions_await b_Exceptions_await 2 none :: tcb) rm_Exceptions_await (tc_Pw D tcl (tys cI cB cZ) (wd_Exceptions cI cB cZ h h_priorities c_pending c_active c_current c_masked c_priorities) sz ([.ref h, .int x1] : List Value) none) (tc_Qv D tcl (wd_Exceptions cI cB cZ h h_priorities c_pending c_active c_current c_masked c_priorities) sz (fun u => (wd_Exceptions cI cB cZ h h_priorities u c_active c_current c_masked c_priorities)) (f_Exceptions_await c_pending x1)) 0 0 (va_A (wd_Exceptions cI cB cZ h h_priorities c_pending c_active c_current c_masked c_priorities) sz) := by
  refine tc_mu_v (by decide) (Nat.le_of_ble_eq_true rfl) ?_
  intro p e s m below meth c A Q ls hx hb hml hts hown hK hN hP hD hA hZ hl RET
  have hS : va_S A s.heap s.heap [] := va_S.rf
  have hl : lv_has ls 2 [(0, .ref h), (1, .int x1)] := hl
  generalize hF : f_Exceptions_await c_pending x1 = FF at RET
  have hq : FF = f_Exceptions_await c_pending x1 := hF.symm
  revert hP hD hS
  suffices G : ∀ (H : Heap) (locs : List Loc), va_P D tcl (wd_Exceptions cI cB cZ h h_priorities c_pending c_active c_current c_masked c_priorities) H → va_D A (wd_Exceptions cI cB cZ h h_priorities c_pending c_active c_current c_masked c_priorities) → va_S A s.heap H locs → W p l e rm_Exceptions_await s m ([.ref h, .int x1] : List Value).toArray below meth c H locs 0 0 Q (F0 m 0 ls []) from fun hP hD hS => G _ _ hP hD hS
  intro H locs hP hD hS
  refine lv_aload_n hx hb d_Exceptions_await_0 rfl (lv_at hl 0 rfl) ?_
  refine lv_dup hx hb d_Exceptions_await_1 rfl ?_
  refine va_get (D := D) (ci := 1) (v := .int c_pending) (C := R_Exceptions) (T := F_Exceptions) (N := 5) hx hb hts u_Exceptions hown hK hP 0 rfl rfl 1 (by decide) (hts _ wf_Exceptions_15) (fun _ h9 => h9) rfl d_Exceptions_await_2 ?_
  refine lv_iconst (v := 1) hx hb d_Exceptions_await_5 (by decide) ?_
  refine lv_iload_n hx hb d_Exceptions_await_6 rfl (lv_at hl 1 rfl) ?_
  refine lv_ishl hx hb d_Exceptions_await_7 ?_
  refine lv_ior hx hb d_Exceptions_await_8 ?_
  refine lv_topi (fun v1 e_v1 => ?_)
  have hq := tc_nm hq e_v1
  refine va_put (D := D) (ci := 1) (v := .int v1) (ty := .int) (C := R_Exceptions) (T := F_Exceptions) (N := 5) hx hb hts u_Exceptions t_Exceptions t_Exceptions_ok n_Exceptions hown hK hP hD hS 0 rfl rfl 1 (by decide) (hts _ wf_Exceptions_15) (fun _ h9 => h9) rfl (by decide +kernel) rfl rfl (Nat.le_of_ble_eq_true rfl) d_Exceptions_await_9 (fun H locs hP hD hS => ?_)
  have hP : va_P D tcl (wd_Exceptions cI cB cZ h h_priorities v1 c_active c_current c_masked c_priorities) H := hP
  have hD : va_D A (wd_Exceptions cI cB cZ h h_priorities v1 c_active c_current c_masked c_priorities) := hD
  exact RET H locs ls 12 v1 d_Exceptions_await_12 hP hD hS hq
abbrev rm_Exceptions_isPending : Room := { frames := 1, cells := 0, slots := 0, locals := 24 }
set_option maxHeartbeats 4000000 in
set_option maxRecDepth 100000 in
theorem c_Exceptions_isPending (l : Launch) (D : va_G) (cI cB cZ : ClassId) (h h_priorities sz : Nat) (c_pending : Int32) (c_active : Int32) (c_current : Int32) (c_masked : Bool) (c_priorities : Nat → Int32) (x1 : Int32) : Met l y_Exceptions_isPending (.code y_Exceptions_isPending b_Exceptions_isPending 2 (some .boolean) :: tcb) rm_Exceptions_isPending (tc_Pw D tcl (tys cI cB cZ) (wd_Exceptions cI cB cZ h h_priorities c_pending c_active c_current c_masked c_priorities) sz ([.ref h, .int x1] : List Value) none) (QcRead (bI (f_Exceptions_isPending c_pending x1))) 0 0 (fun _ => False) := by
  refine tc_rd_z (by decide) (Nat.le_of_ble_eq_true rfl) ?_
  intro p e s m below meth c Q ls hx hb hml hts hown hK hN hP hD hl RET
  have hl : lv_has ls 2 [(0, .ref h), (1, .int x1)] := hl
  generalize hF : f_Exceptions_isPending c_pending x1 = FF at RET
  have hq : FF = f_Exceptions_isPending c_pending x1 := hF.symm
  refine lv_iload_n hx hb d_Exceptions_isPending_0 rfl (lv_at hl 1 rfl) ?_
  refine lv_if_lt (tgt := 26) hx hb d_Exceptions_isPending_1 (by decide) (fun g_1 => ?_) (fun g_1 => ?_)
  · have hq := hq.trans (if_pos g_1)
    refine lv_iconst (v := 0) hx hb d_Exceptions_isPending_26 (by decide) ?_
    exact RET ls 27 d_Exceptions_isPending_27 hq
  · have hq := hq.trans (if_neg g_1)
    refine lv_iload_n hx hb d_Exceptions_isPending_4 rfl (lv_at hl 1 rfl) ?_
    refine lv_bipush (v := 15) hx hb d_Exceptions_isPending_5 (by decide) ?_
    refine lv_icmp_gt (tgt := 26) hx hb d_Exceptions_isPending_7 (by decide) (fun g_7 => ?_) (fun g_7 => ?_)
    · have hq := hq.trans (if_pos g_7)
      refine lv_iconst (v := 0) hx hb d_Exceptions_isPending_26 (by decide) ?_
      exact RET ls 27 d_Exceptions_isPending_27 hq
    · have hq := hq.trans (if_neg g_7)
      refine lv_aload_n hx hb d_Exceptions_isPending_10 rfl (lv_at hl 0 rfl) ?_
      refine va_get (D := D) (ci := 1) (v := .int c_pending) (C := R_Exceptions) (T := F_Exceptions) (N := 5) hx hb hts u_Exceptions hown hK hP 0 rfl rfl 1 (by decide) (hts _ wf_Exceptions_15) (fun _ h9 => h9) rfl d_Exceptions_isPending_11 ?_
      refine lv_iload_n hx hb d_Exceptions_isPending_14 rfl (lv_at hl 1 rfl) ?_
      refine lv_iushr (v := (o_iushr c_pending x1)) hx hb d_Exceptions_isPending_15 rfl ?_
      refine lv_iconst (v := 1) hx hb d_Exceptions_isPending_16 (by decide) ?_
      refine lv_iand hx hb d_Exceptions_isPending_17 ?_
      refine lv_iconst (v := 1) hx hb d_Exceptions_isPending_18 (by decide) ?_
      refine lv_icmp_ne (tgt := 26) hx hb d_Exceptions_isPending_19 (by decide) (fun g_19 => ?_) (fun g_19 => ?_)
      · have hq := hq.trans (if_pos g_19)
        refine lv_iconst (v := 0) hx hb d_Exceptions_isPending_26 (by decide) ?_
        exact RET ls 27 d_Exceptions_isPending_27 hq
      · have hq := hq.trans (if_neg (fun g => g g_19))
        refine lv_iconst (v := 1) hx hb d_Exceptions_isPending_22 (by decide) ?_
        refine lv_goto (tgt := 27) hx hb d_Exceptions_isPending_23 (by decide) ?_
        exact RET ls 27 d_Exceptions_isPending_27 hq
abbrev rm_Exceptions_isActive : Room := { frames := 1, cells := 0, slots := 0, locals := 24 }
set_option maxHeartbeats 4000000 in
set_option maxRecDepth 100000 in
theorem c_Exceptions_isActive (l : Launch) (D : va_G) (cI cB cZ : ClassId) (h h_priorities sz : Nat) (c_pending : Int32) (c_active : Int32) (c_current : Int32) (c_masked : Bool) (c_priorities : Nat → Int32) (x1 : Int32) : Met l y_Exceptions_isActive (.code y_Exceptions_isActive b_Exceptions_isActive 2 (some .boolean) :: tcb) rm_Exceptions_isActive (tc_Pw D tcl (tys cI cB cZ) (wd_Exceptions cI cB cZ h h_priorities c_pending c_active c_current c_masked c_priorities) sz ([.ref h, .int x1] : List Value) none) (QcRead (bI (f_Exceptions_isActive c_active x1))) 0 0 (fun _ => False) := by
  refine tc_rd_z (by decide) (Nat.le_of_ble_eq_true rfl) ?_
  intro p e s m below meth c Q ls hx hb hml hts hown hK hN hP hD hl RET
  have hl : lv_has ls 2 [(0, .ref h), (1, .int x1)] := hl
  generalize hF : f_Exceptions_isActive c_active x1 = FF at RET
  have hq : FF = f_Exceptions_isActive c_active x1 := hF.symm
  refine lv_iload_n hx hb d_Exceptions_isActive_0 rfl (lv_at hl 1 rfl) ?_
  refine lv_if_lt (tgt := 26) hx hb d_Exceptions_isActive_1 (by decide) (fun g_1 => ?_) (fun g_1 => ?_)
  · have hq := hq.trans (if_pos g_1)
    refine lv_iconst (v := 0) hx hb d_Exceptions_isActive_26 (by decide) ?_
    exact RET ls 27 d_Exceptions_isActive_27 hq
  · have hq := hq.trans (if_neg g_1)
    refine lv_iload_n hx hb d_Exceptions_isActive_4 rfl (lv_at hl 1 rfl) ?_
    refine lv_bipush (v := 15) hx hb d_Exceptions_isActive_5 (by decide) ?_
    refine lv_icmp_gt (tgt := 26) hx hb d_Exceptions_isActive_7 (by decide) (fun g_7 => ?_) (fun g_7 => ?_)
    · have hq := hq.trans (if_pos g_7)
      refine lv_iconst (v := 0) hx hb d_Exceptions_isActive_26 (by decide) ?_
      exact RET ls 27 d_Exceptions_isActive_27 hq
    · have hq := hq.trans (if_neg g_7)
      refine lv_aload_n hx hb d_Exceptions_isActive_10 rfl (lv_at hl 0 rfl) ?_
      refine va_get (D := D) (ci := 1) (v := .int c_active) (C := R_Exceptions) (T := F_Exceptions) (N := 5) hx hb hts u_Exceptions hown hK hP 0 rfl rfl 2 (by decide) (hts _ wf_Exceptions_19) (fun _ h9 => h9) rfl d_Exceptions_isActive_11 ?_
      refine lv_iload_n hx hb d_Exceptions_isActive_14 rfl (lv_at hl 1 rfl) ?_
      refine lv_iushr (v := (o_iushr c_active x1)) hx hb d_Exceptions_isActive_15 rfl ?_
      refine lv_iconst (v := 1) hx hb d_Exceptions_isActive_16 (by decide) ?_
      refine lv_iand hx hb d_Exceptions_isActive_17 ?_
      refine lv_iconst (v := 1) hx hb d_Exceptions_isActive_18 (by decide) ?_
      refine lv_icmp_ne (tgt := 26) hx hb d_Exceptions_isActive_19 (by decide) (fun g_19 => ?_) (fun g_19 => ?_)
      · have hq := hq.trans (if_pos g_19)
        refine lv_iconst (v := 0) hx hb d_Exceptions_isActive_26 (by decide) ?_
        exact RET ls 27 d_Exceptions_isActive_27 hq
      · have hq := hq.trans (if_neg (fun g => g g_19))
        refine lv_iconst (v := 1) hx hb d_Exceptions_isActive_22 (by decide) ?_
        refine lv_goto (tgt := 27) hx hb d_Exceptions_isActive_23 (by decide) ?_
        exact RET ls 27 d_Exceptions_isActive_27 hq
abbrev rm_Exceptions_presentUnmasked : Room := { frames := 1, cells := 0, slots := 0, locals := 24 }
set_option maxHeartbeats 4000000 in
set_option maxRecDepth 100000 in
theorem c_Exceptions_presentUnmasked (l : Launch) (D : va_G) (cI cB cZ : ClassId) (h h_priorities sz : Nat) (c_pending : Int32) (c_active : Int32) (c_current : Int32) (c_masked : Bool) (c_priorities : Nat → Int32) : Met l y_Exceptions_presentUnmasked (.code y_Exceptions_presentUnmasked b_Exceptions_presentUnmasked 3 (some .int) :: tcb) rm_Exceptions_presentUnmasked (tc_Pw D tcl (tys cI cB cZ) (wd_Exceptions cI cB cZ h h_priorities c_pending c_active c_current c_masked c_priorities) sz ([.ref h] : List Value) none) (QcRead (f_Exceptions_presentUnmasked c_active c_priorities)) 0 0 (fun _ => False) := by
  refine tc_rd_i (by decide) (Nat.le_of_ble_eq_true rfl) ?_
  intro p e s m below meth c Q ls hx hb hml hts hown hK hN hP hD hl RET
  have hl : lv_has ls 3 [(0, .ref h)] := hl
  generalize hF : f_Exceptions_presentUnmasked c_active c_priorities = FF at RET
  have J_4 : ∀ n : Nat, ∀ (ls : Array Slot) (y1 : Int32) (y2 : Int32), lv_has ls 3 [(0, .ref h), (1, .int y1), (2, .int y2)] → FF = k_Exceptions_presentUnmasked_4 c_active c_priorities n y1 y2 → (tc_lp y2 16 n) → W p l e rm_Exceptions_presentUnmasked s m ([.ref h] : List Value).toArray below meth c s.heap [] 0 0 Q (F0 m 4 ls []) := by
    intro n
    induction n with
    | zero =>
      intro ls y1 y2 hl hq hinv
      exact (tc_lp0 hinv).elim
    | succ n_4 IH_4 =>
      have J_33 : ∀ (ls : Array Slot) (y1 : Int32) (y2 : Int32), lv_has ls 3 [(0, .ref h), (1, .int y1), (2, .int y2)] → FF = k_Exceptions_presentUnmasked_33 c_active c_priorities (k_Exceptions_presentUnmasked_4 c_active c_priorities n_4) y1 y2 → (tc_lp y2 16 (n_4 + 1)) → (y2.toInt < (16 : Nat)) → W p l e rm_Exceptions_presentUnmasked s m ([.ref h] : List Value).toArray below meth c s.heap [] 0 0 Q (F0 m 33 ls []) := by
        intro ls y1 y2 hl hq hinv hgd
        refine lv_iinc (k := 2) (v := (y2 + 1)) (lv' := [(2, .int (y2 + 1)), (0, .ref h), (1, .int y1)]) hx hb d_Exceptions_presentUnmasked_33 hl rfl rfl (by decide) rfl (fun ls hl => ?_)
        refine lv_goto (tgt := 4) hx hb d_Exceptions_presentUnmasked_36 (by decide) ?_
        exact IH_4 ls y1 (y2 + 1) (lv_sub hl [1, 2, 0] rfl) hq (tc_lpS hinv hgd (by decide))
      intro ls y1 y2 hl hq hinv
      refine lv_iload_n hx hb d_Exceptions_presentUnmasked_4 rfl (lv_at hl 2 rfl) ?_
      refine lv_bipush (v := 15) hx hb d_Exceptions_presentUnmasked_5 (by decide) ?_
      refine lv_icmp_gt (tgt := 39) hx hb d_Exceptions_presentUnmasked_7 (by decide) (fun g_7 => ?_) (fun g_7 => ?_)
      · have hq := hq.trans (if_pos g_7)
        refine lv_iload_n hx hb d_Exceptions_presentUnmasked_39 rfl (lv_at hl 1 rfl) ?_
        exact RET ls 40 d_Exceptions_presentUnmasked_40 hq
      · have hq := hq.trans (if_neg g_7)
        have hgd : y2.toInt < ((16 : Nat) : Int) := tc_ggt g_7 (by decide)
        refine lv_aload_n hx hb d_Exceptions_presentUnmasked_10 rfl (lv_at hl 0 rfl) ?_
        refine va_get (D := D) (ci := 1) (v := .int c_active) (C := R_Exceptions) (T := F_Exceptions) (N := 5) hx hb hts u_Exceptions hown hK hP 0 rfl rfl 2 (by decide) (hts _ wf_Exceptions_19) (fun _ h9 => h9) rfl d_Exceptions_presentUnmasked_11 ?_
        refine lv_iload_n hx hb d_Exceptions_presentUnmasked_14 rfl (lv_at hl 2 rfl) ?_
        refine lv_iushr (v := (o_iushr c_active y2)) hx hb d_Exceptions_presentUnmasked_15 rfl ?_
        refine lv_iconst (v := 1) hx hb d_Exceptions_presentUnmasked_16 (by decide) ?_
        refine lv_iand hx hb d_Exceptions_presentUnmasked_17 ?_
        refine lv_iconst (v := 1) hx hb d_Exceptions_presentUnmasked_18 (by decide) ?_
        refine lv_icmp_ne (tgt := 33) hx hb d_Exceptions_presentUnmasked_19 (by decide) (fun g_19 => ?_) (fun g_19 => ?_)
        · have hq := hq.trans (if_pos g_19)
          exact J_33 ls y1 y2 (lv_sub hl [0, 1, 2] rfl) hq (by assumption) (by assumption)
        · have hq := hq.trans (if_neg (fun g => g g_19))
          refine lv_iload_n hx hb d_Exceptions_presentUnmasked_22 rfl (lv_at hl 1 rfl) ?_
          refine lv_aload_n hx hb d_Exceptions_presentUnmasked_23 rfl (lv_at hl 0 rfl) ?_
          refine va_get (D := D) (ci := 1) (v := .ref h_priorities) (C := R_Exceptions) (T := F_Exceptions) (N := 5) hx hb hts u_Exceptions hown hK hP 0 rfl rfl 0 (by decide) (hts _ wf_Exceptions_11) (fun _ h9 => h9) rfl d_Exceptions_presentUnmasked_24 ?_
          refine lv_iload_n hx hb d_Exceptions_presentUnmasked_27 rfl (lv_at hl 2 rfl) ?_
          refine va_iald hx hb hK hP 1 0 rfl rfl (tc_lpI hinv hgd (by decide)) d_Exceptions_presentUnmasked_28 ?_
          refine va_mmin hx hb (hml.trans hl.1.symm) hown (hts _ wl_Exceptions_29) (hts _ wt_Math_min) (hts _ wi_Math) (hts _ wc_Math_min) (Nat.le_of_ble_eq_true rfl) (Nat.le_of_ble_eq_true rfl) (Nat.le_of_ble_eq_true rfl) (Nat.le_of_ble_eq_true rfl) d_Exceptions_presentUnmasked_29 ?_
          refine lv_topi (fun v1 e_v1 => ?_)
          have hq := tc_nm hq e_v1
          refine lv_istore_n (lv' := [(1, .int v1), (0, .ref h), (2, .int y2)]) hx hb d_Exceptions_presentUnmasked_32 rfl hl (by decide) rfl (fun ls hl => ?_)
          exact J_33 ls v1 y2 (lv_sub hl [1, 0, 2] rfl) hq (by assumption) (by assumption)
  have hq : FF = f_Exceptions_presentUnmasked c_active c_priorities := hF.symm
  refine lv_iconst (v := 4) hx hb d_Exceptions_presentUnmasked_0 (by decide) ?_
  refine lv_istore_n (lv' := [(1, .int 4), (0, .ref h)]) hx hb d_Exceptions_presentUnmasked_1 rfl hl (by decide) rfl (fun ls hl => ?_)
  refine lv_iconst (v := 0) hx hb d_Exceptions_presentUnmasked_2 (by decide) ?_
  refine lv_istore_n (lv' := [(2, .int 0), (1, .int 4), (0, .ref h)]) hx hb d_Exceptions_presentUnmasked_3 rfl hl (by decide) rfl (fun ls hl => ?_)
  exact J_4 (17) ls 4 0 (lv_sub hl [2, 1, 0] rfl) hq (tc_lpE _)
abbrev rm_Exceptions_present : Room := { frames := 2, cells := 0, slots := 0, locals := 46 }
set_option maxHeartbeats 4000000 in
set_option maxRecDepth 100000 in
theorem c_Exceptions_present (l : Launch) (D : va_G) (cI cB cZ : ClassId) (h h_priorities sz : Nat) (c_pending : Int32) (c_active : Int32) (c_current : Int32) (c_masked : Bool) (c_priorities : Nat → Int32) : Met l y_Exceptions_present (.code y_Exceptions_present b_Exceptions_present 2 (some .int) :: tcb) rm_Exceptions_present (tc_Pw D tcl (tys cI cB cZ) (wd_Exceptions cI cB cZ h h_priorities c_pending c_active c_current c_masked c_priorities) sz ([.ref h] : List Value) none) (QcRead (f_Exceptions_present c_active c_masked c_priorities)) 0 0 (fun _ => False) := by
  refine tc_rd_i (by decide) (Nat.le_of_ble_eq_true rfl) ?_
  intro p e s m below meth c Q ls hx hb hml hts hown hK hN hP hD hl RET
  have hl : lv_has ls 2 [(0, .ref h)] := hl
  generalize hF : f_Exceptions_present c_active c_masked c_priorities = FF at RET
  have hq : FF = f_Exceptions_present c_active c_masked c_priorities := hF.symm
  refine lv_aload_n hx hb d_Exceptions_present_0 rfl (lv_at hl 0 rfl) ?_
  refine tc_rd (va_runV (As := []) (rest := []) ⟨hx, hb, hml, hown, hts⟩ (c_Exceptions_presentUnmasked l D cI cB cZ h h_priorities s.heap.size c_pending c_active c_current c_masked c_priorities) (cwV 0 hts (tc_gV wl_Exceptions_35 wm_Exceptions_presentUnmasked ws_Exceptions_presentUnmasked wi_Exceptions wc_Exceptions_presentUnmasked) rfl rfl rfl (by decide +kernel) ⟨Nat.le_of_ble_eq_true rfl, Nat.le_of_ble_eq_true rfl⟩) (tc_preV hK hN hP hD [0, 1] rfl (by decide) (q0 := 0) rfl rfl) rfl rfl hl.1 rfl (lv_room (Nat.le_of_ble_eq_true rfl)) d_Exceptions_present_1 (by decide)) ?_
  refine lv_topi (fun v1 e_v1 => ?_)
  have hq := tc_nm hq e_v1
  refine lv_istore_n (lv' := [(1, .int v1), (0, .ref h)]) hx hb d_Exceptions_present_4 rfl hl (by decide) rfl (fun ls hl => ?_)
  refine lv_aload_n hx hb d_Exceptions_present_5 rfl (lv_at hl 1 rfl) ?_
  refine va_get (D := D) (ci := 1) (v := .int (bI c_masked)) (C := R_Exceptions) (T := F_Exceptions) (N := 5) hx hb hts u_Exceptions hown hK hP 0 rfl rfl 4 (by decide) (hts _ wf_Exceptions_25) (fun _ h9 => h9) rfl d_Exceptions_present_6 ?_
  refine lv_if_eq (tgt := 20) hx hb d_Exceptions_present_9 (by decide) (fun g_9 => ?_) (fun g_9 => ?_)
  · have hq := hq.trans (if_pos g_9)
    refine lv_iload_n hx hb d_Exceptions_present_20 rfl (lv_at hl 0 rfl) ?_
    exact RET ls 21 d_Exceptions_present_21 hq
  · have hq := hq.trans (if_neg g_9)
    refine lv_iload_n hx hb d_Exceptions_present_12 rfl (lv_at hl 0 rfl) ?_
    refine lv_iconst (v := 0) hx hb d_Exceptions_present_13 (by decide) ?_
    refine va_mmin hx hb (hml.trans hl.1.symm) hown (hts _ wl_Exceptions_29) (hts _ wt_Math_min) (hts _ wi_Math) (hts _ wc_Math_min) (Nat.le_of_ble_eq_true rfl) (Nat.le_of_ble_eq_true rfl) (Nat.le_of_ble_eq_true rfl) (Nat.le_of_ble_eq_true rfl) d_Exceptions_present_14 ?_
    refine lv_goto (tgt := 21) hx hb d_Exceptions_present_17 (by decide) ?_
    exact RET ls 21 d_Exceptions_present_21 hq
abbrev rm_Exceptions_mostUrgent : Room := { frames := 1, cells := 0, slots := 0, locals := 24 }
set_option maxHeartbeats 4000000 in
set_option maxRecDepth 100000 in
theorem c_Exceptions_mostUrgent (l : Launch) (D : va_G) (cI cB cZ : ClassId) (h h_priorities sz : Nat) (c_pending : Int32) (c_active : Int32) (c_current : Int32) (c_masked : Bool) (c_priorities : Nat → Int32) (x1 : Int32) : Met l y_Exceptions_mostUrgent (.code y_Exceptions_mostUrgent b_Exceptions_mostUrgent 5 (some .int) :: tcb) rm_Exceptions_mostUrgent (tc_Pw D tcl (tys cI cB cZ) (wd_Exceptions cI cB cZ h h_priorities c_pending c_active c_current c_masked c_priorities) sz ([.ref h, .int x1] : List Value) none) (QcRead (f_Exceptions_mostUrgent c_pending c_priorities x1)) 0 0 (fun _ => False) := by
  refine tc_rd_i (by decide) (Nat.le_of_ble_eq_true rfl) ?_
  intro p e s m below meth c Q ls hx hb hml hts hown hK hN hP hD hl RET
  have hl : lv_has ls 5 [(0, .ref h), (1, .int x1)] := hl
  generalize hF : f_Exceptions_mostUrgent c_pending c_priorities x1 = FF at RET
  have J_7 : ∀ n : Nat, ∀ (ls : Array Slot) (y2 : Int32) (y3 : Int32) (y4 : Int32), lv_has ls 5 [(0, .ref h), (2, .int y2), (3, .int y3), (4, .int y4)] → FF = k_Exceptions_mostUrgent_7 c_pending c_priorities n y2 y3 y4 → (tc_lp y4 16 n) → W p l e rm_Exceptions_mostUrgent s m ([.ref h, .int x1] : List Value).toArray below meth c s.heap [] 0 0 Q (F0 m 7 ls []) := by
    intro n
    induction n with
    | zero =>
      intro ls y2 y3 y4 hl hq hinv
      exact (tc_lp0 hinv).elim
    | succ n_7 IH_7 =>
      have J_49 : ∀ (ls : Array Slot) (y2 : Int32) (y3 : Int32) (y4 : Int32), lv_has ls 5 [(0, .ref h), (2, .int y2), (3, .int y3), (4, .int y4)] → FF = k_Exceptions_mostUrgent_49 c_pending c_priorities (k_Exceptions_mostUrgent_7 c_pending c_priorities n_7) y2 y3 y4 → (tc_lp y4 16 (n_7 + 1)) → (y4.toInt < (16 : Nat)) → W p l e rm_Exceptions_mostUrgent s m ([.ref h, .int x1] : List Value).toArray below meth c s.heap [] 0 0 Q (F0 m 49 ls []) := by
        intro ls y2 y3 y4 hl hq hinv hgd
        refine lv_iinc (k := 3) (v := (y4 + 1)) (lv' := [(4, .int (y4 + 1)), (0, .ref h), (2, .int y2), (3, .int y3)]) hx hb d_Exceptions_mostUrgent_49 hl rfl rfl (by decide) rfl (fun ls hl => ?_)
        refine lv_goto (tgt := 7) hx hb d_Exceptions_mostUrgent_52 (by decide) ?_
        exact IH_7 ls y2 y3 (y4 + 1) (lv_sub hl [1, 2, 3, 0] rfl) hq (tc_lpS hinv hgd (by decide))
      intro ls y2 y3 y4 hl hq hinv
      refine lv_iload hx hb d_Exceptions_mostUrgent_7 (lv_at hl 3 rfl) ?_
      refine lv_bipush (v := 15) hx hb d_Exceptions_mostUrgent_9 (by decide) ?_
      refine lv_icmp_gt (tgt := 55) hx hb d_Exceptions_mostUrgent_11 (by decide) (fun g_11 => ?_) (fun g_11 => ?_)
      · have hq := hq.trans (if_pos g_11)
        refine lv_iload_n hx hb d_Exceptions_mostUrgent_55 rfl (lv_at hl 1 rfl) ?_
        exact RET ls 56 d_Exceptions_mostUrgent_56 hq
      · have hq := hq.trans (if_neg g_11)
        have hgd : y4.toInt < ((16 : Nat) : Int) := tc_ggt g_11 (by decide)
        refine lv_aload_n hx hb d_Exceptions_mostUrgent_14 rfl (lv_at hl 0 rfl) ?_
        refine va_get (D := D) (ci := 1) (v := .int c_pending) (C := R_Exceptions) (T := F_Exceptions) (N := 5) hx hb hts u_Exceptions hown hK hP 0 rfl rfl 1 (by decide) (hts _ wf_Exceptions_15) (fun _ h9 => h9) rfl d_Exceptions_mostUrgent_15 ?_
        refine lv_iload hx hb d_Exceptions_mostUrgent_18 (lv_at hl 3 rfl) ?_
        refine lv_iushr (v := (o_iushr c_pending y4)) hx hb d_Exceptions_mostUrgent_20 rfl ?_
        refine lv_iconst (v := 1) hx hb d_Exceptions_mostUrgent_21 (by decide) ?_
        refine lv_iand hx hb d_Exceptions_mostUrgent_22 ?_
        refine lv_iconst (v := 1) hx hb d_Exceptions_mostUrgent_23 (by decide) ?_
        refine lv_icmp_ne (tgt := 49) hx hb d_Exceptions_mostUrgent_24 (by decide) (fun g_24 => ?_) (fun g_24 => ?_)
        · have hq := hq.trans (if_pos g_24)
          exact J_49 ls y2 y3 y4 (lv_sub hl [0, 1, 2, 3] rfl) hq (by assumption) (by assumption)
        · have hq := hq.trans (if_neg (fun g => g g_24))
          refine lv_aload_n hx hb d_Exceptions_mostUrgent_27 rfl (lv_at hl 0 rfl) ?_
          refine va_get (D := D) (ci := 1) (v := .ref h_priorities) (C := R_Exceptions) (T := F_Exceptions) (N := 5) hx hb hts u_Exceptions hown hK hP 0 rfl rfl 0 (by decide) (hts _ wf_Exceptions_11) (fun _ h9 => h9) rfl d_Exceptions_mostUrgent_28 ?_
          refine lv_iload hx hb d_Exceptions_mostUrgent_31 (lv_at hl 3 rfl) ?_
          refine va_iald hx hb hK hP 1 0 rfl rfl (tc_lpI hinv hgd (by decide)) d_Exceptions_mostUrgent_33 ?_
          refine lv_iload_n hx hb d_Exceptions_mostUrgent_34 rfl (lv_at hl 2 rfl) ?_
          refine lv_icmp_ge (tgt := 49) hx hb d_Exceptions_mostUrgent_35 (by decide) (fun g_35 => ?_) (fun g_35 => ?_)
          · have hq := hq.trans (if_pos g_35)
            exact J_49 ls y2 y3 y4 (lv_sub hl [0, 1, 2, 3] rfl) hq (by assumption) (by assumption)
          · have hq := hq.trans (if_neg g_35)
            refine lv_iload hx hb d_Exceptions_mostUrgent_38 (lv_at hl 3 rfl) ?_
            refine lv_istore_n (lv' := [(2, .int y4), (0, .ref h), (3, .int y3), (4, .int y4)]) hx hb d_Exceptions_mostUrgent_40 rfl hl (by decide) rfl (fun ls hl => ?_)
            refine lv_aload_n hx hb d_Exceptions_mostUrgent_41 rfl (lv_at hl 1 rfl) ?_
            refine va_get (D := D) (ci := 1) (v := .ref h_priorities) (C := R_Exceptions) (T := F_Exceptions) (N := 5) hx hb hts u_Exceptions hown hK hP 0 rfl rfl 0 (by decide) (hts _ wf_Exceptions_11) (fun _ h9 => h9) rfl d_Exceptions_mostUrgent_42 ?_
            refine lv_iload hx hb d_Exceptions_mostUrgent_45 (lv_at hl 3 rfl) ?_
            refine va_iald hx hb hK hP 1 0 rfl rfl (tc_lpI hinv hgd (by decide)) d_Exceptions_mostUrgent_47 ?_
            refine lv_topi (fun v1 e_v1 => ?_)
            have hq := tc_nm hq e_v1
            refine lv_istore_n (lv' := [(3, .int v1), (2, .int y4), (0, .ref h), (4, .int y4)]) hx hb d_Exceptions_mostUrgent_48 rfl hl (by decide) rfl (fun ls hl => ?_)
            exact J_49 ls y4 v1 y4 (lv_sub hl [2, 1, 0, 3] rfl) hq (by assumption) (by assumption)
  have hq : FF = f_Exceptions_mostUrgent c_pending c_priorities x1 := hF.symm
  refine lv_iconst (v := 0) hx hb d_Exceptions_mostUrgent_0 (by decide) ?_
  refine lv_istore_n (lv' := [(2, .int 0), (0, .ref h), (1, .int x1)]) hx hb d_Exceptions_mostUrgent_1 rfl hl (by decide) rfl (fun ls hl => ?_)
  refine lv_iload_n hx hb d_Exceptions_mostUrgent_2 rfl (lv_at hl 2 rfl) ?_
  refine lv_istore_n (lv' := [(3, .int x1), (2, .int 0), (0, .ref h), (1, .int x1)]) hx hb d_Exceptions_mostUrgent_3 rfl hl (by decide) rfl (fun ls hl => ?_)
  refine lv_iconst (v := 0) hx hb d_Exceptions_mostUrgent_4 (by decide) ?_
  refine lv_istore (lv' := [(4, .int 0), (3, .int x1), (2, .int 0), (0, .ref h), (1, .int x1)]) hx hb d_Exceptions_mostUrgent_5 hl (by decide) rfl (fun ls hl => ?_)
  exact J_7 (17) ls 0 x1 0 (lv_sub hl [3, 2, 1, 0] rfl) hq (tc_lpE _)
abbrev rm_Exceptions_begin : Room := { frames := 1, cells := 0, slots := 0, locals := 24 }
set_option maxHeartbeats 4000000 in
set_option maxRecDepth 100000 in
theorem c_Exceptions_begin (l : Launch) (D : va_G) (cI cB cZ : ClassId) (h h_priorities sz : Nat) (c_pending : Int32) (c_active : Int32) (c_current : Int32) (c_masked : Bool) (c_priorities : Nat → Int32) (x1 : Int32) : Met l y_Exceptions_begin (.code y_Exceptions_begin b_Exceptions_begin 2 none :: tcb) rm_Exceptions_begin (tc_Pw D tcl (tys cI cB cZ) (wd_Exceptions cI cB cZ h h_priorities c_pending c_active c_current c_masked c_priorities) sz ([.ref h, .int x1] : List Value) none) (tc_Qv D tcl (wd_Exceptions cI cB cZ h h_priorities c_pending c_active c_current c_masked c_priorities) sz (fun u => (wd_Exceptions cI cB cZ h h_priorities u.1 u.2.1 u.2.2 c_masked c_priorities)) (f_Exceptions_begin c_pending c_active c_current x1)) 0 0 (va_A (wd_Exceptions cI cB cZ h h_priorities c_pending c_active c_current c_masked c_priorities) sz) := by
  refine tc_mu_v (by decide) (Nat.le_of_ble_eq_true rfl) ?_
  intro p e s m below meth c A Q ls hx hb hml hts hown hK hN hP hD hA hZ hl RET
  have hS : va_S A s.heap s.heap [] := va_S.rf
  have hl : lv_has ls 2 [(0, .ref h), (1, .int x1)] := hl
  generalize hF : f_Exceptions_begin c_pending c_active c_current x1 = FF at RET
  have hq : FF = f_Exceptions_begin c_pending c_active c_current x1 := hF.symm
  revert hP hD hS
  suffices G : ∀ (H : Heap) (locs : List Loc), va_P D tcl (wd_Exceptions cI cB cZ h h_priorities c_pending c_active c_current c_masked c_priorities) H → va_D A (wd_Exceptions cI cB cZ h h_priorities c_pending c_active c_current c_masked c_priorities) → va_S A s.heap H locs → W p l e rm_Exceptions_begin s m ([.ref h, .int x1] : List Value).toArray below meth c H locs 0 0 Q (F0 m 0 ls []) from fun hP hD hS => G _ _ hP hD hS
  intro H locs hP hD hS
  refine lv_aload_n hx hb d_Exceptions_begin_0 rfl (lv_at hl 0 rfl) ?_
  refine lv_dup hx hb d_Exceptions_begin_1 rfl ?_
  refine va_get (D := D) (ci := 1) (v := .int c_pending) (C := R_Exceptions) (T := F_Exceptions) (N := 5) hx hb hts u_Exceptions hown hK hP 0 rfl rfl 1 (by decide) (hts _ wf_Exceptions_15) (fun _ h9 => h9) rfl d_Exceptions_begin_2 ?_
  refine lv_iconst (v := 1) hx hb d_Exceptions_begin_5 (by decide) ?_
  refine lv_iload_n hx hb d_Exceptions_begin_6 rfl (lv_at hl 1 rfl) ?_
  refine lv_ishl hx hb d_Exceptions_begin_7 ?_
  refine lv_iconst (v := (-1)) hx hb d_Exceptions_begin_8 (by decide) ?_
  refine lv_ixor hx hb d_Exceptions_begin_9 ?_
  refine lv_iand hx hb d_Exceptions_begin_10 ?_
  refine lv_topi (fun v1 e_v1 => ?_)
  have hq := tc_nm hq e_v1
  refine va_put (D := D) (ci := 1) (v := .int v1) (ty := .int) (C := R_Exceptions) (T := F_Exceptions) (N := 5) hx hb hts u_Exceptions t_Exceptions t_Exceptions_ok n_Exceptions hown hK hP hD hS 0 rfl rfl 1 (by decide) (hts _ wf_Exceptions_15) (fun _ h9 => h9) rfl (by decide +kernel) rfl rfl (Nat.le_of_ble_eq_true rfl) d_Exceptions_begin_11 (fun H locs hP hD hS => ?_)
  have hP : va_P D tcl (wd_Exceptions cI cB cZ h h_priorities v1 c_active c_current c_masked c_priorities) H := hP
  have hD : va_D A (wd_Exceptions cI cB cZ h h_priorities v1 c_active c_current c_masked c_priorities) := hD
  refine lv_aload_n hx hb d_Exceptions_begin_14 rfl (lv_at hl 0 rfl) ?_
  refine lv_dup hx hb d_Exceptions_begin_15 rfl ?_
  refine va_get (D := D) (ci := 1) (v := .int c_active) (C := R_Exceptions) (T := F_Exceptions) (N := 5) hx hb hts u_Exceptions hown hK hP 0 rfl rfl 2 (by decide) (hts _ wf_Exceptions_19) (fun _ h9 => h9) rfl d_Exceptions_begin_16 ?_
  refine lv_iconst (v := 1) hx hb d_Exceptions_begin_19 (by decide) ?_
  refine lv_iload_n hx hb d_Exceptions_begin_20 rfl (lv_at hl 1 rfl) ?_
  refine lv_ishl hx hb d_Exceptions_begin_21 ?_
  refine lv_ior hx hb d_Exceptions_begin_22 ?_
  refine lv_topi (fun v2 e_v2 => ?_)
  have hq := tc_nm hq e_v2
  refine va_put (D := D) (ci := 1) (v := .int v2) (ty := .int) (C := R_Exceptions) (T := F_Exceptions) (N := 5) hx hb hts u_Exceptions t_Exceptions t_Exceptions_ok n_Exceptions hown hK hP hD hS 0 rfl rfl 2 (by decide) (hts _ wf_Exceptions_19) (fun _ h9 => h9) rfl (by decide +kernel) rfl rfl (Nat.le_of_ble_eq_true rfl) d_Exceptions_begin_23 (fun H locs hP hD hS => ?_)
  have hP : va_P D tcl (wd_Exceptions cI cB cZ h h_priorities v1 v2 c_current c_masked c_priorities) H := hP
  have hD : va_D A (wd_Exceptions cI cB cZ h h_priorities v1 v2 c_current c_masked c_priorities) := hD
  refine lv_aload_n hx hb d_Exceptions_begin_26 rfl (lv_at hl 0 rfl) ?_
  refine lv_iload_n hx hb d_Exceptions_begin_27 rfl (lv_at hl 1 rfl) ?_
  refine va_put (D := D) (ci := 1) (v := .int x1) (ty := .int) (C := R_Exceptions) (T := F_Exceptions) (N := 5) hx hb hts u_Exceptions t_Exceptions t_Exceptions_ok n_Exceptions hown hK hP hD hS 0 rfl rfl 3 (by decide) (hts _ wf_Exceptions_22) (fun _ h9 => h9) rfl (by decide +kernel) rfl rfl (Nat.le_of_ble_eq_true rfl) d_Exceptions_begin_28 (fun H locs hP hD hS => ?_)
  have hP : va_P D tcl (wd_Exceptions cI cB cZ h h_priorities v1 v2 x1 c_masked c_priorities) H := hP
  have hD : va_D A (wd_Exceptions cI cB cZ h h_priorities v1 v2 x1 c_masked c_priorities) := hD
  exact RET H locs ls 31 (v1, v2, x1) d_Exceptions_begin_31 hP hD hS hq
abbrev rm_Exceptions_mayEndLast : Room := { frames := 2, cells := 0, slots := 0, locals := 44 }
set_option maxHeartbeats 4000000 in
set_option maxRecDepth 100000 in
theorem c_Exceptions_mayEndLast (l : Launch) (D : va_G) (cI cB cZ : ClassId) (h h_priorities sz : Nat) (c_pending : Int32) (c_active : Int32) (c_current : Int32) (c_masked : Bool) (c_priorities : Nat → Int32) (x1 : Int32) : Met l y_Exceptions_mayEndLast (.code y_Exceptions_mayEndLast b_Exceptions_mayEndLast 2 (some .boolean) :: tcb) rm_Exceptions_mayEndLast (tc_Pw D tcl (tys cI cB cZ) (wd_Exceptions cI cB cZ h h_priorities c_pending c_active c_current c_masked c_priorities) sz ([.ref h, .int x1] : List Value) none) (QcRead (bI (f_Exceptions_mayEndLast c_active x1))) 0 0 (fun _ => False) := by
  refine tc_rd_z (by decide) (Nat.le_of_ble_eq_true rfl) ?_
  intro p e s m below meth c Q ls hx hb hml hts hown hK hN hP hD hl RET
  have hl : lv_has ls 2 [(0, .ref h), (1, .int x1)] := hl
  generalize hF : f_Exceptions_mayEndLast c_active x1 = FF at RET
  have hq : FF = f_Exceptions_mayEndLast c_active x1 := hF.symm
  refine lv_iload_n hx hb d_Exceptions_mayEndLast_0 rfl (lv_at hl 1 rfl) ?_
  refine lv_if_ne (tgt := 19) hx hb d_Exceptions_mayEndLast_1 (by decide) (fun g_1 => ?_) (fun g_1 => ?_)
  · have hq := hq.trans (if_pos g_1)
    refine lv_iconst (v := 0) hx hb d_Exceptions_mayEndLast_19 (by decide) ?_
    exact RET ls 20 d_Exceptions_mayEndLast_20 hq
  · have hq := hq.trans (if_neg (fun g => g g_1))
    refine lv_aload_n hx hb d_Exceptions_mayEndLast_4 rfl (lv_at hl 0 rfl) ?_
    refine va_get (D := D) (ci := 1) (v := .int c_active) (C := R_Exceptions) (T := F_Exceptions) (N := 5) hx hb hts u_Exceptions hown hK hP 0 rfl rfl 2 (by decide) (hts _ wf_Exceptions_19) (fun _ h9 => h9) rfl d_Exceptions_mayEndLast_5 ?_
    refine tc_rd (va_runS (As := [.int c_active]) (rest := []) ⟨hx, hb, hml, hown, hts⟩ (c_Integer_bitCount l c_active) (va_cwS 1 hts (tc_gS wl_Exceptions_39 wt_Integer_bitCount wi_Integer wc_Integer_bitCount) rfl rfl rfl (by decide +kernel) ⟨Nat.le_of_ble_eq_true rfl, Nat.le_of_ble_eq_true rfl⟩) tc_preS rfl rfl hl.1 rfl (lv_room (Nat.le_of_ble_eq_true rfl)) d_Exceptions_mayEndLast_8 (by decide)) ?_
    refine lv_topi (fun v1 e_v1 => ?_)
    have hq := tc_nm hq e_v1
    refine lv_iconst (v := 1) hx hb d_Exceptions_mayEndLast_11 (by decide) ?_
    refine lv_icmp_ne (tgt := 19) hx hb d_Exceptions_mayEndLast_12 (by decide) (fun g_12 => ?_) (fun g_12 => ?_)
    · have hq := hq.trans (if_pos g_12)
      refine lv_iconst (v := 0) hx hb d_Exceptions_mayEndLast_19 (by decide) ?_
      exact RET ls 20 d_Exceptions_mayEndLast_20 hq
    · have hq := hq.trans (if_neg (fun g => g g_12))
      refine lv_iconst (v := 1) hx hb d_Exceptions_mayEndLast_15 (by decide) ?_
      refine lv_goto (tgt := 20) hx hb d_Exceptions_mayEndLast_16 (by decide) ?_
      exact RET ls 20 d_Exceptions_mayEndLast_20 hq
abbrev rm_Exceptions_mayEndFor : Room := { frames := 2, cells := 0, slots := 0, locals := 45 }
set_option maxHeartbeats 4000000 in
set_option maxRecDepth 100000 in
theorem c_Exceptions_mayEndFor (l : Launch) (D : va_G) (cI cB cZ : ClassId) (h h_priorities sz : Nat) (c_pending : Int32) (c_active : Int32) (c_current : Int32) (c_masked : Bool) (c_priorities : Nat → Int32) (x1 : Int32) : Met l y_Exceptions_mayEndFor (.code y_Exceptions_mayEndFor b_Exceptions_mayEndFor 2 (some .boolean) :: tcb) rm_Exceptions_mayEndFor (tc_Pw D tcl (tys cI cB cZ) (wd_Exceptions cI cB cZ h h_priorities c_pending c_active c_current c_masked c_priorities) sz ([.ref h, .int x1] : List Value) none) (QcRead (bI (f_Exceptions_mayEndFor c_active c_current x1))) 0 0 (fun _ => False) := by
  refine tc_rd_z (by decide) (Nat.le_of_ble_eq_true rfl) ?_
  intro p e s m below meth c Q ls hx hb hml hts hown hK hN hP hD hl RET
  have hl : lv_has ls 2 [(0, .ref h), (1, .int x1)] := hl
  generalize hF : f_Exceptions_mayEndFor c_active c_current x1 = FF at RET
  have hq : FF = f_Exceptions_mayEndFor c_active c_current x1 := hF.symm
  refine lv_iload_n hx hb d_Exceptions_mayEndFor_0 rfl (lv_at hl 1 rfl) ?_
  refine lv_aload_n hx hb d_Exceptions_mayEndFor_1 rfl (lv_at hl 0 rfl) ?_
  refine va_get (D := D) (ci := 1) (v := .int c_current) (C := R_Exceptions) (T := F_Exceptions) (N := 5) hx hb hts u_Exceptions hown hK hP 0 rfl rfl 3 (by decide) (hts _ wf_Exceptions_22) (fun _ h9 => h9) rfl d_Exceptions_mayEndFor_2 ?_
  refine lv_icmp_eq (tgt := 31) hx hb d_Exceptions_mayEndFor_5 (by decide) (fun g_5 => ?_) (fun g_5 => ?_)
  · have hq := hq.trans (if_pos g_5)
    refine lv_iconst (v := 0) hx hb d_Exceptions_mayEndFor_31 (by decide) ?_
    exact RET ls 32 d_Exceptions_mayEndFor_32 hq
  · have hq := hq.trans (if_neg g_5)
    refine lv_aload_n hx hb d_Exceptions_mayEndFor_8 rfl (lv_at hl 0 rfl) ?_
    refine lv_iload_n hx hb d_Exceptions_mayEndFor_9 rfl (lv_at hl 1 rfl) ?_
    refine tc_rd (va_runV (As := [.int x1]) (rest := []) ⟨hx, hb, hml, hown, hts⟩ (c_Exceptions_isActive l D cI cB cZ h h_priorities s.heap.size c_pending c_active c_current c_masked c_priorities x1) (cwV 1 hts (tc_gV wl_Exceptions_45 wm_Exceptions_isActive ws_Exceptions_isActive wi_Exceptions wc_Exceptions_isActive) rfl rfl rfl (by decide +kernel) ⟨Nat.le_of_ble_eq_true rfl, Nat.le_of_ble_eq_true rfl⟩) (tc_preV hK hN hP hD [0, 1] rfl (by decide) (q0 := 0) rfl rfl) rfl rfl hl.1 rfl (lv_room (Nat.le_of_ble_eq_true rfl)) d_Exceptions_mayEndFor_10 (by decide)) ?_
    refine tc_topb (fun v1 e_v1 => ?_)
    have hq := tc_nm hq e_v1
    refine lv_if_eq (tgt := 31) hx hb d_Exceptions_mayEndFor_13 (by decide) (fun g_13 => ?_) (fun g_13 => ?_)
    · have hq := hq.trans (if_pos g_13)
      refine lv_iconst (v := 0) hx hb d_Exceptions_mayEndFor_31 (by decide) ?_
      exact RET ls 32 d_Exceptions_mayEndFor_32 hq
    · have hq := hq.trans (if_neg g_13)
      refine lv_aload_n hx hb d_Exceptions_mayEndFor_16 rfl (lv_at hl 0 rfl) ?_
      refine va_get (D := D) (ci := 1) (v := .int c_active) (C := R_Exceptions) (T := F_Exceptions) (N := 5) hx hb hts u_Exceptions hown hK hP 0 rfl rfl 2 (by decide) (hts _ wf_Exceptions_19) (fun _ h9 => h9) rfl d_Exceptions_mayEndFor_17 ?_
      refine tc_rd (va_runS (As := [.int c_active]) (rest := []) ⟨hx, hb, hml, hown, hts⟩ (c_Integer_bitCount l c_active) (va_cwS 1 hts (tc_gS wl_Exceptions_39 wt_Integer_bitCount wi_Integer wc_Integer_bitCount) rfl rfl rfl (by decide +kernel) ⟨Nat.le_of_ble_eq_true rfl, Nat.le_of_ble_eq_true rfl⟩) tc_preS rfl rfl hl.1 rfl (lv_room (Nat.le_of_ble_eq_true rfl)) d_Exceptions_mayEndFor_20 (by decide)) ?_
      refine lv_topi (fun v2 e_v2 => ?_)
      have hq := tc_nm hq e_v2
      refine lv_iconst (v := 1) hx hb d_Exceptions_mayEndFor_23 (by decide) ?_
      refine lv_icmp_le (tgt := 31) hx hb d_Exceptions_mayEndFor_24 (by decide) (fun g_24 => ?_) (fun g_24 => ?_)
      · have hq := hq.trans (if_pos g_24)
        refine lv_iconst (v := 0) hx hb d_Exceptions_mayEndFor_31 (by decide) ?_
        exact RET ls 32 d_Exceptions_mayEndFor_32 hq
      · have hq := hq.trans (if_neg g_24)
        refine lv_iconst (v := 1) hx hb d_Exceptions_mayEndFor_27 (by decide) ?_
        refine lv_goto (tgt := 32) hx hb d_Exceptions_mayEndFor_28 (by decide) ?_
        exact RET ls 32 d_Exceptions_mayEndFor_32 hq
abbrev rm_Exceptions_endFor : Room := { frames := 1, cells := 0, slots := 0, locals := 24 }
set_option maxHeartbeats 4000000 in
set_option maxRecDepth 100000 in
theorem c_Exceptions_endFor (l : Launch) (D : va_G) (cI cB cZ : ClassId) (h h_priorities sz : Nat) (c_pending : Int32) (c_active : Int32) (c_current : Int32) (c_masked : Bool) (c_priorities : Nat → Int32) (x1 : Int32) : Met l y_Exceptions_endFor (.code y_Exceptions_endFor b_Exceptions_endFor 2 none :: tcb) rm_Exceptions_endFor (tc_Pw D tcl (tys cI cB cZ) (wd_Exceptions cI cB cZ h h_priorities c_pending c_active c_current c_masked c_priorities) sz ([.ref h, .int x1] : List Value) none) (tc_Qv D tcl (wd_Exceptions cI cB cZ h h_priorities c_pending c_active c_current c_masked c_priorities) sz (fun u => (wd_Exceptions cI cB cZ h h_priorities c_pending u.1 u.2 c_masked c_priorities)) (f_Exceptions_endFor c_active c_current x1)) 0 0 (va_A (wd_Exceptions cI cB cZ h h_priorities c_pending c_active c_current c_masked c_priorities) sz) := by
  refine tc_mu_v (by decide) (Nat.le_of_ble_eq_true rfl) ?_
  intro p e s m below meth c A Q ls hx hb hml hts hown hK hN hP hD hA hZ hl RET
  have hS : va_S A s.heap s.heap [] := va_S.rf
  have hl : lv_has ls 2 [(0, .ref h), (1, .int x1)] := hl
  generalize hF : f_Exceptions_endFor c_active c_current x1 = FF at RET
  have hq : FF = f_Exceptions_endFor c_active c_current x1 := hF.symm
  revert hP hD hS
  suffices G : ∀ (H : Heap) (locs : List Loc), va_P D tcl (wd_Exceptions cI cB cZ h h_priorities c_pending c_active c_current c_masked c_priorities) H → va_D A (wd_Exceptions cI cB cZ h h_priorities c_pending c_active c_current c_masked c_priorities) → va_S A s.heap H locs → W p l e rm_Exceptions_endFor s m ([.ref h, .int x1] : List Value).toArray below meth c H locs 0 0 Q (F0 m 0 ls []) from fun hP hD hS => G _ _ hP hD hS
  intro H locs hP hD hS
  refine lv_aload_n hx hb d_Exceptions_endFor_0 rfl (lv_at hl 0 rfl) ?_
  refine lv_dup hx hb d_Exceptions_endFor_1 rfl ?_
  refine va_get (D := D) (ci := 1) (v := .int c_active) (C := R_Exceptions) (T := F_Exceptions) (N := 5) hx hb hts u_Exceptions hown hK hP 0 rfl rfl 2 (by decide) (hts _ wf_Exceptions_19) (fun _ h9 => h9) rfl d_Exceptions_endFor_2 ?_
  refine lv_iconst (v := 1) hx hb d_Exceptions_endFor_5 (by decide) ?_
  refine lv_aload_n hx hb d_Exceptions_endFor_6 rfl (lv_at hl 0 rfl) ?_
  refine va_get (D := D) (ci := 1) (v := .int c_current) (C := R_Exceptions) (T := F_Exceptions) (N := 5) hx hb hts u_Exceptions hown hK hP 0 rfl rfl 3 (by decide) (hts _ wf_Exceptions_22) (fun _ h9 => h9) rfl d_Exceptions_endFor_7 ?_
  refine lv_ishl hx hb d_Exceptions_endFor_10 ?_
  refine lv_iconst (v := (-1)) hx hb d_Exceptions_endFor_11 (by decide) ?_
  refine lv_ixor hx hb d_Exceptions_endFor_12 ?_
  refine lv_iand hx hb d_Exceptions_endFor_13 ?_
  refine lv_topi (fun v1 e_v1 => ?_)
  have hq := tc_nm hq e_v1
  refine va_put (D := D) (ci := 1) (v := .int v1) (ty := .int) (C := R_Exceptions) (T := F_Exceptions) (N := 5) hx hb hts u_Exceptions t_Exceptions t_Exceptions_ok n_Exceptions hown hK hP hD hS 0 rfl rfl 2 (by decide) (hts _ wf_Exceptions_19) (fun _ h9 => h9) rfl (by decide +kernel) rfl rfl (Nat.le_of_ble_eq_true rfl) d_Exceptions_endFor_14 (fun H locs hP hD hS => ?_)
  have hP : va_P D tcl (wd_Exceptions cI cB cZ h h_priorities c_pending v1 c_current c_masked c_priorities) H := hP
  have hD : va_D A (wd_Exceptions cI cB cZ h h_priorities c_pending v1 c_current c_masked c_priorities) := hD
  refine lv_aload_n hx hb d_Exceptions_endFor_17 rfl (lv_at hl 0 rfl) ?_
  refine lv_iload_n hx hb d_Exceptions_endFor_18 rfl (lv_at hl 1 rfl) ?_
  refine va_put (D := D) (ci := 1) (v := .int x1) (ty := .int) (C := R_Exceptions) (T := F_Exceptions) (N := 5) hx hb hts u_Exceptions t_Exceptions t_Exceptions_ok n_Exceptions hown hK hP hD hS 0 rfl rfl 3 (by decide) (hts _ wf_Exceptions_22) (fun _ h9 => h9) rfl (by decide +kernel) rfl rfl (Nat.le_of_ble_eq_true rfl) d_Exceptions_endFor_19 (fun H locs hP hD hS => ?_)
  have hP : va_P D tcl (wd_Exceptions cI cB cZ h h_priorities c_pending v1 x1 c_masked c_priorities) H := hP
  have hD : va_D A (wd_Exceptions cI cB cZ h h_priorities c_pending v1 x1 c_masked c_priorities) := hD
  exact RET H locs ls 22 (v1, x1) d_Exceptions_endFor_22 hP hD hS hq

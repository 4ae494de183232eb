abbrev wd_Memory (cI cB cZ : ClassId) (h h_words : Nat) (q_size : Int32) (n_words : Nat) (c_words : Nat → Int32) : va_W := [(h, .inr (3, [.int q_size, .ref h_words])), (h_words, .inl (cI, n_words, .inl c_words))]
abbrev rm_Memory_holds : Room := { frames := 1, cells := 0, slots := 0, locals := 24 }
set_option maxHeartbeats 4000000 in
set_option maxRecDepth 100000 in
theorem c_Memory_holds (l : Launch) (D : va_G) (cI cB cZ : ClassId) (h h_words sz : Nat) (q_size : Int32) (n_words : Nat) (c_words : Nat → Int32) (x1 : Int32) (x2 : Int32) : Met l y_Memory_holds (.code y_Memory_holds b_Memory_holds 3 (some .boolean) :: tcb) rm_Memory_holds (tc_Pw D tcl (tys cI cB cZ) (wd_Memory cI cB cZ h h_words q_size n_words c_words) sz ([.ref h, .int x1, .int x2] : List Value) none) (QcRead (bI (f_Memory_holds q_size x1 x2))) 0 0 (fun _ => False) := by
  refine tc_rd_z (by decide) (Nat.le_of_ble_eq_true rfl) ?_
  intro p e s m below meth c Q ls hx hb hml hts hown hK hN hP hD hl RET
  have hl : lv_has ls 3 [(0, .ref h), (1, .int x1), (2, .int x2)] := hl
  generalize hF : f_Memory_holds q_size x1 x2 = FF at RET
  have hq : FF = f_Memory_holds q_size x1 x2 := hF.symm
  refine lv_iload_n hx hb d_Memory_holds_0 rfl (lv_at hl 1 rfl) ?_
  refine lv_if_lt (tgt := 18) hx hb d_Memory_holds_1 (by decide) (fun g_1 => ?_) (fun g_1 => ?_)
  · have hq := hq.trans (if_pos g_1)
    refine lv_iconst (v := 0) hx hb d_Memory_holds_18 (by decide) ?_
    exact RET ls 19 d_Memory_holds_19 hq
  · have hq := hq.trans (if_neg g_1)
    refine lv_iload_n hx hb d_Memory_holds_4 rfl (lv_at hl 1 rfl) ?_
    refine lv_aload_n hx hb d_Memory_holds_5 rfl (lv_at hl 0 rfl) ?_
    refine va_get (D := D) (ci := 3) (v := .int q_size) (C := R_Memory) (T := F_Memory) (N := 2) hx hb hts u_Memory hown hK hP 0 rfl rfl 0 (by decide) (hts _ wf_Memory_7) (fun _ h9 => h9) rfl d_Memory_holds_6 ?_
    refine lv_iload_n hx hb d_Memory_holds_9 rfl (lv_at hl 2 rfl) ?_
    refine lv_isub hx hb d_Memory_holds_10 ?_
    refine lv_icmp_gt (tgt := 18) hx hb d_Memory_holds_11 (by decide) (fun g_11 => ?_) (fun g_11 => ?_)
    · have hq := hq.trans (if_pos g_11)
      refine lv_iconst (v := 0) hx hb d_Memory_holds_18 (by decide) ?_
      exact RET ls 19 d_Memory_holds_19 hq
    · have hq := hq.trans (if_neg g_11)
      refine lv_iconst (v := 1) hx hb d_Memory_holds_14 (by decide) ?_
      refine lv_goto (tgt := 19) hx hb d_Memory_holds_15 (by decide) ?_
      exact RET ls 19 d_Memory_holds_19 hq
abbrev rm_Memory_isThere : Room := { frames := 2, cells := 0, slots := 0, locals := 46 }
set_option maxHeartbeats 4000000 in
set_option maxRecDepth 100000 in
theorem c_Memory_isThere (l : Launch) (D : va_G) (cI cB cZ : ClassId) (h h_words sz : Nat) (q_size : Int32) (n_words : Nat) (c_words : Nat → Int32) (x1 : Int32) (x2 : Int32) : Met l y_Memory_isThere (.code y_Memory_isThere b_Memory_isThere 3 (some .boolean) :: tcb) rm_Memory_isThere (tc_Pw D tcl (tys cI cB cZ) (wd_Memory cI cB cZ h h_words q_size n_words c_words) sz ([.ref h, .int x1, .int x2] : List Value) none) (QcRead (bI (f_Memory_isThere q_size x1 x2))) 0 0 (fun _ => False) := by
  refine tc_rd_z (by decide) (Nat.le_of_ble_eq_true rfl) ?_
  intro p e s m below meth c Q ls hx hb hml hts hown hK hN hP hD hl RET
  have hl : lv_has ls 3 [(0, .ref h), (1, .int x1), (2, .int x2)] := hl
  generalize hF : f_Memory_isThere q_size x1 x2 = FF at RET
  have hq : FF = f_Memory_isThere q_size x1 x2 := hF.symm
  refine lv_iload_n hx hb d_Memory_isThere_0 rfl (lv_at hl 1 rfl) ?_
  refine lv_iload_n hx hb d_Memory_isThere_1 rfl (lv_at hl 2 rfl) ?_
  refine lv_iconst (v := 1) hx hb d_Memory_isThere_2 (by decide) ?_
  refine lv_isub hx hb d_Memory_isThere_3 ?_
  refine lv_iand hx hb d_Memory_isThere_4 ?_
  refine lv_if_ne (tgt := 21) hx hb d_Memory_isThere_5 (by decide) (fun g_5 => ?_) (fun g_5 => ?_)
  · have hq := hq.trans (if_pos g_5)
    refine lv_iconst (v := 0) hx hb d_Memory_isThere_21 (by decide) ?_
    exact RET ls 22 d_Memory_isThere_22 hq
  · have hq := hq.trans (if_neg (fun g => g g_5))
    refine lv_aload_n hx hb d_Memory_isThere_8 rfl (lv_at hl 0 rfl) ?_
    refine lv_iload_n hx hb d_Memory_isThere_9 rfl (lv_at hl 1 rfl) ?_
    refine lv_iload_n hx hb d_Memory_isThere_10 rfl (lv_at hl 2 rfl) ?_
    refine tc_rd (va_runV (As := [.int x1, .int x2]) (rest := []) ⟨hx, hb, hml, hown, hts⟩ (c_Memory_holds l D cI cB cZ h h_words s.heap.size q_size n_words c_words x1 x2) (cwV 2 hts (tc_gV wl_Memory_17 wm_Memory_holds ws_Memory_holds wi_Memory wc_Memory_holds) rfl rfl rfl (by decide +kernel) ⟨Nat.le_of_ble_eq_true rfl, Nat.le_of_ble_eq_true rfl⟩) (tc_preV hK hN hP hD [0, 1] rfl (by decide) (q0 := 0) rfl rfl) rfl rfl hl.1 rfl (lv_room (Nat.le_of_ble_eq_true rfl)) d_Memory_isThere_11 (by decide)) ?_
    refine tc_topb (fun v1 e_v1 => ?_)
    have hq := tc_nm hq e_v1
    refine lv_if_eq (tgt := 21) hx hb d_Memory_isThere_14 (by decide) (fun g_14 => ?_) (fun g_14 => ?_)
    · have hq := hq.trans (if_pos g_14)
      refine lv_iconst (v := 0) hx hb d_Memory_isThere_21 (by decide) ?_
      exact RET ls 22 d_Memory_isThere_22 hq
    · have hq := hq.trans (if_neg g_14)
      refine lv_iconst (v := 1) hx hb d_Memory_isThere_17 (by decide) ?_
      refine lv_goto (tgt := 22) hx hb d_Memory_isThere_18 (by decide) ?_
      exact RET ls 22 d_Memory_isThere_22 hq
abbrev rm_Memory_areThere : Room := { frames := 1, cells := 0, slots := 0, locals := 24 }
set_option maxHeartbeats 4000000 in
set_option maxRecDepth 100000 in
theorem c_Memory_areThere (l : Launch) (D : va_G) (cI cB cZ : ClassId) (h h_words sz : Nat) (q_size : Int32) (n_words : Nat) (c_words : Nat → Int32) (x1 : Int32) (x2 : Int32) : Met l y_Memory_areThere (.code y_Memory_areThere b_Memory_areThere 3 (some .boolean) :: tcb) rm_Memory_areThere (tc_Pw D tcl (tys cI cB cZ) (wd_Memory cI cB cZ h h_words q_size n_words c_words) sz ([.ref h, .int x1, .int x2] : List Value) none) (QcRead (bI (f_Memory_areThere q_size x1 x2))) 0 0 (fun _ => False) := by
  refine tc_rd_z (by decide) (Nat.le_of_ble_eq_true rfl) ?_
  intro p e s m below meth c Q ls hx hb hml hts hown hK hN hP hD hl RET
  have hl : lv_has ls 3 [(0, .ref h), (1, .int x1), (2, .int x2)] := hl
  generalize hF : f_Memory_areThere q_size x1 x2 = FF at RET
  have hq : FF = f_Memory_areThere q_size x1 x2 := hF.symm
  refine lv_iload_n hx hb d_Memory_areThere_0 rfl (lv_at hl 1 rfl) ?_
  refine lv_iconst (v := 3) hx hb d_Memory_areThere_1 (by decide) ?_
  refine lv_iand hx hb d_Memory_areThere_2 ?_
  refine lv_if_ne (tgt := 26) hx hb d_Memory_areThere_3 (by decide) (fun g_3 => ?_) (fun g_3 => ?_)
  · have hq := hq.trans (if_pos g_3)
    refine lv_iconst (v := 0) hx hb d_Memory_areThere_26 (by decide) ?_
    exact RET ls 27 d_Memory_areThere_27 hq
  · have hq := hq.trans (if_neg (fun g => g g_3))
    refine lv_iload_n hx hb d_Memory_areThere_6 rfl (lv_at hl 1 rfl) ?_
    refine lv_if_lt (tgt := 26) hx hb d_Memory_areThere_7 (by decide) (fun g_7 => ?_) (fun g_7 => ?_)
    · have hq := hq.trans (if_pos g_7)
      refine lv_iconst (v := 0) hx hb d_Memory_areThere_26 (by decide) ?_
      exact RET ls 27 d_Memory_areThere_27 hq
    · have hq := hq.trans (if_neg g_7)
      refine lv_iload_n hx hb d_Memory_areThere_10 rfl (lv_at hl 1 rfl) ?_
      refine lv_aload_n hx hb d_Memory_areThere_11 rfl (lv_at hl 0 rfl) ?_
      refine va_get (D := D) (ci := 3) (v := .int q_size) (C := R_Memory) (T := F_Memory) (N := 2) hx hb hts u_Memory hown hK hP 0 rfl rfl 0 (by decide) (hts _ wf_Memory_7) (fun _ h9 => h9) rfl d_Memory_areThere_12 ?_
      refine lv_iconst (v := 4) hx hb d_Memory_areThere_15 (by decide) ?_
      refine lv_iload_n hx hb d_Memory_areThere_16 rfl (lv_at hl 2 rfl) ?_
      refine lv_imul hx hb d_Memory_areThere_17 ?_
      refine lv_isub hx hb d_Memory_areThere_18 ?_
      refine lv_icmp_gt (tgt := 26) hx hb d_Memory_areThere_19 (by decide) (fun g_19 => ?_) (fun g_19 => ?_)
      · have hq := hq.trans (if_pos g_19)
        refine lv_iconst (v := 0) hx hb d_Memory_areThere_26 (by decide) ?_
        exact RET ls 27 d_Memory_areThere_27 hq
      · have hq := hq.trans (if_neg g_19)
        refine lv_iconst (v := 1) hx hb d_Memory_areThere_22 (by decide) ?_
        refine lv_goto (tgt := 27) hx hb d_Memory_areThere_23 (by decide) ?_
        exact RET ls 27 d_Memory_areThere_27 hq
abbrev rm_Memory_word : Room := { frames := 1, cells := 0, slots := 0, locals := 24 }
set_option maxHeartbeats 4000000 in
set_option maxRecDepth 100000 in
theorem c_Memory_word (l : Launch) (D : va_G) (cI cB cZ : ClassId) (h h_words sz : Nat) (q_size : Int32) (n_words : Nat) (c_words : Nat → Int32) (x1 : Int32) (hm : tc_mem q_size n_words) (hin : tc_ok q_size x1) : Met l y_Memory_word (.code y_Memory_word b_Memory_word 2 (some .int) :: tcb) rm_Memory_word (tc_Pw D tcl (tys cI cB cZ) (wd_Memory cI cB cZ h h_words q_size n_words c_words) sz ([.ref h, .int x1] : List Value) none) (QcRead (f_Memory_word c_words x1)) 0 0 (fun _ => False) := by
  refine tc_rd_i (by decide) (Nat.le_of_ble_eq_true rfl) ?_
  intro p e s m below meth c Q ls hx hb hml hts hown hK hN hP hD hl RET
  have hl : lv_has ls 2 [(0, .ref h), (1, .int x1)] := hl
  generalize hF : f_Memory_word c_words x1 = FF at RET
  have hq : FF = f_Memory_word c_words x1 := hF.symm
  refine lv_aload_n hx hb d_Memory_word_0 rfl (lv_at hl 0 rfl) ?_
  refine va_get (D := D) (ci := 3) (v := .ref h_words) (C := R_Memory) (T := F_Memory) (N := 2) hx hb hts u_Memory hown hK hP 0 rfl rfl 1 (by decide) (hts _ wf_Memory_13) (fun _ h9 => h9) rfl d_Memory_word_1 ?_
  refine lv_iload_n hx hb d_Memory_word_4 rfl (lv_at hl 1 rfl) ?_
  refine lv_iconst (v := 2) hx hb d_Memory_word_5 (by decide) ?_
  refine lv_iushr (v := (o_iushr x1 2)) hx hb d_Memory_word_6 rfl ?_
  refine va_iald hx hb hK hP 1 0 rfl rfl (tc_okI hm hin) d_Memory_word_7 ?_
  exact RET ls 8 d_Memory_word_8 hq
abbrev rm_Memory_putWord : Room := { frames := 1, cells := 0, slots := 0, locals := 24 }
set_option maxHeartbeats 4000000 in
set_option maxRecDepth 100000 in
theorem c_Memory_putWord (l : Launch) (D : va_G) (cI cB cZ : ClassId) (h h_words sz : Nat) (q_size : Int32) (n_words : Nat) (c_words : Nat → Int32) (x1 : Int32) (x2 : Int32) (hm : tc_mem q_size n_words) (hin : tc_ok q_size x1) : Met l y_Memory_putWord (.code y_Memory_putWord b_Memory_putWord 3 none :: tcb) rm_Memory_putWord (tc_Pw D tcl (tys cI cB cZ) (wd_Memory cI cB cZ h h_words q_size n_words c_words) sz ([.ref h, .int x1, .int x2] : List Value) none) (tc_Qv D tcl (wd_Memory cI cB cZ h h_words q_size n_words c_words) sz (fun u => (wd_Memory cI cB cZ h h_words q_size n_words u)) (f_Memory_putWord c_words x1 x2)) 0 0 (va_A (wd_Memory cI cB cZ h h_words q_size n_words c_words) sz) := by
  refine tc_mu_v (by decide) (Nat.le_of_ble_eq_true rfl) ?_
  intro p e s m below meth c A Q ls hx hb hml hts hown hK hN hP hD hA hZ hl RET
  have hS : va_S A s.heap s.heap [] := va_S.rf
  have hl : lv_has ls 3 [(0, .ref h), (1, .int x1), (2, .int x2)] := hl
  generalize hF : f_Memory_putWord c_words x1 x2 = FF at RET
  have hq : FF = f_Memory_putWord c_words x1 x2 := hF.symm
  revert hP hD hS
  suffices G : ∀ (H : Heap) (locs : List Loc), va_P D tcl (wd_Memory cI cB cZ h h_words q_size n_words c_words) H → va_D A (wd_Memory cI cB cZ h h_words q_size n_words c_words) → va_S A s.heap H locs → W p l e rm_Memory_putWord s m ([.ref h, .int x1, .int x2] : List Value).toArray below meth c H locs 0 0 Q (F0 m 0 ls []) from fun hP hD hS => G _ _ hP hD hS
  intro H locs hP hD hS
  refine lv_aload_n hx hb d_Memory_putWord_0 rfl (lv_at hl 0 rfl) ?_
  refine va_get (D := D) (ci := 3) (v := .ref h_words) (C := R_Memory) (T := F_Memory) (N := 2) hx hb hts u_Memory hown hK hP 0 rfl rfl 1 (by decide) (hts _ wf_Memory_13) (fun _ h9 => h9) rfl d_Memory_putWord_1 ?_
  refine lv_iload_n hx hb d_Memory_putWord_4 rfl (lv_at hl 1 rfl) ?_
  refine lv_iconst (v := 2) hx hb d_Memory_putWord_5 (by decide) ?_
  refine lv_iushr (v := (o_iushr x1 2)) hx hb d_Memory_putWord_6 rfl ?_
  refine lv_iload_n hx hb d_Memory_putWord_7 rfl (lv_at hl 2 rfl) ?_
  refine va_iast hx hb hK hP hD hS 1 0 rfl rfl (tc_okI hm hin) d_Memory_putWord_8 (fun H locs hP hD hS => ?_)
  have hP : va_P D tcl (wd_Memory cI cB cZ h h_words q_size n_words (upd c_words (o_iushr x1 2).toNatClampNeg x2)) H := hP
  have hD : va_D A (wd_Memory cI cB cZ h h_words q_size n_words (upd c_words (o_iushr x1 2).toNatClampNeg x2)) := hD
  exact RET H locs ls 9 (upd c_words (o_iushr x1 2).toNatClampNeg x2) d_Memory_putWord_9 hP hD hS hq
abbrev rm_Memory_lowest : Room := { frames := 1, cells := 0, slots := 0, locals := 24 }
set_option maxHeartbeats 4000000 in
set_option maxRecDepth 100000 in
theorem c_Memory_lowest (l : Launch) (x1 : Int32) : Met l y_Memory_lowest (.code y_Memory_lowest b_Memory_lowest 1 (some .int) :: tcb) rm_Memory_lowest (va_Pc ([.int x1] : List Value) (fun _ => True)) (QcRead (f_Memory_lowest x1)) 0 0 (fun _ => False) := by
  refine tc_st_i (by decide) (Nat.le_of_ble_eq_true rfl) ?_
  intro p e s m below meth c Q ls hx hb hml hts hown hl RET
  have hl : lv_has ls 1 [(0, .int x1)] := hl
  generalize hF : f_Memory_lowest x1 = FF at RET
  have hq : FF = f_Memory_lowest x1 := hF.symm
  refine lv_iload_n hx hb d_Memory_lowest_0 rfl (lv_at hl 0 rfl) ?_
  refine lv_iconst (v := 4) hx hb d_Memory_lowest_1 (by decide) ?_
  refine lv_icmp_ne (tgt := 9) hx hb d_Memory_lowest_2 (by decide) (fun g_2 => ?_) (fun g_2 => ?_)
  · have hq := hq.trans (if_pos g_2)
    refine lv_iconst (v := 1) hx hb d_Memory_lowest_9 (by decide) ?_
    refine lv_bipush (v := 8) hx hb d_Memory_lowest_10 (by decide) ?_
    refine lv_iload_n hx hb d_Memory_lowest_12 rfl (lv_at hl 0 rfl) ?_
    refine lv_imul hx hb d_Memory_lowest_13 ?_
    refine lv_ishl hx hb d_Memory_lowest_14 ?_
    refine lv_iconst (v := 1) hx hb d_Memory_lowest_15 (by decide) ?_
    refine lv_isub hx hb d_Memory_lowest_16 ?_
    exact RET ls 17 d_Memory_lowest_17 hq
  · have hq := hq.trans (if_neg (fun g => g g_2))
    refine lv_iconst (v := (-1)) hx hb d_Memory_lowest_5 (by decide) ?_
    refine lv_goto (tgt := 17) hx hb d_Memory_lowest_6 (by decide) ?_
    exact RET ls 17 d_Memory_lowest_17 hq
abbrev rm_Memory_read : Room := { frames := 2, cells := 0, slots := 0, locals := 44 }
set_option maxHeartbeats 4000000 in
set_option maxRecDepth 100000 in
theorem c_Memory_read (l : Launch) (D : va_G) (cI cB cZ : ClassId) (h h_words sz : Nat) (q_size : Int32) (n_words : Nat) (c_words : Nat → Int32) (x1 : Int32) (x2 : Int32) (hm : tc_mem q_size n_words) (hin : tc_ok q_size x1) : Met l y_Memory_read (.code y_Memory_read b_Memory_read 3 (some .int) :: tcb) rm_Memory_read (tc_Pw D tcl (tys cI cB cZ) (wd_Memory cI cB cZ h h_words q_size n_words c_words) sz ([.ref h, .int x1, .int x2] : List Value) none) (QcRead (f_Memory_read c_words x1 x2)) 0 0 (fun _ => False) := by
  refine tc_rd_i (by decide) (Nat.le_of_ble_eq_true rfl) ?_
  intro p e s m below meth c Q ls hx hb hml hts hown hK hN hP hD hl RET
  have hl : lv_has ls 3 [(0, .ref h), (1, .int x1), (2, .int x2)] := hl
  generalize hF : f_Memory_read c_words x1 x2 = FF at RET
  have hq : FF = f_Memory_read c_words x1 x2 := hF.symm
  refine lv_aload_n hx hb d_Memory_read_0 rfl (lv_at hl 0 rfl) ?_
  refine va_get (D := D) (ci := 3) (v := .ref h_words) (C := R_Memory) (T := F_Memory) (N := 2) hx hb hts u_Memory hown hK hP 0 rfl rfl 1 (by decide) (hts _ wf_Memory_13) (fun _ h9 => h9) rfl d_Memory_read_1 ?_
  refine lv_iload_n hx hb d_Memory_read_4 rfl (lv_at hl 1 rfl) ?_
  refine lv_iconst (v := 2) hx hb d_Memory_read_5 (by decide) ?_
  refine lv_iushr (v := (o_iushr x1 2)) hx hb d_Memory_read_6 rfl ?_
  refine va_iald hx hb hK hP 1 0 rfl rfl (tc_okI hm hin) d_Memory_read_7 ?_
  refine lv_bipush (v := 8) hx hb d_Memory_read_8 (by decide) ?_
  refine lv_iload_n hx hb d_Memory_read_10 rfl (lv_at hl 1 rfl) ?_
  refine lv_iconst (v := 3) hx hb d_Memory_read_11 (by decide) ?_
  refine lv_iand hx hb d_Memory_read_12 ?_
  refine lv_imul hx hb d_Memory_read_13 ?_
  refine lv_iushr (v := (o_iushr (c_words (o_iushr x1 2).toNatClampNeg) (8 * (x1 &&& 3)))) hx hb d_Memory_read_14 rfl ?_
  refine lv_iload_n hx hb d_Memory_read_15 rfl (lv_at hl 2 rfl) ?_
  refine tc_rd (va_runS (As := [.int x2]) (rest := [.int (o_iushr (c_words (o_iushr x1 2).toNatClampNeg) (8 * (x1 &&& 3)))]) ⟨hx, hb, hml, hown, hts⟩ (c_Memory_lowest l x2) (va_cwS 1 hts (tc_gS wl_Memory_21 wt_Memory_lowest wi_Memory wc_Memory_lowest) rfl rfl rfl (by decide +kernel) ⟨Nat.le_of_ble_eq_true rfl, Nat.le_of_ble_eq_true rfl⟩) tc_preS rfl rfl hl.1 rfl (lv_room (Nat.le_of_ble_eq_true rfl)) d_Memory_read_16 (by decide)) ?_
  refine lv_topi (fun v1 e_v1 => ?_)
  have hq := tc_nm hq e_v1
  refine lv_iand hx hb d_Memory_read_19 ?_
  exact RET ls 20 d_Memory_read_20 hq
abbrev rm_Memory_write : Room := { frames := 2, cells := 0, slots := 0, locals := 44 }
set_option maxHeartbeats 4000000 in
set_option maxRecDepth 100000 in
theorem c_Memory_write (l : Launch) (D : va_G) (cI cB cZ : ClassId) (h h_words sz : Nat) (q_size : Int32) (n_words : Nat) (c_words : Nat → Int32) (x1 : Int32) (x2 : Int32) (x3 : Int32) (hm : tc_mem q_size n_words) (hin : tc_ok q_size x1) : Met l y_Memory_write (.code y_Memory_write b_Memory_write 6 none :: tcb) rm_Memory_write (tc_Pw D tcl (tys cI cB cZ) (wd_Memory cI cB cZ h h_words q_size n_words c_words) sz ([.ref h, .int x1, .int x2, .int x3] : List Value) none) (tc_Qv D tcl (wd_Memory cI cB cZ h h_words q_size n_words c_words) sz (fun u => (wd_Memory cI cB cZ h h_words q_size n_words u)) (f_Memory_write c_words x1 x2 x3)) 0 0 (va_A (wd_Memory cI cB cZ h h_words q_size n_words c_words) sz) := by
  refine tc_mu_v (by decide) (Nat.le_of_ble_eq_true rfl) ?_
  intro p e s m below meth c A Q ls hx hb hml hts hown hK hN hP hD hA hZ hl RET
  have hS : va_S A s.heap s.heap [] := va_S.rf
  have hl : lv_has ls 6 [(0, .ref h), (1, .int x1), (2, .int x2), (3, .int x3)] := hl
  generalize hF : f_Memory_write c_words x1 x2 x3 = FF at RET
  have hq : FF = f_Memory_write c_words x1 x2 x3 := hF.symm
  revert hP hD hS
  suffices G : ∀ (H : Heap) (locs : List Loc), va_P D tcl (wd_Memory cI cB cZ h h_words q_size n_words c_words) H → va_D A (wd_Memory cI cB cZ h h_words q_size n_words c_words) → va_S A s.heap H locs → W p l e rm_Memory_write s m ([.ref h, .int x1, .int x2, .int x3] : List Value).toArray below meth c H locs 0 0 Q (F0 m 0 ls []) from fun hP hD hS => G _ _ hP hD hS
  intro H locs hP hD hS
  refine lv_bipush (v := 8) hx hb d_Memory_write_0 (by decide) ?_
  refine lv_iload_n hx hb d_Memory_write_2 rfl (lv_at hl 1 rfl) ?_
  refine lv_iconst (v := 3) hx hb d_Memory_write_3 (by decide) ?_
  refine lv_iand hx hb d_Memory_write_4 ?_
  refine lv_imul hx hb d_Memory_write_5 ?_
  refine lv_topi (fun v1 e_v1 => ?_)
  have hq := tc_nm hq e_v1
  refine lv_istore (lv' := [(4, .int v1), (0, .ref h), (1, .int x1), (2, .int x2), (3, .int x3)]) hx hb d_Memory_write_6 hl (by decide) rfl (fun ls hl => ?_)
  refine lv_iload_n hx hb d_Memory_write_8 rfl (lv_at hl 4 rfl) ?_
  refine tc_rd (va_runS (As := [.int x3]) (rest := []) ⟨hx, hb, hml, hown, hts⟩ (c_Memory_lowest l x3) (va_cwS 1 hts (tc_gS wl_Memory_21 wt_Memory_lowest wi_Memory wc_Memory_lowest) rfl rfl rfl (by decide +kernel) ⟨Nat.le_of_ble_eq_true rfl, Nat.le_of_ble_eq_true rfl⟩) tc_preS rfl rfl hl.1 rfl (lv_room (Nat.le_of_ble_eq_true rfl)) d_Memory_write_9 (by decide)) ?_
  refine lv_topi (fun v2 e_v2 => ?_)
  have hq := tc_nm hq e_v2
  refine lv_iload hx hb d_Memory_write_12 (lv_at hl 0 rfl) ?_
  refine lv_ishl hx hb d_Memory_write_14 ?_
  refine lv_topi (fun v3 e_v3 => ?_)
  have hq := tc_nm hq e_v3
  refine lv_istore (lv' := [(5, .int v3), (4, .int v1), (0, .ref h), (1, .int x1), (2, .int x2), (3, .int x3)]) hx hb d_Memory_write_15 hl (by decide) rfl (fun ls hl => ?_)
  refine lv_aload_n hx hb d_Memory_write_17 rfl (lv_at hl 2 rfl) ?_
  refine va_get (D := D) (ci := 3) (v := .ref h_words) (C := R_Memory) (T := F_Memory) (N := 2) hx hb hts u_Memory hown hK hP 0 rfl rfl 1 (by decide) (hts _ wf_Memory_13) (fun _ h9 => h9) rfl d_Memory_write_18 ?_
  refine lv_iload_n hx hb d_Memory_write_21 rfl (lv_at hl 3 rfl) ?_
  refine lv_iconst (v := 2) hx hb d_Memory_write_22 (by decide) ?_
  refine lv_iushr (v := (o_iushr x1 2)) hx hb d_Memory_write_23 rfl ?_
  refine lv_aload_n hx hb d_Memory_write_24 rfl (lv_at hl 2 rfl) ?_
  refine va_get (D := D) (ci := 3) (v := .ref h_words) (C := R_Memory) (T := F_Memory) (N := 2) hx hb hts u_Memory hown hK hP 0 rfl rfl 1 (by decide) (hts _ wf_Memory_13) (fun _ h9 => h9) rfl d_Memory_write_25 ?_
  refine lv_iload_n hx hb d_Memory_write_28 rfl (lv_at hl 3 rfl) ?_
  refine lv_iconst (v := 2) hx hb d_Memory_write_29 (by decide) ?_
  refine lv_iushr (v := (o_iushr x1 2)) hx hb d_Memory_write_30 rfl ?_
  refine va_iald hx hb hK hP 1 0 rfl rfl (tc_okI hm hin) d_Memory_write_31 ?_
  refine lv_iload hx hb d_Memory_write_32 (lv_at hl 0 rfl) ?_
  refine lv_iconst (v := (-1)) hx hb d_Memory_write_34 (by decide) ?_
  refine lv_ixor hx hb d_Memory_write_35 ?_
  refine lv_iand hx hb d_Memory_write_36 ?_
  refine lv_iload_n hx hb d_Memory_write_37 rfl (lv_at hl 4 rfl) ?_
  refine lv_iload hx hb d_Memory_write_38 (lv_at hl 1 rfl) ?_
  refine lv_ishl hx hb d_Memory_write_40 ?_
  refine lv_iload hx hb d_Memory_write_41 (lv_at hl 0 rfl) ?_
  refine lv_iand hx hb d_Memory_write_43 ?_
  refine lv_ior hx hb d_Memory_write_44 ?_
  refine va_iast hx hb hK hP hD hS 1 0 rfl rfl (tc_okI hm hin) d_Memory_write_45 (fun H locs hP hD hS => ?_)
  have hP : va_P D tcl (wd_Memory cI cB cZ h h_words q_size n_words (upd c_words (o_iushr x1 2).toNatClampNeg (((c_words (o_iushr x1 2).toNatClampNeg) &&& (v3 ^^^ (-1))) ||| ((o_ishl x2 v1) &&& v3)))) H := hP
  have hD : va_D A (wd_Memory cI cB cZ h h_words q_size n_words (upd c_words (o_iushr x1 2).toNatClampNeg (((c_words (o_iushr x1 2).toNatClampNeg) &&& (v3 ^^^ (-1))) ||| ((o_ishl x2 v1) &&& v3)))) := hD
  exact RET H locs ls 46 (upd c_words (o_iushr x1 2).toNatClampNeg (((c_words (o_iushr x1 2).toNatClampNeg) &&& (v3 ^^^ (-1))) ||| ((o_ishl x2 v1) &&& v3))) d_Memory_write_46 hP hD hS hq

abbrev rm_ThumbCoreModel_present : Room := { frames := 1, cells := 0, slots := 0, locals := 24 }
set_option maxHeartbeats 4000000 in
set_option maxRecDepth 100000 in
theorem c_ThumbCoreModel_present (l : Launch) (D : va_G) (cI cB cZ : ClassId) (h h_memory h_reg h_kept h_pending h_active h_priorities sz : Nat) (q_size : Int32) (c_n : Bool) (c_z : Bool) (c_c : Bool) (c_v : Bool) (c_keptFlags : Int32) (c_bad : Bool) (c_h : Int32) (c_after : Int32) (c_entered : Bool) (c_mask : Bool) (c_asleep : Bool) (c_lockup : Bool) (c_counts : Bool) (c_counter : Int32) (c_reload : Int32) (c_current : Int32) (c_memory : Nat → Int32) (c_reg : Nat → Int32) (c_kept : Nat → Int32) (c_pending : Nat → Bool) (c_active : Nat → Bool) (c_priorities : Nat → Int32) (x1 : Bool) : Met l y_ThumbCoreModel_present (.code y_ThumbCoreModel_present b_ThumbCoreModel_present 4 (some .int) :: tcb) rm_ThumbCoreModel_present (tc_Pw D tcl (tys cI cB cZ) (wd_ThumbCoreModel cI cB cZ h h_memory h_reg h_kept h_pending h_active h_priorities q_size c_n c_z c_c c_v c_keptFlags c_bad c_h c_after c_entered c_mask c_asleep c_lockup c_counts c_counter c_reload c_current c_memory c_reg c_kept c_pending c_active c_priorities) sz ([.ref h, .int (bI x1)] : List Value) none) (QcRead (f_ThumbCoreModel_present c_mask c_active c_priorities x1)) 0 0 (fun _ => False) := by
  refine tc_rd_i (by decide) (Nat.le_of_ble_eq_true rfl) ?_
  intro p e s m below meth c Q ls hx hb hml hts hown hK hN hP hD hl RET
  have hl : lv_has ls 4 [(0, .ref h), (1, .int (bI x1))] := hl
  generalize hF : f_ThumbCoreModel_present c_mask c_active c_priorities x1 = FF at RET
  have J_4 : ∀ n : Nat, ∀ (ls : Array Slot) (y1 : Bool) (y2 : Int32) (y3 : Int32), lv_has ls 4 [(0, .ref h), (1, .int (bI y1)), (2, .int y2), (3, .int y3)] → FF = k_ThumbCoreModel_present_4 c_mask c_active c_priorities n y1 y2 y3 → (tc_lp y3 16 n) → W p l e rm_ThumbCoreModel_present s m ([.ref h, .int (bI x1)] : List Value).toArray below meth c s.heap [] 0 0 Q (F0 m 4 ls []) := by
    intro n
    induction n with
    | zero =>
      intro ls y1 y2 y3 hl hq hinv
      exact (tc_lp0 hinv).elim
    | succ n_4 IH_4 =>
      have J_39 : ∀ (ls : Array Slot) (y1 : Bool) (y3 : Int32) (z0 : Int32), lv_has ls 4 [(0, .ref h), (1, .int (bI y1)), (3, .int y3)] → FF = k_ThumbCoreModel_present_39 c_mask c_active c_priorities (k_ThumbCoreModel_present_4 c_mask c_active c_priorities n_4) y1 y3 z0 → (tc_lp y3 16 (n_4 + 1)) → (y3.toInt < (16 : Nat)) → W p l e rm_ThumbCoreModel_present s m ([.ref h, .int (bI x1)] : List Value).toArray below meth c s.heap [] 0 0 Q (F0 m 39 ls [.int z0]) := by
        intro ls y1 y3 z0 hl hq hinv hgd
        refine lv_istore_n (lv' := [(2, .int z0), (0, .ref h), (1, .int (bI y1)), (3, .int y3)]) hx hb d_ThumbCoreModel_present_39 rfl hl (by decide) rfl (fun ls hl => ?_)
        refine lv_iinc (k := 3) (v := (y3 + 1)) (lv' := [(3, .int (y3 + 1)), (2, .int z0), (0, .ref h), (1, .int (bI y1))]) hx hb d_ThumbCoreModel_present_40 hl rfl rfl (by decide) rfl (fun ls hl => ?_)
        refine lv_goto (tgt := 4) hx hb d_ThumbCoreModel_present_43 (by decide) ?_
        exact IH_4 ls y1 z0 (y3 + 1) (lv_sub hl [2, 3, 1, 0] rfl) hq (tc_lpS hinv hgd (by decide))
      have J_38 : ∀ (ls : Array Slot) (y1 : Bool) (y2 : Int32) (y3 : Int32), lv_has ls 4 [(0, .ref h), (1, .int (bI y1)), (2, .int y2), (3, .int y3)] → FF = k_ThumbCoreModel_present_38 c_mask c_active c_priorities (k_ThumbCoreModel_present_4 c_mask c_active c_priorities n_4) y1 y2 y3 → (tc_lp y3 16 (n_4 + 1)) → (y3.toInt < (16 : Nat)) → W p l e rm_ThumbCoreModel_present s m ([.ref h, .int (bI x1)] : List Value).toArray below meth c s.heap [] 0 0 Q (F0 m 38 ls []) := by
        intro ls y1 y2 y3 hl hq hinv hgd
        refine lv_iload_n hx hb d_ThumbCoreModel_present_38 rfl (lv_at hl 2 rfl) ?_
        exact J_39 ls y1 y3 y2 (lv_sub hl [0, 1, 3] rfl) hq (by assumption) (by assumption)
      intro ls y1 y2 y3 hl hq hinv
      refine lv_iload_n hx hb d_ThumbCoreModel_present_4 rfl (lv_at hl 3 rfl) ?_
      refine lv_bipush (v := 16) hx hb d_ThumbCoreModel_present_5 (by decide) ?_
      refine lv_icmp_ge (tgt := 46) hx hb d_ThumbCoreModel_present_7 (by decide) (fun g_7 => ?_) (fun g_7 => ?_)
      · have hq := hq.trans (if_pos g_7)
        refine lv_iload_n hx hb d_ThumbCoreModel_present_46 rfl (lv_at hl 1 rfl) ?_
        refine lv_if_eq (tgt := 65) hx hb d_ThumbCoreModel_present_47 (by decide) (fun g_47 => ?_) (fun g_47 => ?_)
        · have hq := hq.trans (if_pos g_47)
          refine lv_iload_n hx hb d_ThumbCoreModel_present_65 rfl (lv_at hl 2 rfl) ?_
          exact RET ls 66 d_ThumbCoreModel_present_66 hq
        · have hq := hq.trans (if_neg g_47)
          refine lv_aload_n hx hb d_ThumbCoreModel_present_50 rfl (lv_at hl 0 rfl) ?_
          refine va_get (D := D) (ci := 5) (v := .int (bI c_mask)) (C := R_ThumbCoreModel) (T := F_ThumbCoreModel) (N := 23) hx hb hts u_ThumbCoreModel hown hK hP 0 rfl rfl 13 (by decide) (hts _ wf_ThumbCoreModel_53) (fun _ h9 => h9) rfl d_ThumbCoreModel_present_51 ?_
          refine lv_if_eq (tgt := 65) hx hb d_ThumbCoreModel_present_54 (by decide) (fun g_54 => ?_) (fun g_54 => ?_)
          · have hq := hq.trans (if_pos g_54)
            refine lv_iload_n hx hb d_ThumbCoreModel_present_65 rfl (lv_at hl 2 rfl) ?_
            exact RET ls 66 d_ThumbCoreModel_present_66 hq
          · have hq := hq.trans (if_neg g_54)
            refine lv_iload_n hx hb d_ThumbCoreModel_present_57 rfl (lv_at hl 2 rfl) ?_
            refine lv_if_le (tgt := 65) hx hb d_ThumbCoreModel_present_58 (by decide) (fun g_58 => ?_) (fun g_58 => ?_)
            · have hq := hq.trans (if_pos g_58)
              refine lv_iload_n hx hb d_ThumbCoreModel_present_65 rfl (lv_at hl 2 rfl) ?_
              exact RET ls 66 d_ThumbCoreModel_present_66 hq
            · have hq := hq.trans (if_neg g_58)
              refine lv_iconst (v := 0) hx hb d_ThumbCoreModel_present_61 (by decide) ?_
              refine lv_goto (tgt := 66) hx hb d_ThumbCoreModel_present_62 (by decide) ?_
              exact RET ls 66 d_ThumbCoreModel_present_66 hq
      · have hq := hq.trans (if_neg g_7)
        have hgd : y3.toInt < ((16 : Nat) : Int) := tc_gge g_7 (by decide)
        refine lv_aload_n hx hb d_ThumbCoreModel_present_10 rfl (lv_at hl 0 rfl) ?_
        refine va_get (D := D) (ci := 5) (v := .ref h_active) (C := R_ThumbCoreModel) (T := F_ThumbCoreModel) (N := 23) hx hb hts u_ThumbCoreModel hown hK hP 0 rfl rfl 21 (by decide) (hts _ wf_ThumbCoreModel_24) (fun _ h9 => h9) rfl d_ThumbCoreModel_present_11 ?_
        refine lv_iload_n hx hb d_ThumbCoreModel_present_14 rfl (lv_at hl 3 rfl) ?_
        refine va_zald hx hb hK hP 5 2 rfl rfl (tc_lpI hinv hgd (by decide)) d_ThumbCoreModel_present_15 ?_
        refine lv_if_eq (tgt := 38) hx hb d_ThumbCoreModel_present_16 (by decide) (fun g_16 => ?_) (fun g_16 => ?_)
        · have hq := hq.trans (if_pos g_16)
          exact J_38 ls y1 y2 y3 (lv_sub hl [0, 1, 2, 3] rfl) hq (by assumption) (by assumption)
        · have hq := hq.trans (if_neg g_16)
          refine lv_aload_n hx hb d_ThumbCoreModel_present_19 rfl (lv_at hl 0 rfl) ?_
          refine va_get (D := D) (ci := 5) (v := .ref h_priorities) (C := R_ThumbCoreModel) (T := F_ThumbCoreModel) (N := 23) hx hb hts u_ThumbCoreModel hown hK hP 0 rfl rfl 22 (by decide) (hts _ wf_ThumbCoreModel_27) (fun _ h9 => h9) rfl d_ThumbCoreModel_present_20 ?_
          refine lv_iload_n hx hb d_ThumbCoreModel_present_23 rfl (lv_at hl 3 rfl) ?_
          refine va_iald hx hb hK hP 6 0 rfl rfl (tc_lpI hinv hgd (by decide)) d_ThumbCoreModel_present_24 ?_
          refine lv_iload_n hx hb d_ThumbCoreModel_present_25 rfl (lv_at hl 2 rfl) ?_
          refine lv_icmp_ge (tgt := 38) hx hb d_ThumbCoreModel_present_26 (by decide) (fun g_26 => ?_) (fun g_26 => ?_)
          · have hq := hq.trans (if_pos g_26)
            exact J_38 ls y1 y2 y3 (lv_sub hl [0, 1, 2, 3] rfl) hq (by assumption) (by assumption)
          · have hq := hq.trans (if_neg g_26)
            refine lv_aload_n hx hb d_ThumbCoreModel_present_29 rfl (lv_at hl 0 rfl) ?_
            refine va_get (D := D) (ci := 5) (v := .ref h_priorities) (C := R_ThumbCoreModel) (T := F_ThumbCoreModel) (N := 23) hx hb hts u_ThumbCoreModel hown hK hP 0 rfl rfl 22 (by decide) (hts _ wf_ThumbCoreModel_27) (fun _ h9 => h9) rfl d_ThumbCoreModel_present_30 ?_
            refine lv_iload_n hx hb d_ThumbCoreModel_present_33 rfl (lv_at hl 3 rfl) ?_
            refine va_iald hx hb hK hP 6 0 rfl rfl (tc_lpI hinv hgd (by decide)) d_ThumbCoreModel_present_34 ?_
            refine lv_goto (tgt := 39) hx hb d_ThumbCoreModel_present_35 (by decide) ?_
            exact J_39 ls y1 y3 (c_priorities y3.toNatClampNeg) (lv_sub hl [0, 1, 3] rfl) hq (by assumption) (by assumption)
  have hq : FF = f_ThumbCoreModel_present c_mask c_active c_priorities x1 := hF.symm
  refine lv_iconst (v := 4) hx hb d_ThumbCoreModel_present_0 (by decide) ?_
  refine lv_istore_n (lv' := [(2, .int 4), (0, .ref h), (1, .int (bI x1))]) hx hb d_ThumbCoreModel_present_1 rfl hl (by decide) rfl (fun ls hl => ?_)
  refine lv_iconst (v := 0) hx hb d_ThumbCoreModel_present_2 (by decide) ?_
  refine lv_istore_n (lv' := [(3, .int 0), (2, .int 4), (0, .ref h), (1, .int (bI x1))]) hx hb d_ThumbCoreModel_present_3 rfl hl (by decide) rfl (fun ls hl => ?_)
  exact J_4 (17) ls x1 4 0 (lv_sub hl [2, 3, 1, 0] rfl) hq (tc_lpE _)
abbrev rm_ThumbCoreModel_actives : Room := { frames := 1, cells := 0, slots := 0, locals := 24 }
set_option maxHeartbeats 4000000 in
set_option maxRecDepth 100000 in
theorem c_ThumbCoreModel_actives (l : Launch) (D : va_G) (cI cB cZ : ClassId) (h h_memory h_reg h_kept h_pending h_active h_priorities sz : Nat) (q_size : Int32) (c_n : Bool) (c_z : Bool) (c_c : Bool) (c_v : Bool) (c_keptFlags : Int32) (c_bad : Bool) (c_h : Int32) (c_after : Int32) (c_entered : Bool) (c_mask : Bool) (c_asleep : Bool) (c_lockup : Bool) (c_counts : Bool) (c_counter : Int32) (c_reload : Int32) (c_current : Int32) (c_memory : Nat → Int32) (c_reg : Nat → Int32) (c_kept : Nat → Int32) (c_pending : Nat → Bool) (c_active : Nat → Bool) (c_priorities : Nat → Int32) : Met l y_ThumbCoreModel_actives (.code y_ThumbCoreModel_actives b_ThumbCoreModel_actives 3 (some .int) :: tcb) rm_ThumbCoreModel_actives (tc_Pw D tcl (tys cI cB cZ) (wd_ThumbCoreModel cI cB cZ h h_memory h_reg h_kept h_pending h_active h_priorities q_size c_n c_z c_c c_v c_keptFlags c_bad c_h c_after c_entered c_mask c_asleep c_lockup c_counts c_counter c_reload c_current c_memory c_reg c_kept c_pending c_active c_priorities) sz ([.ref h] : List Value) none) (QcRead (f_ThumbCoreModel_actives c_active)) 0 0 (fun _ => False) := by
  refine tc_rd_i (by decide) (Nat.le_of_ble_eq_true rfl) ?_
  intro p e s m below meth c Q ls hx hb hml hts hown hK hN hP hD hl RET
  have hl : lv_has ls 3 [(0, .ref h)] := hl
  generalize hF : f_ThumbCoreModel_actives c_active = FF at RET
  have J_4 : ∀ n : Nat, ∀ (ls : Array Slot) (y1 : Int32) (y2 : Int32), lv_has ls 3 [(0, .ref h), (1, .int y1), (2, .int y2)] → FF = k_ThumbCoreModel_actives_4 c_active n y1 y2 → (tc_lp y2 16 n) → W p l e rm_ThumbCoreModel_actives s m ([.ref h] : List Value).toArray below meth c s.heap [] 0 0 Q (F0 m 4 ls []) := by
    intro n
    induction n with
    | zero =>
      intro ls y1 y2 hl hq hinv
      exact (tc_lp0 hinv).elim
    | succ n_4 IH_4 =>
      have J_26 : ∀ (ls : Array Slot) (y2 : Int32) (z0 : Int32), lv_has ls 3 [(0, .ref h), (2, .int y2)] → FF = k_ThumbCoreModel_actives_26 c_active (k_ThumbCoreModel_actives_4 c_active n_4) y2 z0 → (tc_lp y2 16 (n_4 + 1)) → (y2.toInt < (16 : Nat)) → W p l e rm_ThumbCoreModel_actives s m ([.ref h] : List Value).toArray below meth c s.heap [] 0 0 Q (F0 m 26 ls [.int z0]) := by
        intro ls y2 z0 hl hq hinv hgd
        refine lv_istore_n (lv' := [(1, .int z0), (0, .ref h), (2, .int y2)]) hx hb d_ThumbCoreModel_actives_26 rfl hl (by decide) rfl (fun ls hl => ?_)
        refine lv_iinc (k := 2) (v := (y2 + 1)) (lv' := [(2, .int (y2 + 1)), (1, .int z0), (0, .ref h)]) hx hb d_ThumbCoreModel_actives_27 hl rfl rfl (by decide) rfl (fun ls hl => ?_)
        refine lv_goto (tgt := 4) hx hb d_ThumbCoreModel_actives_30 (by decide) ?_
        exact IH_4 ls z0 (y2 + 1) (lv_sub hl [2, 1, 0] rfl) hq (tc_lpS hinv hgd (by decide))
      intro ls y1 y2 hl hq hinv
      refine lv_iload_n hx hb d_ThumbCoreModel_actives_4 rfl (lv_at hl 2 rfl) ?_
      refine lv_bipush (v := 16) hx hb d_ThumbCoreModel_actives_5 (by decide) ?_
      refine lv_icmp_ge (tgt := 33) hx hb d_ThumbCoreModel_actives_7 (by decide) (fun g_7 => ?_) (fun g_7 => ?_)
      · have hq := hq.trans (if_pos g_7)
        refine lv_iload_n hx hb d_ThumbCoreModel_actives_33 rfl (lv_at hl 1 rfl) ?_
        exact RET ls 34 d_ThumbCoreModel_actives_34 hq
      · have hq := hq.trans (if_neg g_7)
        have hgd : y2.toInt < ((16 : Nat) : Int) := tc_gge g_7 (by decide)
        refine lv_aload_n hx hb d_ThumbCoreModel_actives_10 rfl (lv_at hl 0 rfl) ?_
        refine va_get (D := D) (ci := 5) (v := .ref h_active) (C := R_ThumbCoreModel) (T := F_ThumbCoreModel) (N := 23) hx hb hts u_ThumbCoreModel hown hK hP 0 rfl rfl 21 (by decide) (hts _ wf_ThumbCoreModel_24) (fun _ h9 => h9) rfl d_ThumbCoreModel_actives_11 ?_
        refine lv_iload_n hx hb d_ThumbCoreModel_actives_14 rfl (lv_at hl 2 rfl) ?_
        refine va_zald hx hb hK hP 5 2 rfl rfl (tc_lpI hinv hgd (by decide)) d_ThumbCoreModel_actives_15 ?_
        refine lv_if_eq (tgt := 25) hx hb d_ThumbCoreModel_actives_16 (by decide) (fun g_16 => ?_) (fun g_16 => ?_)
        · have hq := hq.trans (if_pos g_16)
          refine lv_iload_n hx hb d_ThumbCoreModel_actives_25 rfl (lv_at hl 1 rfl) ?_
          exact J_26 ls y2 y1 (lv_sub hl [0, 2] rfl) hq (by assumption) (by assumption)
        · have hq := hq.trans (if_neg g_16)
          refine lv_iload_n hx hb d_ThumbCoreModel_actives_19 rfl (lv_at hl 1 rfl) ?_
          refine lv_iconst (v := 1) hx hb d_ThumbCoreModel_actives_20 (by decide) ?_
          refine lv_iadd hx hb d_ThumbCoreModel_actives_21 ?_
          refine lv_goto (tgt := 26) hx hb d_ThumbCoreModel_actives_22 (by decide) ?_
          exact J_26 ls y2 (y1 + 1) (lv_sub hl [0, 2] rfl) hq (by assumption) (by assumption)
  have hq : FF = f_ThumbCoreModel_actives c_active := hF.symm
  refine lv_iconst (v := 0) hx hb d_ThumbCoreModel_actives_0 (by decide) ?_
  refine lv_istore_n (lv' := [(1, .int 0), (0, .ref h)]) hx hb d_ThumbCoreModel_actives_1 rfl hl (by decide) rfl (fun ls hl => ?_)
  refine lv_iconst (v := 0) hx hb d_ThumbCoreModel_actives_2 (by decide) ?_
  refine lv_istore_n (lv' := [(2, .int 0), (1, .int 0), (0, .ref h)]) hx hb d_ThumbCoreModel_actives_3 rfl hl (by decide) rfl (fun ls hl => ?_)
  exact J_4 (17) ls 0 0 (lv_sub hl [2, 1, 0] rfl) hq (tc_lpE _)
abbrev rm_ThumbCoreModel_waiting : Room := { frames := 1, cells := 0, slots := 0, locals := 24 }
set_option maxHeartbeats 4000000 in
set_option maxRecDepth 100000 in
theorem c_ThumbCoreModel_waiting (l : Launch) (D : va_G) (cI cB cZ : ClassId) (h h_memory h_reg h_kept h_pending h_active h_priorities sz : Nat) (q_size : Int32) (c_n : Bool) (c_z : Bool) (c_c : Bool) (c_v : Bool) (c_keptFlags : Int32) (c_bad : Bool) (c_h : Int32) (c_after : Int32) (c_entered : Bool) (c_mask : Bool) (c_asleep : Bool) (c_lockup : Bool) (c_counts : Bool) (c_counter : Int32) (c_reload : Int32) (c_current : Int32) (c_memory : Nat → Int32) (c_reg : Nat → Int32) (c_kept : Nat → Int32) (c_pending : Nat → Bool) (c_active : Nat → Bool) (c_priorities : Nat → Int32) (x1 : Int32) : Met l y_ThumbCoreModel_waiting (.code y_ThumbCoreModel_waiting b_ThumbCoreModel_waiting 5 (some .int) :: tcb) rm_ThumbCoreModel_waiting (tc_Pw D tcl (tys cI cB cZ) (wd_ThumbCoreModel cI cB cZ h h_memory h_reg h_kept h_pending h_active h_priorities q_size c_n c_z c_c c_v c_keptFlags c_bad c_h c_after c_entered c_mask c_asleep c_lockup c_counts c_counter c_reload c_current c_memory c_reg c_kept c_pending c_active c_priorities) sz ([.ref h, .int x1] : List Value) none) (QcRead (f_ThumbCoreModel_waiting c_pending c_priorities x1)) 0 0 (fun _ => False) := by
  refine tc_rd_i (by decide) (Nat.le_of_ble_eq_true rfl) ?_
  intro p e s m below meth c Q ls hx hb hml hts hown hK hN hP hD hl RET
  have hl : lv_has ls 5 [(0, .ref h), (1, .int x1)] := hl
  generalize hF : f_ThumbCoreModel_waiting c_pending c_priorities x1 = FF at RET
  have J_5 : ∀ n : Nat, ∀ (ls : Array Slot) (y1 : Int32) (y2 : Int32) (y3 : Int32), lv_has ls 5 [(0, .ref h), (1, .int y1), (2, .int y2), (3, .int y3)] → FF = k_ThumbCoreModel_waiting_5 c_pending c_priorities n y1 y2 y3 → (tc_ld y3 n) → (vp_in y2 16) → (y3.toInt ≤ 15) → W p l e rm_ThumbCoreModel_waiting s m ([.ref h, .int x1] : List Value).toArray below meth c s.heap [] 0 0 Q (F0 m 5 ls []) := by
    intro n
    induction n with
    | zero =>
      intro ls y1 y2 y3 hl hq hinv hi_y2 hub
      exact (tc_ld0 hinv).elim
    | succ n_5 IH_5 =>
      have J_64 : ∀ (ls : Array Slot) (y1 : Int32) (y3 : Int32) (z0 : Int32), lv_has ls 5 [(0, .ref h), (1, .int y1), (3, .int y3)] → FF = k_ThumbCoreModel_waiting_64 c_pending c_priorities (k_ThumbCoreModel_waiting_5 c_pending c_priorities n_5) y1 y3 z0 → (tc_ld y3 (n_5 + 1)) → (0 < y3.toInt) → (vp_in z0 16) → (y3.toInt ≤ 15) → W p l e rm_ThumbCoreModel_waiting s m ([.ref h, .int x1] : List Value).toArray below meth c s.heap [] 0 0 Q (F0 m 64 ls [.int z0]) := by
        intro ls y1 y3 z0 hl hq hinv hgd hi_z0 hub
        refine lv_istore_n (lv' := [(2, .int z0), (0, .ref h), (1, .int y1), (3, .int y3)]) hx hb d_ThumbCoreModel_waiting_64 rfl hl (by decide) rfl (fun ls hl => ?_)
        refine lv_iinc (k := 3) (v := (y3 + (-1))) (lv' := [(3, .int (y3 + (-1))), (2, .int z0), (0, .ref h), (1, .int y1)]) hx hb d_ThumbCoreModel_waiting_65 hl rfl rfl (by decide) rfl (fun ls hl => ?_)
        refine lv_goto (tgt := 5) hx hb d_ThumbCoreModel_waiting_68 (by decide) ?_
        exact IH_5 ls y1 z0 (y3 + (-1)) (lv_sub hl [2, 3, 1, 0] rfl) hq (tc_ldS hinv (Int.le_of_lt hgd)) hi_z0 (tc_dUb hgd hub)
      have J_63 : ∀ (ls : Array Slot) (y1 : Int32) (y2 : Int32) (y3 : Int32), lv_has ls 5 [(0, .ref h), (1, .int y1), (2, .int y2), (3, .int y3)] → FF = k_ThumbCoreModel_waiting_63 c_pending c_priorities (k_ThumbCoreModel_waiting_5 c_pending c_priorities n_5) y1 y2 y3 → (tc_ld y3 (n_5 + 1)) → (0 < y3.toInt) → (vp_in y2 16) → (y3.toInt ≤ 15) → W p l e rm_ThumbCoreModel_waiting s m ([.ref h, .int x1] : List Value).toArray below meth c s.heap [] 0 0 Q (F0 m 63 ls []) := by
        intro ls y1 y2 y3 hl hq hinv hgd hi_y2 hub
        refine lv_iload_n hx hb d_ThumbCoreModel_waiting_63 rfl (lv_at hl 2 rfl) ?_
        exact J_64 ls y1 y3 y2 (lv_sub hl [0, 1, 3] rfl) hq (by assumption) (by assumption) hi_y2 (by assumption)
      have J_59 : ∀ (ls : Array Slot) (y1 : Int32) (y3 : Int32), lv_has ls 5 [(0, .ref h), (1, .int y1), (3, .int y3)] → FF = k_ThumbCoreModel_waiting_59 c_pending c_priorities (k_ThumbCoreModel_waiting_5 c_pending c_priorities n_5) y1 y3 → (tc_ld y3 (n_5 + 1)) → (0 < y3.toInt) → (y3.toInt ≤ 15) → W p l e rm_ThumbCoreModel_waiting s m ([.ref h, .int x1] : List Value).toArray below meth c s.heap [] 0 0 Q (F0 m 59 ls []) := by
        intro ls y1 y3 hl hq hinv hgd hub
        refine lv_iload_n hx hb d_ThumbCoreModel_waiting_59 rfl (lv_at hl 2 rfl) ?_
        refine lv_goto (tgt := 64) hx hb d_ThumbCoreModel_waiting_60 (by decide) ?_
        exact J_64 ls y1 y3 y3 (lv_sub hl [0, 1, 2] rfl) hq (by assumption) (by assumption) (tc_dIn hgd hub) (by assumption)
      have J_33 : ∀ (ls : Array Slot) (y1 : Int32) (y2 : Int32) (y3 : Int32) (z0 : Bool), lv_has ls 5 [(0, .ref h), (1, .int y1), (2, .int y2), (3, .int y3)] → FF = k_ThumbCoreModel_waiting_33 c_pending c_priorities (k_ThumbCoreModel_waiting_5 c_pending c_priorities n_5) y1 y2 y3 z0 → (tc_ld y3 (n_5 + 1)) → (0 < y3.toInt) → (vp_in y2 16) → (y3.toInt ≤ 15) → W p l e rm_ThumbCoreModel_waiting s m ([.ref h, .int x1] : List Value).toArray below meth c s.heap [] 0 0 Q (F0 m 33 ls [.int (bI z0)]) := by
        intro ls y1 y2 y3 z0 hl hq hinv hgd hi_y2 hub
        refine lv_istore (lv' := [(4, .int (bI z0)), (0, .ref h), (1, .int y1), (2, .int y2), (3, .int y3)]) hx hb d_ThumbCoreModel_waiting_33 hl (by decide) rfl (fun ls hl => ?_)
        refine lv_iload hx hb d_ThumbCoreModel_waiting_35 (lv_at hl 0 rfl) ?_
        refine lv_if_eq (tgt := 63) hx hb d_ThumbCoreModel_waiting_37 (by decide) (fun g_37 => ?_) (fun g_37 => ?_)
        · have hq := hq.trans (if_pos g_37)
          exact J_63 ls y1 y2 y3 (lv_sub hl [1, 2, 3, 4] rfl) hq (by assumption) (by assumption) hi_y2 (by assumption)
        · have hq := hq.trans (if_neg g_37)
          refine lv_iload_n hx hb d_ThumbCoreModel_waiting_40 rfl (lv_at hl 3 rfl) ?_
          refine lv_if_eq (tgt := 59) hx hb d_ThumbCoreModel_waiting_41 (by decide) (fun g_41 => ?_) (fun g_41 => ?_)
          · have hq := hq.trans (if_pos g_41)
            exact J_59 ls y1 y3 (lv_sub hl [1, 2, 4] rfl) hq (by assumption) (by assumption) (by assumption)
          · have hq := hq.trans (if_neg g_41)
            refine lv_aload_n hx hb d_ThumbCoreModel_waiting_44 rfl (lv_at hl 1 rfl) ?_
            refine va_get (D := D) (ci := 5) (v := .ref h_priorities) (C := R_ThumbCoreModel) (T := F_ThumbCoreModel) (N := 23) hx hb hts u_ThumbCoreModel hown hK hP 0 rfl rfl 22 (by decide) (hts _ wf_ThumbCoreModel_27) (fun _ h9 => h9) rfl d_ThumbCoreModel_waiting_45 ?_
            refine lv_iload_n hx hb d_ThumbCoreModel_waiting_48 rfl (lv_at hl 4 rfl) ?_
            refine va_iald hx hb hK hP 6 0 rfl rfl (tc_dIn hgd hub) d_ThumbCoreModel_waiting_49 ?_
            refine lv_aload_n hx hb d_ThumbCoreModel_waiting_50 rfl (lv_at hl 1 rfl) ?_
            refine va_get (D := D) (ci := 5) (v := .ref h_priorities) (C := R_ThumbCoreModel) (T := F_ThumbCoreModel) (N := 23) hx hb hts u_ThumbCoreModel hown hK hP 0 rfl rfl 22 (by decide) (hts _ wf_ThumbCoreModel_27) (fun _ h9 => h9) rfl d_ThumbCoreModel_waiting_51 ?_
            refine lv_iload_n hx hb d_ThumbCoreModel_waiting_54 rfl (lv_at hl 3 rfl) ?_
            refine va_iald hx hb hK hP 6 0 rfl rfl hi_y2 d_ThumbCoreModel_waiting_55 ?_
            refine lv_icmp_gt (tgt := 63) hx hb d_ThumbCoreModel_waiting_56 (by decide) (fun g_56 => ?_) (fun g_56 => ?_)
            · have hq := hq.trans (if_pos g_56)
              exact J_63 ls y1 y2 y3 (lv_sub hl [1, 2, 3, 4] rfl) hq (by assumption) (by assumption) hi_y2 (by assumption)
            · have hq := hq.trans (if_neg g_56)
              exact J_59 ls y1 y3 (lv_sub hl [1, 2, 4] rfl) hq (by assumption) (by assumption) (by assumption)
      have J_32 : ∀ (ls : Array Slot) (y1 : Int32) (y2 : Int32) (y3 : Int32), lv_has ls 5 [(0, .ref h), (1, .int y1), (2, .int y2), (3, .int y3)] → FF = k_ThumbCoreModel_waiting_32 c_pending c_priorities (k_ThumbCoreModel_waiting_5 c_pending c_priorities n_5) y1 y2 y3 → (tc_ld y3 (n_5 + 1)) → (0 < y3.toInt) → (vp_in y2 16) → (y3.toInt ≤ 15) → W p l e rm_ThumbCoreModel_waiting s m ([.ref h, .int x1] : List Value).toArray below meth c s.heap [] 0 0 Q (F0 m 32 ls []) := by
        intro ls y1 y2 y3 hl hq hinv hgd hi_y2 hub
        refine lv_iconst (v := 0) hx hb d_ThumbCoreModel_waiting_32 (by decide) ?_
        exact J_33 ls y1 y2 y3 false (lv_sub hl [0, 1, 2, 3] rfl) hq (by assumption) (by assumption) hi_y2 (by assumption)
      intro ls y1 y2 y3 hl hq hinv hi_y2 hub
      refine lv_iload_n hx hb d_ThumbCoreModel_waiting_5 rfl (lv_at hl 3 rfl) ?_
      refine lv_if_le (tgt := 71) hx hb d_ThumbCoreModel_waiting_6 (by decide) (fun g_6 => ?_) (fun g_6 => ?_)
      · have hq := hq.trans (if_pos g_6)
        refine lv_iload_n hx hb d_ThumbCoreModel_waiting_71 rfl (lv_at hl 2 rfl) ?_
        exact RET ls 72 d_ThumbCoreModel_waiting_72 hq
      · have hq := hq.trans (if_neg g_6)
        have hgd := tc_gle g_6
        refine lv_aload_n hx hb d_ThumbCoreModel_waiting_9 rfl (lv_at hl 0 rfl) ?_
        refine va_get (D := D) (ci := 5) (v := .ref h_pending) (C := R_ThumbCoreModel) (T := F_ThumbCoreModel) (N := 23) hx hb hts u_ThumbCoreModel hown hK hP 0 rfl rfl 20 (by decide) (hts _ wf_ThumbCoreModel_20) (fun _ h9 => h9) rfl d_ThumbCoreModel_waiting_10 ?_
        refine lv_iload_n hx hb d_ThumbCoreModel_waiting_13 rfl (lv_at hl 3 rfl) ?_
        refine va_zald hx hb hK hP 4 2 rfl rfl (tc_dIn hgd hub) d_ThumbCoreModel_waiting_14 ?_
        refine lv_if_eq (tgt := 32) hx hb d_ThumbCoreModel_waiting_15 (by decide) (fun g_15 => ?_) (fun g_15 => ?_)
        · have hq := hq.trans (if_pos g_15)
          exact J_32 ls y1 y2 y3 (lv_sub hl [0, 1, 2, 3] rfl) hq (by assumption) (by assumption) hi_y2 (by assumption)
        · have hq := hq.trans (if_neg g_15)
          refine lv_aload_n hx hb d_ThumbCoreModel_waiting_18 rfl (lv_at hl 0 rfl) ?_
          refine va_get (D := D) (ci := 5) (v := .ref h_priorities) (C := R_ThumbCoreModel) (T := F_ThumbCoreModel) (N := 23) hx hb hts u_ThumbCoreModel hown hK hP 0 rfl rfl 22 (by decide) (hts _ wf_ThumbCoreModel_27) (fun _ h9 => h9) rfl d_ThumbCoreModel_waiting_19 ?_
          refine lv_iload_n hx hb d_ThumbCoreModel_waiting_22 rfl (lv_at hl 3 rfl) ?_
          refine va_iald hx hb hK hP 6 0 rfl rfl (tc_dIn hgd hub) d_ThumbCoreModel_waiting_23 ?_
          refine lv_iload_n hx hb d_ThumbCoreModel_waiting_24 rfl (lv_at hl 1 rfl) ?_
          refine lv_icmp_ge (tgt := 32) hx hb d_ThumbCoreModel_waiting_25 (by decide) (fun g_25 => ?_) (fun g_25 => ?_)
          · have hq := hq.trans (if_pos g_25)
            exact J_32 ls y1 y2 y3 (lv_sub hl [0, 1, 2, 3] rfl) hq (by assumption) (by assumption) hi_y2 (by assumption)
          · have hq := hq.trans (if_neg g_25)
            refine lv_iconst (v := 1) hx hb d_ThumbCoreModel_waiting_28 (by decide) ?_
            refine lv_goto (tgt := 33) hx hb d_ThumbCoreModel_waiting_29 (by decide) ?_
            exact J_33 ls y1 y2 y3 true (lv_sub hl [0, 1, 2, 3] rfl) hq (by assumption) (by assumption) hi_y2 (by assumption)
  have hq : FF = f_ThumbCoreModel_waiting c_pending c_priorities x1 := hF.symm
  refine lv_iconst (v := 0) hx hb d_ThumbCoreModel_waiting_0 (by decide) ?_
  refine lv_istore_n (lv' := [(2, .int 0), (0, .ref h), (1, .int x1)]) hx hb d_ThumbCoreModel_waiting_1 rfl hl (by decide) rfl (fun ls hl => ?_)
  refine lv_bipush (v := 15) hx hb d_ThumbCoreModel_waiting_2 (by decide) ?_
  refine lv_istore_n (lv' := [(3, .int 15), (2, .int 0), (0, .ref h), (1, .int x1)]) hx hb d_ThumbCoreModel_waiting_4 rfl hl (by decide) rfl (fun ls hl => ?_)
  exact J_5 ((Int32.toInt 15 + 1).toNat.succ) ls x1 0 15 (lv_sub hl [2, 3, 1, 0] rfl) hq (tc_ldE _) (by show ¬ (_ ∨ _); decide) (by decide)
abbrev rm_ThumbCoreModel_enter : Room := { frames := 3, cells := 0, slots := 0, locals := 70 }
set_option maxHeartbeats 4000000 in
set_option maxRecDepth 100000 in
theorem c_ThumbCoreModel_enter (l : Launch) (D : va_G) (cI cB cZ : ClassId) (h h_memory h_reg h_kept h_pending h_active h_priorities sz : Nat) (q_size : Int32) (c_n : Bool) (c_z : Bool) (c_c : Bool) (c_v : Bool) (c_keptFlags : Int32) (c_bad : Bool) (c_h : Int32) (c_after : Int32) (c_entered : Bool) (c_mask : Bool) (c_asleep : Bool) (c_lockup : Bool) (c_counts : Bool) (c_counter : Int32) (c_reload : Int32) (c_current : Int32) (c_memory : Nat → Int32) (c_reg : Nat → Int32) (c_kept : Nat → Int32) (c_pending : Nat → Bool) (c_active : Nat → Bool) (c_priorities : Nat → Int32) (x1 : Int32) (x2 : Int32) (hm : tc_memR q_size) (hi_x1 : vp_in x1 16) : Met l y_ThumbCoreModel_enter (.code y_ThumbCoreModel_enter b_ThumbCoreModel_enter 9 none :: tcb) rm_ThumbCoreModel_enter (tc_Pw D tcl (tys cI cB cZ) (wd_ThumbCoreModel cI cB cZ h h_memory h_reg h_kept h_pending h_active h_priorities q_size c_n c_z c_c c_v c_keptFlags c_bad c_h c_after c_entered c_mask c_asleep c_lockup c_counts c_counter c_reload c_current c_memory c_reg c_kept c_pending c_active c_priorities) sz ([.ref h, .int x1, .int x2] : List Value) none) (tc_Qv D tcl (wd_ThumbCoreModel cI cB cZ h h_memory h_reg h_kept h_pending h_active h_priorities q_size c_n c_z c_c c_v c_keptFlags c_bad c_h c_after c_entered c_mask c_asleep c_lockup c_counts c_counter c_reload c_current c_memory c_reg c_kept c_pending c_active c_priorities) sz (fun u => (wd_ThumbCoreModel cI cB cZ h h_memory h_reg h_kept h_pending h_active h_priorities q_size c_n c_z c_c c_v c_keptFlags u.1 c_h c_after c_entered c_mask c_asleep u.2.1 c_counts c_counter c_reload u.2.2.1 u.2.2.2.1 u.2.2.2.2.1 c_kept u.2.2.2.2.2.1 u.2.2.2.2.2.2 c_priorities)) (f_ThumbCoreModel_enter q_size c_n c_z c_c c_v c_bad c_lockup c_current c_memory c_reg c_pending c_active x1 x2)) 0 0 (va_A (wd_ThumbCoreModel cI cB cZ h h_memory h_reg h_kept h_pending h_active h_priorities q_size c_n c_z c_c c_v c_keptFlags c_bad c_h c_after c_entered c_mask c_asleep c_lockup c_counts c_counter c_reload c_current c_memory c_reg c_kept c_pending c_active c_priorities) sz) := by
  refine tc_mu_v (by decide) (Nat.le_of_ble_eq_true rfl) ?_
  intro p e s m below meth c A Q ls hx hb hml hts hown hK hN hP hD hA hZ hl RET
  have hS : va_S A s.heap s.heap [] := va_S.rf
  have hl : lv_has ls 9 [(0, .ref h), (1, .int x1), (2, .int x2)] := hl
  generalize hF : f_ThumbCoreModel_enter q_size c_n c_z c_c c_v c_bad c_lockup c_current c_memory c_reg c_pending c_active x1 x2 = FF at RET
  have J_245 : ∀ (H : Heap) (locs : List Loc) (ls : Array Slot) (c_bad : Bool) (c_lockup : Bool) (c_current : Int32) (c_memory : Nat → Int32) (c_reg : Nat → Int32) (c_pending : Nat → Bool) (c_active : Nat → Bool) (y1 : Int32) (y4 : Int32) (y6 : Int32) (z2 : Int32), va_P D tcl (wd_ThumbCoreModel cI cB cZ h h_memory h_reg h_kept h_pending h_active h_priorities q_size c_n c_z c_c c_v c_keptFlags c_bad c_h c_after c_entered c_mask c_asleep c_lockup c_counts c_counter c_reload c_current c_memory c_reg c_kept c_pending c_active c_priorities) H → va_D A (wd_ThumbCoreModel cI cB cZ h h_memory h_reg h_kept h_pending h_active h_priorities q_size c_n c_z c_c c_v c_keptFlags c_bad c_h c_after c_entered c_mask c_asleep c_lockup c_counts c_counter c_reload c_current c_memory c_reg c_kept c_pending c_active c_priorities) → va_S A s.heap H locs → lv_has ls 9 [(0, .ref h), (1, .int y1), (4, .int y4), (6, .int y6)] → FF = k_ThumbCoreModel_enter_245 q_size c_n c_z c_c c_v c_bad c_lockup c_current c_memory c_reg c_pending c_active y1 y4 y6 z2 → (vp_in y1 16) → W p l e rm_ThumbCoreModel_enter s m ([.ref h, .int x1, .int x2] : List Value).toArray below meth c H locs 0 0 Q (F0 m 245 ls [.int z2, .int 14, .ref h_reg]) := by
    intro H locs ls c_bad c_lockup c_current c_memory c_reg c_pending c_active y1 y4 y6 z2 hP hD hS hl hq hi_y1
    refine va_iast hx hb hK hP hD hS 2 0 rfl rfl (by show ¬ (_ ∨ _); decide) d_ThumbCoreModel_enter_245 (fun H locs hP hD hS => ?_)
    have hP : va_P D tcl (wd_ThumbCoreModel cI cB cZ h h_memory h_reg h_kept h_pending h_active h_priorities q_size c_n c_z c_c c_v c_keptFlags c_bad c_h c_after c_entered c_mask c_asleep c_lockup c_counts c_counter c_reload c_current c_memory (upd c_reg (14 : Int32).toNatClampNeg z2) c_kept c_pending c_active c_priorities) H := hP
    have hD : va_D A (wd_ThumbCoreModel cI cB cZ h h_memory h_reg h_kept h_pending h_active h_priorities q_size c_n c_z c_c c_v c_keptFlags c_bad c_h c_after c_entered c_mask c_asleep c_lockup c_counts c_counter c_reload c_current c_memory (upd c_reg (14 : Int32).toNatClampNeg z2) c_kept c_pending c_active c_priorities) := hD
    refine lv_aload_n hx hb d_ThumbCoreModel_enter_246 rfl (lv_at hl 0 rfl) ?_
    refine va_get (D := D) (ci := 5) (v := .ref h_reg) (C := R_ThumbCoreModel) (T := F_ThumbCoreModel) (N := 23) hx hb hts u_ThumbCoreModel hown hK hP 0 rfl rfl 2 (by decide) (hts _ wf_ThumbCoreModel_13) (fun _ h9 => h9) rfl d_ThumbCoreModel_enter_247 ?_
    refine lv_bipush (v := 13) hx hb d_ThumbCoreModel_enter_250 (by decide) ?_
    refine lv_iload hx hb d_ThumbCoreModel_enter_252 (lv_at hl 2 rfl) ?_
    refine va_iast hx hb hK hP hD hS 2 0 rfl rfl (by show ¬ (_ ∨ _); decide) d_ThumbCoreModel_enter_254 (fun H locs hP hD hS => ?_)
    have hP : va_P D tcl (wd_ThumbCoreModel cI cB cZ h h_memory h_reg h_kept h_pending h_active h_priorities q_size c_n c_z c_c c_v c_keptFlags c_bad c_h c_after c_entered c_mask c_asleep c_lockup c_counts c_counter c_reload c_current c_memory (upd (upd c_reg (14 : Int32).toNatClampNeg z2) (13 : Int32).toNatClampNeg y4) c_kept c_pending c_active c_priorities) H := hP
    have hD : va_D A (wd_ThumbCoreModel cI cB cZ h h_memory h_reg h_kept h_pending h_active h_priorities q_size c_n c_z c_c c_v c_keptFlags c_bad c_h c_after c_entered c_mask c_asleep c_lockup c_counts c_counter c_reload c_current c_memory (upd (upd c_reg (14 : Int32).toNatClampNeg z2) (13 : Int32).toNatClampNeg y4) c_kept c_pending c_active c_priorities) := hD
    refine lv_aload_n hx hb d_ThumbCoreModel_enter_255 rfl (lv_at hl 0 rfl) ?_
    refine va_get (D := D) (ci := 5) (v := .ref h_reg) (C := R_ThumbCoreModel) (T := F_ThumbCoreModel) (N := 23) hx hb hts u_ThumbCoreModel hown hK hP 0 rfl rfl 2 (by decide) (hts _ wf_ThumbCoreModel_13) (fun _ h9 => h9) rfl d_ThumbCoreModel_enter_256 ?_
    refine lv_bipush (v := 15) hx hb d_ThumbCoreModel_enter_259 (by decide) ?_
    refine lv_iload hx hb d_ThumbCoreModel_enter_261 (lv_at hl 3 rfl) ?_
    refine lv_bipush (v := (-2)) hx hb d_ThumbCoreModel_enter_263 (by decide) ?_
    refine lv_iand hx hb d_ThumbCoreModel_enter_265 ?_
    refine va_iast hx hb hK hP hD hS 2 0 rfl rfl (by show ¬ (_ ∨ _); decide) d_ThumbCoreModel_enter_266 (fun H locs hP hD hS => ?_)
    have hP : va_P D tcl (wd_ThumbCoreModel cI cB cZ h h_memory h_reg h_kept h_pending h_active h_priorities q_size c_n c_z c_c c_v c_keptFlags c_bad c_h c_after c_entered c_mask c_asleep c_lockup c_counts c_counter c_reload c_current c_memory (upd (upd (upd c_reg (14 : Int32).toNatClampNeg z2) (13 : Int32).toNatClampNeg y4) (15 : Int32).toNatClampNeg (y6 &&& (-2))) c_kept c_pending c_active c_priorities) H := hP
    have hD : va_D A (wd_ThumbCoreModel cI cB cZ h h_memory h_reg h_kept h_pending h_active h_priorities q_size c_n c_z c_c c_v c_keptFlags c_bad c_h c_after c_entered c_mask c_asleep c_lockup c_counts c_counter c_reload c_current c_memory (upd (upd (upd c_reg (14 : Int32).toNatClampNeg z2) (13 : Int32).toNatClampNeg y4) (15 : Int32).toNatClampNeg (y6 &&& (-2))) c_kept c_pending c_active c_priorities) := hD
    refine lv_aload_n hx hb d_ThumbCoreModel_enter_267 rfl (lv_at hl 0 rfl) ?_
    refine va_get (D := D) (ci := 5) (v := .ref h_pending) (C := R_ThumbCoreModel) (T := F_ThumbCoreModel) (N := 23) hx hb hts u_ThumbCoreModel hown hK hP 0 rfl rfl 20 (by decide) (hts _ wf_ThumbCoreModel_20) (fun _ h9 => h9) rfl d_ThumbCoreModel_enter_268 ?_
    refine lv_iload_n hx hb d_ThumbCoreModel_enter_271 rfl (lv_at hl 1 rfl) ?_
    refine lv_iconst (v := 0) hx hb d_ThumbCoreModel_enter_272 (by decide) ?_
    refine va_zast (x := bI false) hx hb hK hP hD hS 4 2 rfl rfl hi_y1 d_ThumbCoreModel_enter_273 (fun H locs hP hD hS => ?_)
    rw [tc_upz] at hP hD
    have hP : va_P D tcl (wd_ThumbCoreModel cI cB cZ h h_memory h_reg h_kept h_pending h_active h_priorities q_size c_n c_z c_c c_v c_keptFlags c_bad c_h c_after c_entered c_mask c_asleep c_lockup c_counts c_counter c_reload c_current c_memory (upd (upd (upd c_reg (14 : Int32).toNatClampNeg z2) (13 : Int32).toNatClampNeg y4) (15 : Int32).toNatClampNeg (y6 &&& (-2))) c_kept (va_up c_pending y1.toNatClampNeg false) c_active c_priorities) H := hP
    have hD : va_D A (wd_ThumbCoreModel cI cB cZ h h_memory h_reg h_kept h_pending h_active h_priorities q_size c_n c_z c_c c_v c_keptFlags c_bad c_h c_after c_entered c_mask c_asleep c_lockup c_counts c_counter c_reload c_current c_memory (upd (upd (upd c_reg (14 : Int32).toNatClampNeg z2) (13 : Int32).toNatClampNeg y4) (15 : Int32).toNatClampNeg (y6 &&& (-2))) c_kept (va_up c_pending y1.toNatClampNeg false) c_active c_priorities) := hD
    refine lv_aload_n hx hb d_ThumbCoreModel_enter_274 rfl (lv_at hl 0 rfl) ?_
    refine va_get (D := D) (ci := 5) (v := .ref h_active) (C := R_ThumbCoreModel) (T := F_ThumbCoreModel) (N := 23) hx hb hts u_ThumbCoreModel hown hK hP 0 rfl rfl 21 (by decide) (hts _ wf_ThumbCoreModel_24) (fun _ h9 => h9) rfl d_ThumbCoreModel_enter_275 ?_
    refine lv_iload_n hx hb d_ThumbCoreModel_enter_278 rfl (lv_at hl 1 rfl) ?_
    refine lv_iconst (v := 1) hx hb d_ThumbCoreModel_enter_279 (by decide) ?_
    refine va_zast (x := bI true) hx hb hK hP hD hS 5 2 rfl rfl hi_y1 d_ThumbCoreModel_enter_280 (fun H locs hP hD hS => ?_)
    rw [tc_upz] at hP hD
    have hP : va_P D tcl (wd_ThumbCoreModel cI cB cZ h h_memory h_reg h_kept h_pending h_active h_priorities q_size c_n c_z c_c c_v c_keptFlags c_bad c_h c_after c_entered c_mask c_asleep c_lockup c_counts c_counter c_reload c_current c_memory (upd (upd (upd c_reg (14 : Int32).toNatClampNeg z2) (13 : Int32).toNatClampNeg y4) (15 : Int32).toNatClampNeg (y6 &&& (-2))) c_kept (va_up c_pending y1.toNatClampNeg false) (va_up c_active y1.toNatClampNeg true) c_priorities) H := hP
    have hD : va_D A (wd_ThumbCoreModel cI cB cZ h h_memory h_reg h_kept h_pending h_active h_priorities q_size c_n c_z c_c c_v c_keptFlags c_bad c_h c_after c_entered c_mask c_asleep c_lockup c_counts c_counter c_reload c_current c_memory (upd (upd (upd c_reg (14 : Int32).toNatClampNeg z2) (13 : Int32).toNatClampNeg y4) (15 : Int32).toNatClampNeg (y6 &&& (-2))) c_kept (va_up c_pending y1.toNatClampNeg false) (va_up c_active y1.toNatClampNeg true) c_priorities) := hD
    refine lv_aload_n hx hb d_ThumbCoreModel_enter_281 rfl (lv_at hl 0 rfl) ?_
    refine lv_iload_n hx hb d_ThumbCoreModel_enter_282 rfl (lv_at hl 1 rfl) ?_
    refine va_put (D := D) (ci := 5) (v := .int y1) (ty := .int) (C := R_ThumbCoreModel) (T := F_ThumbCoreModel) (N := 23) hx hb hts u_ThumbCoreModel t_ThumbCoreModel t_ThumbCoreModel_ok n_ThumbCoreModel hown hK hP hD hS 0 rfl rfl 19 (by decide) (hts _ wf_ThumbCoreModel_71) (fun _ h9 => h9) rfl (by decide +kernel) rfl rfl (Nat.le_of_ble_eq_true rfl) d_ThumbCoreModel_enter_283 (fun H locs hP hD hS => ?_)
    have hP : va_P D tcl (wd_ThumbCoreModel cI cB cZ h h_memory h_reg h_kept h_pending h_active h_priorities q_size c_n c_z c_c c_v c_keptFlags c_bad c_h c_after c_entered c_mask c_asleep c_lockup c_counts c_counter c_reload y1 c_memory (upd (upd (upd c_reg (14 : Int32).toNatClampNeg z2) (13 : Int32).toNatClampNeg y4) (15 : Int32).toNatClampNeg (y6 &&& (-2))) c_kept (va_up c_pending y1.toNatClampNeg false) (va_up c_active y1.toNatClampNeg true) c_priorities) H := hP
    have hD : va_D A (wd_ThumbCoreModel cI cB cZ h h_memory h_reg h_kept h_pending h_active h_priorities q_size c_n c_z c_c c_v c_keptFlags c_bad c_h c_after c_entered c_mask c_asleep c_lockup c_counts c_counter c_reload y1 c_memory (upd (upd (upd c_reg (14 : Int32).toNatClampNeg z2) (13 : Int32).toNatClampNeg y4) (15 : Int32).toNatClampNeg (y6 &&& (-2))) c_kept (va_up c_pending y1.toNatClampNeg false) (va_up c_active y1.toNatClampNeg true) c_priorities) := hD
    exact RET H locs ls 286 (c_bad, c_lockup, y1, c_memory, (upd (upd (upd c_reg (14 : Int32).toNatClampNeg z2) (13 : Int32).toNatClampNeg y4) (15 : Int32).toNatClampNeg (y6 &&& (-2))), (va_up c_pending y1.toNatClampNeg false), (va_up c_active y1.toNatClampNeg true)) d_ThumbCoreModel_enter_286 hP hD hS hq
  have J_121 : ∀ n : Nat, ∀ (H : Heap) (locs : List Loc) (ls : Array Slot) (c_bad : Bool) (c_lockup : Bool) (c_current : Int32) (c_memory : Nat → Int32) (c_reg : Nat → Int32) (c_pending : Nat → Bool) (c_active : Nat → Bool) (y1 : Int32) (y2 : Int32) (y3 : Int32) (y4 : Int32) (y6 : Int32) (y7 : Int32), va_P D tcl (wd_ThumbCoreModel cI cB cZ h h_memory h_reg h_kept h_pending h_active h_priorities q_size c_n c_z c_c c_v c_keptFlags c_bad c_h c_after c_entered c_mask c_asleep c_lockup c_counts c_counter c_reload c_current c_memory c_reg c_kept c_pending c_active c_priorities) H → va_D A (wd_ThumbCoreModel cI cB cZ h h_memory h_reg h_kept h_pending h_active h_priorities q_size c_n c_z c_c c_v c_keptFlags c_bad c_h c_after c_entered c_mask c_asleep c_lockup c_counts c_counter c_reload c_current c_memory c_reg c_kept c_pending c_active c_priorities) → va_S A s.heap H locs → lv_has ls 9 [(0, .ref h), (1, .int y1), (2, .int y2), (3, .int y3), (4, .int y4), (6, .int y6), (7, .int y7)] → FF = k_ThumbCoreModel_enter_121 q_size c_n c_z c_c c_v n c_bad c_lockup c_current c_memory c_reg c_pending c_active y1 y2 y3 y4 y6 y7 → (tc_lp y7 8 n) → (vp_in y1 16) → W p l e rm_ThumbCoreModel_enter s m ([.ref h, .int x1, .int x2] : List Value).toArray below meth c H locs 0 0 Q (F0 m 121 ls []) := by
    intro n
    induction n with
    | zero =>
      intro H locs ls c_bad c_lockup c_current c_memory c_reg c_pending c_active y1 y2 y3 y4 y6 y7 hP hD hS hl hq hinv hi_y1
      exact (tc_lp0 hinv).elim
    | succ n_121 IH_121 =>
      have J_203 : ∀ (H : Heap) (locs : List Loc) (ls : Array Slot) (c_bad : Bool) (c_lockup : Bool) (c_current : Int32) (c_memory : Nat → Int32) (c_reg : Nat → Int32) (c_pending : Nat → Bool) (c_active : Nat → Bool) (y1 : Int32) (y2 : Int32) (y3 : Int32) (y4 : Int32) (y6 : Int32) (y7 : Int32) (z0 : Int32), va_P D tcl (wd_ThumbCoreModel cI cB cZ h h_memory h_reg h_kept h_pending h_active h_priorities q_size c_n c_z c_c c_v c_keptFlags c_bad c_h c_after c_entered c_mask c_asleep c_lockup c_counts c_counter c_reload c_current c_memory c_reg c_kept c_pending c_active c_priorities) H → va_D A (wd_ThumbCoreModel cI cB cZ h h_memory h_reg h_kept h_pending h_active h_priorities q_size c_n c_z c_c c_v c_keptFlags c_bad c_h c_after c_entered c_mask c_asleep c_lockup c_counts c_counter c_reload c_current c_memory c_reg c_kept c_pending c_active c_priorities) → va_S A s.heap H locs → lv_has ls 9 [(0, .ref h), (1, .int y1), (2, .int y2), (3, .int y3), (4, .int y4), (6, .int y6), (7, .int y7)] → FF = k_ThumbCoreModel_enter_203 q_size c_n c_z c_c c_v (k_ThumbCoreModel_enter_121 q_size c_n c_z c_c c_v n_121) c_bad c_lockup c_current c_memory c_reg c_pending c_active y1 y2 y3 y4 y6 y7 z0 → (tc_lp y7 8 (n_121 + 1)) → (y7.toInt < (8 : Nat)) → (vp_in y1 16) → W p l e rm_ThumbCoreModel_enter s m ([.ref h, .int x1, .int x2] : List Value).toArray below meth c H locs 0 0 Q (F0 m 203 ls [.int z0]) := by
        intro H locs ls c_bad c_lockup c_current c_memory c_reg c_pending c_active y1 y2 y3 y4 y6 y7 z0 hP hD hS hl hq hinv hgd hi_y1
        refine lv_istore (lv' := [(8, .int z0), (0, .ref h), (1, .int y1), (2, .int y2), (3, .int y3), (4, .int y4), (6, .int y6), (7, .int y7)]) hx hb d_ThumbCoreModel_enter_203 hl (by decide) rfl (fun ls hl => ?_)
        refine lv_aload_n hx hb d_ThumbCoreModel_enter_205 rfl (lv_at hl 1 rfl) ?_
        refine lv_iload hx hb d_ThumbCoreModel_enter_206 (lv_at hl 5 rfl) ?_
        refine lv_iconst (v := 4) hx hb d_ThumbCoreModel_enter_208 (by decide) ?_
        refine lv_iload hx hb d_ThumbCoreModel_enter_209 (lv_at hl 7 rfl) ?_
        refine lv_imul hx hb d_ThumbCoreModel_enter_211 ?_
        refine lv_iadd hx hb d_ThumbCoreModel_enter_212 ?_
        refine lv_iload hx hb d_ThumbCoreModel_enter_213 (lv_at hl 0 rfl) ?_
        refine lv_iconst (v := 4) hx hb d_ThumbCoreModel_enter_215 (by decide) ?_
        refine tc_mv (wo := fun u => (wd_ThumbCoreModel cI cB cZ h h_memory h_reg h_kept h_pending h_active h_priorities q_size c_n c_z c_c c_v c_keptFlags u.1 c_h c_after c_entered c_mask c_asleep c_lockup c_counts c_counter c_reload c_current u.2 c_reg c_kept c_pending c_active c_priorities)) (va_runV (As := [.int (y4 + (4 * y7)), .int z0, .int 4]) (rest := []) ⟨hx, hb, hml, hown, hts⟩ (c_ThumbCoreModel_write l D cI cB cZ h h_memory h_reg h_kept h_pending h_active h_priorities H.size q_size c_n c_z c_c c_v c_keptFlags c_bad c_h c_after c_entered c_mask c_asleep c_lockup c_counts c_counter c_reload c_current c_memory c_reg c_kept c_pending c_active c_priorities (y4 + (4 * y7)) z0 4 hm (by decide)) (cwV 3 hts (tc_gV wl_ThumbCoreModel_100 wm_ThumbCoreModel_write ws_ThumbCoreModel_write wi_ThumbCoreModel wc_ThumbCoreModel_write) rfl rfl rfl (by decide +kernel) ⟨Nat.le_of_ble_eq_true rfl, Nat.le_of_ble_eq_true rfl⟩) (tc_preV hK hN hP hD [0, 1, 2, 3, 4, 5, 6] rfl (by decide) (q0 := 0) rfl rfl) rfl rfl hl.1 rfl (lv_room (Nat.le_of_ble_eq_true rfl)) d_ThumbCoreModel_enter_216 (by decide)) hP hD hS hA [0, 1, 2, 3, 4, 5, 6] [] [0, 1, 2, 3, 4, 5, 6] rfl rfl (by decide) (by decide) (by decide) (fun _ => rfl) (fun u H locs hu hP hD hS => ?_)
        obtain ⟨s1, s2⟩ := u
        have hq := hq.trans (un2_eq hu _)
        have e_s1 := hu
        have hP : va_P D tcl (wd_ThumbCoreModel cI cB cZ h h_memory h_reg h_kept h_pending h_active h_priorities q_size c_n c_z c_c c_v c_keptFlags s1 c_h c_after c_entered c_mask c_asleep c_lockup c_counts c_counter c_reload c_current s2 c_reg c_kept c_pending c_active c_priorities) H := hP
        have hD : va_D A (wd_ThumbCoreModel cI cB cZ h h_memory h_reg h_kept h_pending h_active h_priorities q_size c_n c_z c_c c_v c_keptFlags s1 c_h c_after c_entered c_mask c_asleep c_lockup c_counts c_counter c_reload c_current s2 c_reg c_kept c_pending c_active c_priorities) := hD
        refine lv_iinc (k := 7) (v := (y7 + 1)) (lv' := [(7, .int (y7 + 1)), (8, .int z0), (0, .ref h), (1, .int y1), (2, .int y2), (3, .int y3), (4, .int y4), (6, .int y6)]) hx hb d_ThumbCoreModel_enter_219 hl rfl rfl (by decide) rfl (fun ls hl => ?_)
        refine lv_goto (tgt := 121) hx hb d_ThumbCoreModel_enter_222 (by decide) ?_
        exact IH_121 H locs ls s1 c_lockup c_current s2 c_reg c_pending c_active y1 y2 y3 y4 y6 (y7 + 1) hP hD hS (lv_sub hl [2, 3, 4, 5, 6, 7, 0] rfl) hq (tc_lpS hinv hgd (by decide)) hi_y1
      have J_202 : ∀ (H : Heap) (locs : List Loc) (ls : Array Slot) (c_bad : Bool) (c_lockup : Bool) (c_current : Int32) (c_memory : Nat → Int32) (c_reg : Nat → Int32) (c_pending : Nat → Bool) (c_active : Nat → Bool) (y1 : Int32) (y2 : Int32) (y3 : Int32) (y4 : Int32) (y6 : Int32) (y7 : Int32) (z0 : Int32) (z1 : Int32), va_P D tcl (wd_ThumbCoreModel cI cB cZ h h_memory h_reg h_kept h_pending h_active h_priorities q_size c_n c_z c_c c_v c_keptFlags c_bad c_h c_after c_entered c_mask c_asleep c_lockup c_counts c_counter c_reload c_current c_memory c_reg c_kept c_pending c_active c_priorities) H → va_D A (wd_ThumbCoreModel cI cB cZ h h_memory h_reg h_kept h_pending h_active h_priorities q_size c_n c_z c_c c_v c_keptFlags c_bad c_h c_after c_entered c_mask c_asleep c_lockup c_counts c_counter c_reload c_current c_memory c_reg c_kept c_pending c_active c_priorities) → va_S A s.heap H locs → lv_has ls 9 [(0, .ref h), (1, .int y1), (2, .int y2), (3, .int y3), (4, .int y4), (6, .int y6), (7, .int y7)] → FF = k_ThumbCoreModel_enter_202 q_size c_n c_z c_c c_v (k_ThumbCoreModel_enter_121 q_size c_n c_z c_c c_v n_121) c_bad c_lockup c_current c_memory c_reg c_pending c_active y1 y2 y3 y4 y6 y7 z0 z1 → (tc_lp y7 8 (n_121 + 1)) → (y7.toInt < (8 : Nat)) → (vp_in y1 16) → W p l e rm_ThumbCoreModel_enter s m ([.ref h, .int x1, .int x2] : List Value).toArray below meth c H locs 0 0 Q (F0 m 202 ls [.int z1, .int z0]) := by
        intro H locs ls c_bad c_lockup c_current c_memory c_reg c_pending c_active y1 y2 y3 y4 y6 y7 z0 z1 hP hD hS hl hq hinv hgd hi_y1
        refine lv_ior hx hb d_ThumbCoreModel_enter_202 ?_
        exact J_203 H locs ls c_bad c_lockup c_current c_memory c_reg c_pending c_active y1 y2 y3 y4 y6 y7 (z0 ||| z1) hP hD hS (lv_sub hl [0, 1, 2, 3, 4, 5, 6] rfl) hq (by assumption) (by assumption) hi_y1
      intro H locs ls c_bad c_lockup c_current c_memory c_reg c_pending c_active y1 y2 y3 y4 y6 y7 hP hD hS hl hq hinv hi_y1
      refine lv_iload hx hb d_ThumbCoreModel_enter_121 (lv_at hl 6 rfl) ?_
      refine lv_bipush (v := 8) hx hb d_ThumbCoreModel_enter_123 (by decide) ?_
      refine lv_icmp_ge (tgt := 225) hx hb d_ThumbCoreModel_enter_125 (by decide) (fun g_125 => ?_) (fun g_125 => ?_)
      · have hq := hq.trans (if_pos g_125)
        refine lv_aload_n hx hb d_ThumbCoreModel_enter_225 rfl (lv_at hl 0 rfl) ?_
        refine va_get (D := D) (ci := 5) (v := .ref h_reg) (C := R_ThumbCoreModel) (T := F_ThumbCoreModel) (N := 23) hx hb hts u_ThumbCoreModel hown hK hP 0 rfl rfl 2 (by decide) (hts _ wf_ThumbCoreModel_13) (fun _ h9 => h9) rfl d_ThumbCoreModel_enter_226 ?_
        refine lv_bipush (v := 14) hx hb d_ThumbCoreModel_enter_229 (by decide) ?_
        refine lv_aload_n hx hb d_ThumbCoreModel_enter_231 rfl (lv_at hl 0 rfl) ?_
        refine tc_rd (va_runV (As := []) (rest := [.int 14, .ref h_reg]) ⟨hx, hb, hml, hown, hts⟩ (c_ThumbCoreModel_actives l D cI cB cZ h h_memory h_reg h_kept h_pending h_active h_priorities H.size q_size c_n c_z c_c c_v c_keptFlags c_bad c_h c_after c_entered c_mask c_asleep c_lockup c_counts c_counter c_reload c_current c_memory c_reg c_kept c_pending c_active c_priorities) (cwV 0 hts (tc_gV wl_ThumbCoreModel_104 wm_ThumbCoreModel_actives ws_ThumbCoreModel_actives wi_ThumbCoreModel wc_ThumbCoreModel_actives) rfl rfl rfl (by decide +kernel) ⟨Nat.le_of_ble_eq_true rfl, Nat.le_of_ble_eq_true rfl⟩) (tc_preV hK hN hP hD [0, 1, 2, 3, 4, 5, 6] rfl (by decide) (q0 := 0) rfl rfl) rfl rfl hl.1 rfl (lv_room (Nat.le_of_ble_eq_true rfl)) d_ThumbCoreModel_enter_232 (by decide)) ?_
        refine lv_topi (fun v1 e_v1 => ?_)
        have hq := tc_nm hq e_v1
        refine lv_if_ne (tgt := 243) hx hb d_ThumbCoreModel_enter_235 (by decide) (fun g_235 => ?_) (fun g_235 => ?_)
        · have hq := hq.trans (if_pos g_235)
          refine lv_bipush (v := (-15)) hx hb d_ThumbCoreModel_enter_243 (by decide) ?_
          exact J_245 H locs ls c_bad c_lockup c_current c_memory c_reg c_pending c_active y1 y4 y6 (-15) hP hD hS (lv_sub hl [0, 1, 4, 5] rfl) hq hi_y1
        · have hq := hq.trans (if_neg (fun g => g g_235))
          refine lv_bipush (v := (-7)) hx hb d_ThumbCoreModel_enter_238 (by decide) ?_
          refine lv_goto (tgt := 245) hx hb d_ThumbCoreModel_enter_240 (by decide) ?_
          exact J_245 H locs ls c_bad c_lockup c_current c_memory c_reg c_pending c_active y1 y4 y6 (-7) hP hD hS (lv_sub hl [0, 1, 4, 5] rfl) hq hi_y1
      · have hq := hq.trans (if_neg g_125)
        have hgd : y7.toInt < ((8 : Nat) : Int) := tc_gge g_125 (by decide)
        refine lv_iload hx hb d_ThumbCoreModel_enter_128 (lv_at hl 6 rfl) ?_
        refine lv_iconst (v := 4) hx hb d_ThumbCoreModel_enter_130 (by decide) ?_
        refine lv_icmp_ge (tgt := 144) hx hb d_ThumbCoreModel_enter_131 (by decide) (fun g_131 => ?_) (fun g_131 => ?_)
        · have hq := hq.trans (if_pos g_131)
          refine lv_iload hx hb d_ThumbCoreModel_enter_144 (lv_at hl 6 rfl) ?_
          refine lv_iconst (v := 4) hx hb d_ThumbCoreModel_enter_146 (by decide) ?_
          refine lv_icmp_ne (tgt := 160) hx hb d_ThumbCoreModel_enter_147 (by decide) (fun g_147 => ?_) (fun g_147 => ?_)
          · have hq := hq.trans (if_pos g_147)
            refine lv_iload hx hb d_ThumbCoreModel_enter_160 (lv_at hl 6 rfl) ?_
            refine lv_iconst (v := 5) hx hb d_ThumbCoreModel_enter_162 (by decide) ?_
            refine lv_icmp_ne (tgt := 176) hx hb d_ThumbCoreModel_enter_163 (by decide) (fun g_163 => ?_) (fun g_163 => ?_)
            · have hq := hq.trans (if_pos g_163)
              refine lv_iload hx hb d_ThumbCoreModel_enter_176 (lv_at hl 6 rfl) ?_
              refine lv_bipush (v := 6) hx hb d_ThumbCoreModel_enter_178 (by decide) ?_
              refine lv_icmp_ne (tgt := 187) hx hb d_ThumbCoreModel_enter_180 (by decide) (fun g_180 => ?_) (fun g_180 => ?_)
              · have hq := hq.trans (if_pos g_180)
                refine lv_aload_n hx hb d_ThumbCoreModel_enter_187 rfl (lv_at hl 0 rfl) ?_
                refine tc_rd (va_runV (As := []) (rest := []) ⟨hx, hb, hml, hown, hts⟩ (c_ThumbCoreModel_status l D cI cB cZ h h_memory h_reg h_kept h_pending h_active h_priorities H.size q_size c_n c_z c_c c_v c_keptFlags c_bad c_h c_after c_entered c_mask c_asleep c_lockup c_counts c_counter c_reload c_current c_memory c_reg c_kept c_pending c_active c_priorities) (cwV 0 hts (tc_gV wl_ThumbCoreModel_97 wm_ThumbCoreModel_status ws_ThumbCoreModel_status wi_ThumbCoreModel wc_ThumbCoreModel_status) rfl rfl rfl (by decide +kernel) ⟨Nat.le_of_ble_eq_true rfl, Nat.le_of_ble_eq_true rfl⟩) (tc_preV hK hN hP hD [0, 1, 2, 3, 4, 5, 6] rfl (by decide) (q0 := 0) rfl rfl) rfl rfl hl.1 rfl (lv_room (Nat.le_of_ble_eq_true rfl)) d_ThumbCoreModel_enter_188 (by decide)) ?_
                refine lv_topi (fun v2 e_v2 => ?_)
                have hq := tc_nm hq e_v2
                refine lv_iload_n hx hb d_ThumbCoreModel_enter_191 rfl (lv_at hl 3 rfl) ?_
                refine lv_if_le (tgt := 201) hx hb d_ThumbCoreModel_enter_192 (by decide) (fun g_192 => ?_) (fun g_192 => ?_)
                · have hq := hq.trans (if_pos g_192)
                  refine lv_iconst (v := 0) hx hb d_ThumbCoreModel_enter_201 (by decide) ?_
                  exact J_202 H locs ls c_bad c_lockup c_current c_memory c_reg c_pending c_active y1 y2 y3 y4 y6 y7 v2 0 hP hD hS (lv_sub hl [0, 1, 2, 3, 4, 5, 6] rfl) hq (by assumption) (by assumption) hi_y1
                · have hq := hq.trans (if_neg g_192)
                  refine lv_sipush (v := 512) hx hb d_ThumbCoreModel_enter_195 (by decide) ?_
                  refine lv_goto (tgt := 202) hx hb d_ThumbCoreModel_enter_198 (by decide) ?_
                  exact J_202 H locs ls c_bad c_lockup c_current c_memory c_reg c_pending c_active y1 y2 y3 y4 y6 y7 v2 512 hP hD hS (lv_sub hl [0, 1, 2, 3, 4, 5, 6] rfl) hq (by assumption) (by assumption) hi_y1
              · have hq := hq.trans (if_neg (fun g => g g_180))
                refine lv_iload_n hx hb d_ThumbCoreModel_enter_183 rfl (lv_at hl 2 rfl) ?_
                refine lv_goto (tgt := 203) hx hb d_ThumbCoreModel_enter_184 (by decide) ?_
                exact J_203 H locs ls c_bad c_lockup c_current c_memory c_reg c_pending c_active y1 y2 y3 y4 y6 y7 y2 hP hD hS (lv_sub hl [0, 1, 2, 3, 4, 5, 6] rfl) hq (by assumption) (by assumption) hi_y1
            · have hq := hq.trans (if_neg (fun g => g g_163))
              refine lv_aload_n hx hb d_ThumbCoreModel_enter_166 rfl (lv_at hl 0 rfl) ?_
              refine va_get (D := D) (ci := 5) (v := .ref h_reg) (C := R_ThumbCoreModel) (T := F_ThumbCoreModel) (N := 23) hx hb hts u_ThumbCoreModel hown hK hP 0 rfl rfl 2 (by decide) (hts _ wf_ThumbCoreModel_13) (fun _ h9 => h9) rfl d_ThumbCoreModel_enter_167 ?_
              refine lv_bipush (v := 14) hx hb d_ThumbCoreModel_enter_170 (by decide) ?_
              refine va_iald hx hb hK hP 2 0 rfl rfl (by show ¬ (_ ∨ _); decide) d_ThumbCoreModel_enter_172 ?_
              refine lv_goto (tgt := 203) hx hb d_ThumbCoreModel_enter_173 (by decide) ?_
              exact J_203 H locs ls c_bad c_lockup c_current c_memory c_reg c_pending c_active y1 y2 y3 y4 y6 y7 (c_reg (14 : Int32).toNatClampNeg) hP hD hS (lv_sub hl [0, 1, 2, 3, 4, 5, 6] rfl) hq (by assumption) (by assumption) hi_y1
          · have hq := hq.trans (if_neg (fun g => g g_147))
            refine lv_aload_n hx hb d_ThumbCoreModel_enter_150 rfl (lv_at hl 0 rfl) ?_
            refine va_get (D := D) (ci := 5) (v := .ref h_reg) (C := R_ThumbCoreModel) (T := F_ThumbCoreModel) (N := 23) hx hb hts u_ThumbCoreModel hown hK hP 0 rfl rfl 2 (by decide) (hts _ wf_ThumbCoreModel_13) (fun _ h9 => h9) rfl d_ThumbCoreModel_enter_151 ?_
            refine lv_bipush (v := 12) hx hb d_ThumbCoreModel_enter_154 (by decide) ?_
            refine va_iald hx hb hK hP 2 0 rfl rfl (by show ¬ (_ ∨ _); decide) d_ThumbCoreModel_enter_156 ?_
            refine lv_goto (tgt := 203) hx hb d_ThumbCoreModel_enter_157 (by decide) ?_
            exact J_203 H locs ls c_bad c_lockup c_current c_memory c_reg c_pending c_active y1 y2 y3 y4 y6 y7 (c_reg (12 : Int32).toNatClampNeg) hP hD hS (lv_sub hl [0, 1, 2, 3, 4, 5, 6] rfl) hq (by assumption) (by assumption) hi_y1
        · have hq := hq.trans (if_neg g_131)
          refine lv_aload_n hx hb d_ThumbCoreModel_enter_134 rfl (lv_at hl 0 rfl) ?_
          refine va_get (D := D) (ci := 5) (v := .ref h_reg) (C := R_ThumbCoreModel) (T := F_ThumbCoreModel) (N := 23) hx hb hts u_ThumbCoreModel hown hK hP 0 rfl rfl 2 (by decide) (hts _ wf_ThumbCoreModel_13) (fun _ h9 => h9) rfl d_ThumbCoreModel_enter_135 ?_
          refine lv_iload hx hb d_ThumbCoreModel_enter_138 (lv_at hl 6 rfl) ?_
          refine va_iald hx hb hK hP 2 0 rfl rfl (tc_lpI hinv hgd (by decide)) d_ThumbCoreModel_enter_140 ?_
          refine lv_goto (tgt := 203) hx hb d_ThumbCoreModel_enter_141 (by decide) ?_
          exact J_203 H locs ls c_bad c_lockup c_current c_memory c_reg c_pending c_active y1 y2 y3 y4 y6 y7 (c_reg y7.toNatClampNeg) hP hD hS (lv_sub hl [0, 1, 2, 3, 4, 5, 6] rfl) hq (by assumption) (by assumption) hi_y1
  have J_103 : ∀ (H : Heap) (locs : List Loc) (ls : Array Slot) (c_bad : Bool) (c_lockup : Bool) (c_current : Int32) (c_memory : Nat → Int32) (c_reg : Nat → Int32) (c_pending : Nat → Bool) (c_active : Nat → Bool) (y1 : Int32) (y2 : Int32) (y3 : Int32) (y4 : Int32) (z0 : Int32), va_P D tcl (wd_ThumbCoreModel cI cB cZ h h_memory h_reg h_kept h_pending h_active h_priorities q_size c_n c_z c_c c_v c_keptFlags c_bad c_h c_after c_entered c_mask c_asleep c_lockup c_counts c_counter c_reload c_current c_memory c_reg c_kept c_pending c_active c_priorities) H → va_D A (wd_ThumbCoreModel cI cB cZ h h_memory h_reg h_kept h_pending h_active h_priorities q_size c_n c_z c_c c_v c_keptFlags c_bad c_h c_after c_entered c_mask c_asleep c_lockup c_counts c_counter c_reload c_current c_memory c_reg c_kept c_pending c_active c_priorities) → va_S A s.heap H locs → lv_has ls 9 [(0, .ref h), (1, .int y1), (2, .int y2), (3, .int y3), (4, .int y4)] → FF = k_ThumbCoreModel_enter_103 q_size c_n c_z c_c c_v c_bad c_lockup c_current c_memory c_reg c_pending c_active y1 y2 y3 y4 z0 → (vp_in y1 16) → W p l e rm_ThumbCoreModel_enter s m ([.ref h, .int x1, .int x2] : List Value).toArray below meth c H locs 0 0 Q (F0 m 103 ls [.int z0]) := by
    intro H locs ls c_bad c_lockup c_current c_memory c_reg c_pending c_active y1 y2 y3 y4 z0 hP hD hS hl hq hi_y1
    refine lv_istore (lv' := [(6, .int z0), (0, .ref h), (1, .int y1), (2, .int y2), (3, .int y3), (4, .int y4)]) hx hb d_ThumbCoreModel_enter_103 hl (by decide) rfl (fun ls hl => ?_)
    refine lv_iload hx hb d_ThumbCoreModel_enter_105 (lv_at hl 0 rfl) ?_
    refine lv_iconst (v := 1) hx hb d_ThumbCoreModel_enter_107 (by decide) ?_
    refine lv_iand hx hb d_ThumbCoreModel_enter_108 ?_
    refine lv_if_ne (tgt := 118) hx hb d_ThumbCoreModel_enter_109 (by decide) (fun g_109 => ?_) (fun g_109 => ?_)
    · have hq := hq.trans (if_pos g_109)
      refine lv_iconst (v := 0) hx hb d_ThumbCoreModel_enter_118 (by decide) ?_
      refine lv_istore (lv' := [(7, .int 0), (6, .int z0), (0, .ref h), (1, .int y1), (2, .int y2), (3, .int y3), (4, .int y4)]) hx hb d_ThumbCoreModel_enter_119 hl (by decide) rfl (fun ls hl => ?_)
      exact J_121 (9) H locs ls c_bad c_lockup c_current c_memory c_reg c_pending c_active y1 y2 y3 y4 z0 0 hP hD hS (lv_sub hl [2, 3, 4, 5, 6, 1, 0] rfl) hq (tc_lpE _) hi_y1
    · have hq := hq.trans (if_neg (fun g => g g_109))
      refine lv_aload_n hx hb d_ThumbCoreModel_enter_112 rfl (lv_at hl 1 rfl) ?_
      refine lv_iconst (v := 1) hx hb d_ThumbCoreModel_enter_113 (by decide) ?_
      refine va_put (D := D) (ci := 5) (v := .int (bI true)) (ty := .boolean) (C := R_ThumbCoreModel) (T := F_ThumbCoreModel) (N := 23) hx hb hts u_ThumbCoreModel t_ThumbCoreModel t_ThumbCoreModel_ok n_ThumbCoreModel hown hK hP hD hS 0 rfl rfl 15 (by decide) (hts _ wf_ThumbCoreModel_59) (fun _ h9 => h9) rfl (by decide +kernel) (tc_nb true) (tc_fb true) (Nat.le_of_ble_eq_true rfl) d_ThumbCoreModel_enter_114 (fun H locs hP hD hS => ?_)
      have hP : va_P D tcl (wd_ThumbCoreModel cI cB cZ h h_memory h_reg h_kept h_pending h_active h_priorities q_size c_n c_z c_c c_v c_keptFlags c_bad c_h c_after c_entered c_mask c_asleep true c_counts c_counter c_reload c_current c_memory c_reg c_kept c_pending c_active c_priorities) H := hP
      have hD : va_D A (wd_ThumbCoreModel cI cB cZ h h_memory h_reg h_kept h_pending h_active h_priorities q_size c_n c_z c_c c_v c_keptFlags c_bad c_h c_after c_entered c_mask c_asleep true c_counts c_counter c_reload c_current c_memory c_reg c_kept c_pending c_active c_priorities) := hD
      exact RET H locs ls 117 (c_bad, true, c_current, c_memory, c_reg, c_pending, c_active) d_ThumbCoreModel_enter_117 hP hD hS hq
  have J_46 : ∀ n : Nat, ∀ (H : Heap) (locs : List Loc) (ls : Array Slot) (c_bad : Bool) (c_lockup : Bool) (c_current : Int32) (c_memory : Nat → Int32) (c_reg : Nat → Int32) (c_pending : Nat → Bool) (c_active : Nat → Bool) (y1 : Int32) (y2 : Int32) (y3 : Int32) (y4 : Int32) (y5 : Bool) (y6 : Int32), va_P D tcl (wd_ThumbCoreModel cI cB cZ h h_memory h_reg h_kept h_pending h_active h_priorities q_size c_n c_z c_c c_v c_keptFlags c_bad c_h c_after c_entered c_mask c_asleep c_lockup c_counts c_counter c_reload c_current c_memory c_reg c_kept c_pending c_active c_priorities) H → va_D A (wd_ThumbCoreModel cI cB cZ h h_memory h_reg h_kept h_pending h_active h_priorities q_size c_n c_z c_c c_v c_keptFlags c_bad c_h c_after c_entered c_mask c_asleep c_lockup c_counts c_counter c_reload c_current c_memory c_reg c_kept c_pending c_active c_priorities) → va_S A s.heap H locs → lv_has ls 9 [(0, .ref h), (1, .int y1), (2, .int y2), (3, .int y3), (4, .int y4), (5, .int (bI y5)), (6, .int y6)] → FF = k_ThumbCoreModel_enter_46 q_size c_n c_z c_c c_v n c_bad c_lockup c_current c_memory c_reg c_pending c_active y1 y2 y3 y4 y5 y6 → (tc_lp y6 8 n) → (vp_in y1 16) → W p l e rm_ThumbCoreModel_enter s m ([.ref h, .int x1, .int x2] : List Value).toArray below meth c H locs 0 0 Q (F0 m 46 ls []) := by
    intro n
    induction n with
    | zero =>
      intro H locs ls c_bad c_lockup c_current c_memory c_reg c_pending c_active y1 y2 y3 y4 y5 y6 hP hD hS hl hq hinv hi_y1
      exact (tc_lp0 hinv).elim
    | succ n_46 IH_46 =>
      have J_78 : ∀ (H : Heap) (locs : List Loc) (ls : Array Slot) (c_bad : Bool) (c_lockup : Bool) (c_current : Int32) (c_memory : Nat → Int32) (c_reg : Nat → Int32) (c_pending : Nat → Bool) (c_active : Nat → Bool) (y1 : Int32) (y2 : Int32) (y3 : Int32) (y4 : Int32) (y6 : Int32) (z0 : Bool), va_P D tcl (wd_ThumbCoreModel cI cB cZ h h_memory h_reg h_kept h_pending h_active h_priorities q_size c_n c_z c_c c_v c_keptFlags c_bad c_h c_after c_entered c_mask c_asleep c_lockup c_counts c_counter c_reload c_current c_memory c_reg c_kept c_pending c_active c_priorities) H → va_D A (wd_ThumbCoreModel cI cB cZ h h_memory h_reg h_kept h_pending h_active h_priorities q_size c_n c_z c_c c_v c_keptFlags c_bad c_h c_after c_entered c_mask c_asleep c_lockup c_counts c_counter c_reload c_current c_memory c_reg c_kept c_pending c_active c_priorities) → va_S A s.heap H locs → lv_has ls 9 [(0, .ref h), (1, .int y1), (2, .int y2), (3, .int y3), (4, .int y4), (6, .int y6)] → FF = k_ThumbCoreModel_enter_78 q_size c_n c_z c_c c_v (k_ThumbCoreModel_enter_46 q_size c_n c_z c_c c_v n_46) c_bad c_lockup c_current c_memory c_reg c_pending c_active y1 y2 y3 y4 y6 z0 → (tc_lp y6 8 (n_46 + 1)) → (y6.toInt < (8 : Nat)) → (vp_in y1 16) → W p l e rm_ThumbCoreModel_enter s m ([.ref h, .int x1, .int x2] : List Value).toArray below meth c H locs 0 0 Q (F0 m 78 ls [.int (bI z0)]) := by
        intro H locs ls c_bad c_lockup c_current c_memory c_reg c_pending c_active y1 y2 y3 y4 y6 z0 hP hD hS hl hq hinv hgd hi_y1
        refine lv_istore (lv' := [(5, .int (bI z0)), (0, .ref h), (1, .int y1), (2, .int y2), (3, .int y3), (4, .int y4), (6, .int y6)]) hx hb d_ThumbCoreModel_enter_78 hl (by decide) rfl (fun ls hl => ?_)
        refine lv_iinc (k := 6) (v := (y6 + 1)) (lv' := [(6, .int (y6 + 1)), (5, .int (bI z0)), (0, .ref h), (1, .int y1), (2, .int y2), (3, .int y3), (4, .int y4)]) hx hb d_ThumbCoreModel_enter_80 hl rfl rfl (by decide) rfl (fun ls hl => ?_)
        refine lv_goto (tgt := 46) hx hb d_ThumbCoreModel_enter_83 (by decide) ?_
        exact IH_46 H locs ls c_bad c_lockup c_current c_memory c_reg c_pending c_active y1 y2 y3 y4 z0 (y6 + 1) hP hD hS (lv_sub hl [2, 3, 4, 5, 6, 1, 0] rfl) hq (tc_lpS hinv hgd (by decide)) hi_y1
      have J_77 : ∀ (H : Heap) (locs : List Loc) (ls : Array Slot) (c_bad : Bool) (c_lockup : Bool) (c_current : Int32) (c_memory : Nat → Int32) (c_reg : Nat → Int32) (c_pending : Nat → Bool) (c_active : Nat → Bool) (y1 : Int32) (y2 : Int32) (y3 : Int32) (y4 : Int32) (y6 : Int32), va_P D tcl (wd_ThumbCoreModel cI cB cZ h h_memory h_reg h_kept h_pending h_active h_priorities q_size c_n c_z c_c c_v c_keptFlags c_bad c_h c_after c_entered c_mask c_asleep c_lockup c_counts c_counter c_reload c_current c_memory c_reg c_kept c_pending c_active c_priorities) H → va_D A (wd_ThumbCoreModel cI cB cZ h h_memory h_reg h_kept h_pending h_active h_priorities q_size c_n c_z c_c c_v c_keptFlags c_bad c_h c_after c_entered c_mask c_asleep c_lockup c_counts c_counter c_reload c_current c_memory c_reg c_kept c_pending c_active c_priorities) → va_S A s.heap H locs → lv_has ls 9 [(0, .ref h), (1, .int y1), (2, .int y2), (3, .int y3), (4, .int y4), (6, .int y6)] → FF = k_ThumbCoreModel_enter_77 q_size c_n c_z c_c c_v (k_ThumbCoreModel_enter_46 q_size c_n c_z c_c c_v n_46) c_bad c_lockup c_current c_memory c_reg c_pending c_active y1 y2 y3 y4 y6 → (tc_lp y6 8 (n_46 + 1)) → (y6.toInt < (8 : Nat)) → (vp_in y1 16) → W p l e rm_ThumbCoreModel_enter s m ([.ref h, .int x1, .int x2] : List Value).toArray below meth c H locs 0 0 Q (F0 m 77 ls []) := by
        intro H locs ls c_bad c_lockup c_current c_memory c_reg c_pending c_active y1 y2 y3 y4 y6 hP hD hS hl hq hinv hgd hi_y1
        refine lv_iconst (v := 0) hx hb d_ThumbCoreModel_enter_77 (by decide) ?_
        exact J_78 H locs ls c_bad c_lockup c_current c_memory c_reg c_pending c_active y1 y2 y3 y4 y6 false hP hD hS (lv_sub hl [0, 1, 2, 3, 4, 5] rfl) hq (by assumption) (by assumption) hi_y1
      intro H locs ls c_bad c_lockup c_current c_memory c_reg c_pending c_active y1 y2 y3 y4 y5 y6 hP hD hS hl hq hinv hi_y1
      refine lv_iload hx hb d_ThumbCoreModel_enter_46 (lv_at hl 6 rfl) ?_
      refine lv_bipush (v := 8) hx hb d_ThumbCoreModel_enter_48 (by decide) ?_
      refine lv_icmp_ge (tgt := 86) hx hb d_ThumbCoreModel_enter_50 (by decide) (fun g_50 => ?_) (fun g_50 => ?_)
      · have hq := hq.trans (if_pos g_50)
        refine lv_iload hx hb d_ThumbCoreModel_enter_86 (lv_at hl 5 rfl) ?_
        refine lv_if_eq (tgt := 102) hx hb d_ThumbCoreModel_enter_88 (by decide) (fun g_88 => ?_) (fun g_88 => ?_)
        · have hq := hq.trans (if_pos g_88)
          refine lv_iconst (v := 0) hx hb d_ThumbCoreModel_enter_102 (by decide) ?_
          exact J_103 H locs ls c_bad c_lockup c_current c_memory c_reg c_pending c_active y1 y2 y3 y4 0 hP hD hS (lv_sub hl [0, 1, 2, 3, 4] rfl) hq hi_y1
        · have hq := hq.trans (if_neg g_88)
          refine lv_aload_n hx hb d_ThumbCoreModel_enter_91 rfl (lv_at hl 0 rfl) ?_
          refine lv_iconst (v := 4) hx hb d_ThumbCoreModel_enter_92 (by decide) ?_
          refine lv_iload_n hx hb d_ThumbCoreModel_enter_93 rfl (lv_at hl 1 rfl) ?_
          refine lv_imul hx hb d_ThumbCoreModel_enter_94 ?_
          refine lv_iconst (v := 4) hx hb d_ThumbCoreModel_enter_95 (by decide) ?_
          refine tc_mi (wo := fun u => (wd_ThumbCoreModel cI cB cZ h h_memory h_reg h_kept h_pending h_active h_priorities q_size c_n c_z c_c c_v c_keptFlags u.2 c_h c_after c_entered c_mask c_asleep c_lockup c_counts c_counter c_reload c_current c_memory c_reg c_kept c_pending c_active c_priorities)) (va_runV (As := [.int (4 * y1), .int 4]) (rest := []) ⟨hx, hb, hml, hown, hts⟩ (c_ThumbCoreModel_read l D cI cB cZ h h_memory h_reg h_kept h_pending h_active h_priorities H.size q_size c_n c_z c_c c_v c_keptFlags c_bad c_h c_after c_entered c_mask c_asleep c_lockup c_counts c_counter c_reload c_current c_memory c_reg c_kept c_pending c_active c_priorities (4 * y1) 4 hm (by decide)) (cwV 2 hts (tc_gV wl_ThumbCoreModel_45 wm_ThumbCoreModel_read ws_ThumbCoreModel_read wi_ThumbCoreModel wc_ThumbCoreModel_read) rfl rfl rfl (by decide +kernel) ⟨Nat.le_of_ble_eq_true rfl, Nat.le_of_ble_eq_true rfl⟩) (tc_preV hK hN hP hD [0, 1, 2, 3, 4, 5, 6] rfl (by decide) (q0 := 0) rfl rfl) rfl rfl hl.1 rfl (lv_room (Nat.le_of_ble_eq_true rfl)) d_ThumbCoreModel_enter_96 (by decide)) hP hD hS hA [0, 1, 2, 3, 4, 5, 6] [] [0, 1, 2, 3, 4, 5, 6] rfl rfl (by decide) (by decide) (by decide) (fun _ => rfl) (fun u H locs hu hP hD hS => ?_)
          obtain ⟨r1, s2⟩ := u
          have hq := hq.trans (un2_eq hu _)
          have e_r1 := hu
          have hP : va_P D tcl (wd_ThumbCoreModel cI cB cZ h h_memory h_reg h_kept h_pending h_active h_priorities q_size c_n c_z c_c c_v c_keptFlags s2 c_h c_after c_entered c_mask c_asleep c_lockup c_counts c_counter c_reload c_current c_memory c_reg c_kept c_pending c_active c_priorities) H := hP
          have hD : va_D A (wd_ThumbCoreModel cI cB cZ h h_memory h_reg h_kept h_pending h_active h_priorities q_size c_n c_z c_c c_v c_keptFlags s2 c_h c_after c_entered c_mask c_asleep c_lockup c_counts c_counter c_reload c_current c_memory c_reg c_kept c_pending c_active c_priorities) := hD
          refine W.eq (g2 := F0 m 99 ls [.int r1]) rfl ?_
          refine lv_goto (tgt := 103) hx hb d_ThumbCoreModel_enter_99 (by decide) ?_
          exact J_103 H locs ls s2 c_lockup c_current c_memory c_reg c_pending c_active y1 y2 y3 y4 r1 hP hD hS (lv_sub hl [0, 1, 2, 3, 4] rfl) hq hi_y1
      · have hq := hq.trans (if_neg g_50)
        have hgd : y6.toInt < ((8 : Nat) : Int) := tc_gge g_50 (by decide)
        refine lv_iload hx hb d_ThumbCoreModel_enter_53 (lv_at hl 5 rfl) ?_
        refine lv_if_eq (tgt := 77) hx hb d_ThumbCoreModel_enter_55 (by decide) (fun g_55 => ?_) (fun g_55 => ?_)
        · have hq := hq.trans (if_pos g_55)
          exact J_77 H locs ls c_bad c_lockup c_current c_memory c_reg c_pending c_active y1 y2 y3 y4 y6 hP hD hS (lv_sub hl [0, 1, 2, 3, 4, 6] rfl) hq (by assumption) (by assumption) hi_y1
        · have hq := hq.trans (if_neg g_55)
          refine lv_aload_n hx hb d_ThumbCoreModel_enter_58 rfl (lv_at hl 0 rfl) ?_
          refine lv_iload hx hb d_ThumbCoreModel_enter_59 (lv_at hl 4 rfl) ?_
          refine lv_iconst (v := 4) hx hb d_ThumbCoreModel_enter_61 (by decide) ?_
          refine lv_iload hx hb d_ThumbCoreModel_enter_62 (lv_at hl 6 rfl) ?_
          refine lv_imul hx hb d_ThumbCoreModel_enter_64 ?_
          refine lv_iadd hx hb d_ThumbCoreModel_enter_65 ?_
          refine lv_iconst (v := 4) hx hb d_ThumbCoreModel_enter_66 (by decide) ?_
          refine tc_rd (va_runV (As := [.int (y4 + (4 * y6)), .int 4]) (rest := []) ⟨hx, hb, hml, hown, hts⟩ (c_ThumbCoreModel_there l D cI cB cZ h h_memory h_reg h_kept h_pending h_active h_priorities H.size q_size c_n c_z c_c c_v c_keptFlags c_bad c_h c_after c_entered c_mask c_asleep c_lockup c_counts c_counter c_reload c_current c_memory c_reg c_kept c_pending c_active c_priorities (y4 + (4 * y6)) 4 (by decide)) (cwV 2 hts (tc_gV wl_ThumbCoreModel_37 wm_ThumbCoreModel_there ws_ThumbCoreModel_there wi_ThumbCoreModel wc_ThumbCoreModel_there) rfl rfl rfl (by decide +kernel) ⟨Nat.le_of_ble_eq_true rfl, Nat.le_of_ble_eq_true rfl⟩) (tc_preV hK hN hP hD [0, 1, 2, 3, 4, 5, 6] rfl (by decide) (q0 := 0) rfl rfl) rfl rfl hl.1 rfl (lv_room (Nat.le_of_ble_eq_true rfl)) d_ThumbCoreModel_enter_67 (by decide)) ?_
          refine tc_topb (fun v3 e_v3 => ?_)
          have hq := tc_nm hq e_v3
          refine lv_if_eq (tgt := 77) hx hb d_ThumbCoreModel_enter_70 (by decide) (fun g_70 => ?_) (fun g_70 => ?_)
          · have hq := hq.trans (if_pos g_70)
            exact J_77 H locs ls c_bad c_lockup c_current c_memory c_reg c_pending c_active y1 y2 y3 y4 y6 hP hD hS (lv_sub hl [0, 1, 2, 3, 4, 6] rfl) hq (by assumption) (by assumption) hi_y1
          · have hq := hq.trans (if_neg g_70)
            refine lv_iconst (v := 1) hx hb d_ThumbCoreModel_enter_73 (by decide) ?_
            refine lv_goto (tgt := 78) hx hb d_ThumbCoreModel_enter_74 (by decide) ?_
            exact J_78 H locs ls c_bad c_lockup c_current c_memory c_reg c_pending c_active y1 y2 y3 y4 y6 true hP hD hS (lv_sub hl [0, 1, 2, 3, 4, 6] rfl) hq (by assumption) (by assumption) hi_y1
  have J_18 : ∀ (H : Heap) (locs : List Loc) (ls : Array Slot) (c_bad : Bool) (c_lockup : Bool) (c_current : Int32) (c_memory : Nat → Int32) (c_reg : Nat → Int32) (c_pending : Nat → Bool) (c_active : Nat → Bool) (y1 : Int32) (y2 : Int32) (z0 : Int32), va_P D tcl (wd_ThumbCoreModel cI cB cZ h h_memory h_reg h_kept h_pending h_active h_priorities q_size c_n c_z c_c c_v c_keptFlags c_bad c_h c_after c_entered c_mask c_asleep c_lockup c_counts c_counter c_reload c_current c_memory c_reg c_kept c_pending c_active c_priorities) H → va_D A (wd_ThumbCoreModel cI cB cZ h h_memory h_reg h_kept h_pending h_active h_priorities q_size c_n c_z c_c c_v c_keptFlags c_bad c_h c_after c_entered c_mask c_asleep c_lockup c_counts c_counter c_reload c_current c_memory c_reg c_kept c_pending c_active c_priorities) → va_S A s.heap H locs → lv_has ls 9 [(0, .ref h), (1, .int y1), (2, .int y2)] → FF = k_ThumbCoreModel_enter_18 q_size c_n c_z c_c c_v c_bad c_lockup c_current c_memory c_reg c_pending c_active y1 y2 z0 → (vp_in y1 16) → W p l e rm_ThumbCoreModel_enter s m ([.ref h, .int x1, .int x2] : List Value).toArray below meth c H locs 0 0 Q (F0 m 18 ls [.int z0]) := by
    intro H locs ls c_bad c_lockup c_current c_memory c_reg c_pending c_active y1 y2 z0 hP hD hS hl hq hi_y1
    refine lv_istore_n (lv' := [(3, .int z0), (0, .ref h), (1, .int y1), (2, .int y2)]) hx hb d_ThumbCoreModel_enter_18 rfl hl (by decide) rfl (fun ls hl => ?_)
    refine lv_aload_n hx hb d_ThumbCoreModel_enter_19 rfl (lv_at hl 1 rfl) ?_
    refine va_get (D := D) (ci := 5) (v := .ref h_reg) (C := R_ThumbCoreModel) (T := F_ThumbCoreModel) (N := 23) hx hb hts u_ThumbCoreModel hown hK hP 0 rfl rfl 2 (by decide) (hts _ wf_ThumbCoreModel_13) (fun _ h9 => h9) rfl d_ThumbCoreModel_enter_20 ?_
    refine lv_bipush (v := 13) hx hb d_ThumbCoreModel_enter_23 (by decide) ?_
    refine va_iald hx hb hK hP 2 0 rfl rfl (by show ¬ (_ ∨ _); decide) d_ThumbCoreModel_enter_25 ?_
    refine lv_bipush (v := 32) hx hb d_ThumbCoreModel_enter_26 (by decide) ?_
    refine lv_isub hx hb d_ThumbCoreModel_enter_28 ?_
    refine lv_iload_n hx hb d_ThumbCoreModel_enter_29 rfl (lv_at hl 0 rfl) ?_
    refine lv_isub hx hb d_ThumbCoreModel_enter_30 ?_
    refine lv_topi (fun v1 e_v1 => ?_)
    have hq := tc_nm hq e_v1
    refine lv_istore (lv' := [(4, .int v1), (3, .int z0), (0, .ref h), (1, .int y1), (2, .int y2)]) hx hb d_ThumbCoreModel_enter_31 hl (by decide) rfl (fun ls hl => ?_)
    refine lv_aload_n hx hb d_ThumbCoreModel_enter_33 rfl (lv_at hl 2 rfl) ?_
    refine lv_iconst (v := 4) hx hb d_ThumbCoreModel_enter_34 (by decide) ?_
    refine lv_iload_n hx hb d_ThumbCoreModel_enter_35 rfl (lv_at hl 3 rfl) ?_
    refine lv_imul hx hb d_ThumbCoreModel_enter_36 ?_
    refine lv_iconst (v := 4) hx hb d_ThumbCoreModel_enter_37 (by decide) ?_
    refine tc_rd (va_runV (As := [.int (4 * y1), .int 4]) (rest := []) ⟨hx, hb, hml, hown, hts⟩ (c_ThumbCoreModel_there l D cI cB cZ h h_memory h_reg h_kept h_pending h_active h_priorities H.size q_size c_n c_z c_c c_v c_keptFlags c_bad c_h c_after c_entered c_mask c_asleep c_lockup c_counts c_counter c_reload c_current c_memory c_reg c_kept c_pending c_active c_priorities (4 * y1) 4 (by decide)) (cwV 2 hts (tc_gV wl_ThumbCoreModel_37 wm_ThumbCoreModel_there ws_ThumbCoreModel_there wi_ThumbCoreModel wc_ThumbCoreModel_there) rfl rfl rfl (by decide +kernel) ⟨Nat.le_of_ble_eq_true rfl, Nat.le_of_ble_eq_true rfl⟩) (tc_preV hK hN hP hD [0, 1, 2, 3, 4, 5, 6] rfl (by decide) (q0 := 0) rfl rfl) rfl rfl hl.1 rfl (lv_room (Nat.le_of_ble_eq_true rfl)) d_ThumbCoreModel_enter_38 (by decide)) ?_
    refine tc_topb (fun v2 e_v2 => ?_)
    have hq := tc_nm hq e_v2
    refine lv_istore (lv' := [(5, .int (bI v2)), (4, .int v1), (3, .int z0), (0, .ref h), (1, .int y1), (2, .int y2)]) hx hb d_ThumbCoreModel_enter_41 hl (by decide) rfl (fun ls hl => ?_)
    refine lv_iconst (v := 0) hx hb d_ThumbCoreModel_enter_43 (by decide) ?_
    refine lv_istore (lv' := [(6, .int 0), (5, .int (bI v2)), (4, .int v1), (3, .int z0), (0, .ref h), (1, .int y1), (2, .int y2)]) hx hb d_ThumbCoreModel_enter_44 hl (by decide) rfl (fun ls hl => ?_)
    exact J_46 (9) H locs ls c_bad c_lockup c_current c_memory c_reg c_pending c_active y1 y2 z0 v1 v2 0 hP hD hS (lv_sub hl [4, 5, 6, 3, 2, 1, 0] rfl) hq (tc_lpE _) hi_y1
  have hq : FF = f_ThumbCoreModel_enter q_size c_n c_z c_c c_v c_bad c_lockup c_current c_memory c_reg c_pending c_active x1 x2 := hF.symm
  revert hP hD hS
  suffices G : ∀ (H : Heap) (locs : List Loc), va_P D tcl (wd_ThumbCoreModel cI cB cZ h h_memory h_reg h_kept h_pending h_active h_priorities q_size c_n c_z c_c c_v c_keptFlags c_bad c_h c_after c_entered c_mask c_asleep c_lockup c_counts c_counter c_reload c_current c_memory c_reg c_kept c_pending c_active c_priorities) H → va_D A (wd_ThumbCoreModel cI cB cZ h h_memory h_reg h_kept h_pending h_active h_priorities q_size c_n c_z c_c c_v c_keptFlags c_bad c_h c_after c_entered c_mask c_asleep c_lockup c_counts c_counter c_reload c_current c_memory c_reg c_kept c_pending c_active c_priorities) → va_S A s.heap H locs → W p l e rm_ThumbCoreModel_enter s m ([.ref h, .int x1, .int x2] : List Value).toArray below meth c H locs 0 0 Q (F0 m 0 ls []) from fun hP hD hS => G _ _ hP hD hS
  intro H locs hP hD hS
  refine lv_aload_n hx hb d_ThumbCoreModel_enter_0 rfl (lv_at hl 0 rfl) ?_
  refine va_get (D := D) (ci := 5) (v := .ref h_reg) (C := R_ThumbCoreModel) (T := F_ThumbCoreModel) (N := 23) hx hb hts u_ThumbCoreModel hown hK hP 0 rfl rfl 2 (by decide) (hts _ wf_ThumbCoreModel_13) (fun _ h9 => h9) rfl d_ThumbCoreModel_enter_1 ?_
  refine lv_bipush (v := 13) hx hb d_ThumbCoreModel_enter_4 (by decide) ?_
  refine va_iald hx hb hK hP 2 0 rfl rfl (by show ¬ (_ ∨ _); decide) d_ThumbCoreModel_enter_6 ?_
  refine lv_bipush (v := 7) hx hb d_ThumbCoreModel_enter_7 (by decide) ?_
  refine lv_iand hx hb d_ThumbCoreModel_enter_9 ?_
  refine lv_if_eq (tgt := 17) hx hb d_ThumbCoreModel_enter_10 (by decide) (fun g_10 => ?_) (fun g_10 => ?_)
  · have hq := hq.trans (if_pos g_10)
    refine lv_iconst (v := 0) hx hb d_ThumbCoreModel_enter_17 (by decide) ?_
    exact J_18 H locs ls c_bad c_lockup c_current c_memory c_reg c_pending c_active x1 x2 0 hP hD hS (lv_sub hl [0, 1, 2] rfl) hq hi_x1
  · have hq := hq.trans (if_neg g_10)
    refine lv_iconst (v := 4) hx hb d_ThumbCoreModel_enter_13 (by decide) ?_
    refine lv_goto (tgt := 18) hx hb d_ThumbCoreModel_enter_14 (by decide) ?_
    exact J_18 H locs ls c_bad c_lockup c_current c_memory c_reg c_pending c_active x1 x2 4 hP hD hS (lv_sub hl [0, 1, 2] rfl) hq hi_x1
abbrev rm_ThumbCoreModel_fault : Room := { frames := 4, cells := 0, slots := 0, locals := 98 }
set_option maxHeartbeats 4000000 in
set_option maxRecDepth 100000 in
theorem c_ThumbCoreModel_fault (l : Launch) (D : va_G) (cI cB cZ : ClassId) (h h_memory h_reg h_kept h_pending h_active h_priorities sz : Nat) (q_size : Int32) (c_n : Bool) (c_z : Bool) (c_c : Bool) (c_v : Bool) (c_keptFlags : Int32) (c_bad : Bool) (c_h : Int32) (c_after : Int32) (c_entered : Bool) (c_mask : Bool) (c_asleep : Bool) (c_lockup : Bool) (c_counts : Bool) (c_counter : Int32) (c_reload : Int32) (c_current : Int32) (c_memory : Nat → Int32) (c_reg : Nat → Int32) (c_kept : Nat → Int32) (c_pending : Nat → Bool) (c_active : Nat → Bool) (c_priorities : Nat → Int32) (hm : tc_memR q_size) : Met l y_ThumbCoreModel_fault (.code y_ThumbCoreModel_fault b_ThumbCoreModel_fault 1 none :: tcb) rm_ThumbCoreModel_fault (tc_Pw D tcl (tys cI cB cZ) (wd_ThumbCoreModel cI cB cZ h h_memory h_reg h_kept h_pending h_active h_priorities q_size c_n c_z c_c c_v c_keptFlags c_bad c_h c_after c_entered c_mask c_asleep c_lockup c_counts c_counter c_reload c_current c_memory c_reg c_kept c_pending c_active c_priorities) sz ([.ref h] : List Value) none) (tc_Qv D tcl (wd_ThumbCoreModel cI cB cZ h h_memory h_reg h_kept h_pending h_active h_priorities q_size c_n c_z c_c c_v c_keptFlags c_bad c_h c_after c_entered c_mask c_asleep c_lockup c_counts c_counter c_reload c_current c_memory c_reg c_kept c_pending c_active c_priorities) sz (fun u => (wd_ThumbCoreModel cI cB cZ h h_memory h_reg h_kept h_pending h_active h_priorities q_size c_n c_z c_c c_v c_keptFlags u.1 c_h c_after c_entered c_mask c_asleep u.2.1 c_counts c_counter c_reload u.2.2.1 u.2.2.2.1 u.2.2.2.2.1 c_kept u.2.2.2.2.2.1 u.2.2.2.2.2.2 c_priorities)) (f_ThumbCoreModel_fault q_size c_n c_z c_c c_v c_mask c_priorities c_bad c_lockup c_current c_memory c_reg c_pending c_active)) 0 0 (va_A (wd_ThumbCoreModel cI cB cZ h h_memory h_reg h_kept h_pending h_active h_priorities q_size c_n c_z c_c c_v c_keptFlags c_bad c_h c_after c_entered c_mask c_asleep c_lockup c_counts c_counter c_reload c_current c_memory c_reg c_kept c_pending c_active c_priorities) sz) := by
  refine tc_mu_v (by decide) (Nat.le_of_ble_eq_true rfl) ?_
  intro p e s m below meth c A Q ls hx hb hml hts hown hK hN hP hD hA hZ hl RET
  have hS : va_S A s.heap s.heap [] := va_S.rf
  have hl : lv_has ls 1 [(0, .ref h)] := hl
  generalize hF : f_ThumbCoreModel_fault q_size c_n c_z c_c c_v c_mask c_priorities c_bad c_lockup c_current c_memory c_reg c_pending c_active = FF at RET
  have hq : FF = f_ThumbCoreModel_fault q_size c_n c_z c_c c_v c_mask c_priorities c_bad c_lockup c_current c_memory c_reg c_pending c_active := hF.symm
  revert hP hD hS
  suffices G : ∀ (H : Heap) (locs : List Loc), va_P D tcl (wd_ThumbCoreModel cI cB cZ h h_memory h_reg h_kept h_pending h_active h_priorities q_size c_n c_z c_c c_v c_keptFlags c_bad c_h c_after c_entered c_mask c_asleep c_lockup c_counts c_counter c_reload c_current c_memory c_reg c_kept c_pending c_active c_priorities) H → va_D A (wd_ThumbCoreModel cI cB cZ h h_memory h_reg h_kept h_pending h_active h_priorities q_size c_n c_z c_c c_v c_keptFlags c_bad c_h c_after c_entered c_mask c_asleep c_lockup c_counts c_counter c_reload c_current c_memory c_reg c_kept c_pending c_active c_priorities) → va_S A s.heap H locs → W p l e rm_ThumbCoreModel_fault s m ([.ref h] : List Value).toArray below meth c H locs 0 0 Q (F0 m 0 ls []) from fun hP hD hS => G _ _ hP hD hS
  intro H locs hP hD hS
  refine lv_aload_n hx hb d_ThumbCoreModel_fault_0 rfl (lv_at hl 0 rfl) ?_
  refine lv_iconst (v := 1) hx hb d_ThumbCoreModel_fault_1 (by decide) ?_
  refine tc_rd (va_runV (As := [.int (bI true)]) (rest := []) ⟨hx, hb, hml, hown, hts⟩ (c_ThumbCoreModel_present l D cI cB cZ h h_memory h_reg h_kept h_pending h_active h_priorities H.size q_size c_n c_z c_c c_v c_keptFlags c_bad c_h c_after c_entered c_mask c_asleep c_lockup c_counts c_counter c_reload c_current c_memory c_reg c_kept c_pending c_active c_priorities true) (cwV 1 hts (tc_gV wl_ThumbCoreModel_107 wm_ThumbCoreModel_present ws_ThumbCoreModel_present wi_ThumbCoreModel wc_ThumbCoreModel_present) rfl rfl rfl (by decide +kernel) ⟨Nat.le_of_ble_eq_true rfl, Nat.le_of_ble_eq_true rfl⟩) (tc_preV hK hN hP hD [0, 1, 2, 3, 4, 5, 6] rfl (by decide) (q0 := 0) rfl rfl) rfl rfl hl.1 rfl (lv_room (Nat.le_of_ble_eq_true rfl)) d_ThumbCoreModel_fault_2 (by decide)) ?_
  refine lv_topi (fun v1 e_v1 => ?_)
  have hq := tc_nm hq e_v1
  refine lv_if_ge (tgt := 16) hx hb d_ThumbCoreModel_fault_5 (by decide) (fun g_5 => ?_) (fun g_5 => ?_)
  · have hq := hq.trans (if_pos g_5)
    refine lv_aload_n hx hb d_ThumbCoreModel_fault_16 rfl (lv_at hl 0 rfl) ?_
    refine lv_iconst (v := 3) hx hb d_ThumbCoreModel_fault_17 (by decide) ?_
    refine lv_aload_n hx hb d_ThumbCoreModel_fault_18 rfl (lv_at hl 0 rfl) ?_
    refine va_get (D := D) (ci := 5) (v := .ref h_reg) (C := R_ThumbCoreModel) (T := F_ThumbCoreModel) (N := 23) hx hb hts u_ThumbCoreModel hown hK hP 0 rfl rfl 2 (by decide) (hts _ wf_ThumbCoreModel_13) (fun _ h9 => h9) rfl d_ThumbCoreModel_fault_19 ?_
    refine lv_bipush (v := 15) hx hb d_ThumbCoreModel_fault_22 (by decide) ?_
    refine va_iald hx hb hK hP 2 0 rfl rfl (by show ¬ (_ ∨ _); decide) d_ThumbCoreModel_fault_24 ?_
    refine tc_mv (wo := fun u => (wd_ThumbCoreModel cI cB cZ h h_memory h_reg h_kept h_pending h_active h_priorities q_size c_n c_z c_c c_v c_keptFlags u.1 c_h c_after c_entered c_mask c_asleep u.2.1 c_counts c_counter c_reload u.2.2.1 u.2.2.2.1 u.2.2.2.2.1 c_kept u.2.2.2.2.2.1 u.2.2.2.2.2.2 c_priorities)) (va_runV (As := [.int 3, .int (c_reg (15 : Int32).toNatClampNeg)]) (rest := []) ⟨hx, hb, hml, hown, hts⟩ (c_ThumbCoreModel_enter l D cI cB cZ h h_memory h_reg h_kept h_pending h_active h_priorities H.size q_size c_n c_z c_c c_v c_keptFlags c_bad c_h c_after c_entered c_mask c_asleep c_lockup c_counts c_counter c_reload c_current c_memory c_reg c_kept c_pending c_active c_priorities 3 (c_reg (15 : Int32).toNatClampNeg) hm (by show ¬ (_ ∨ _); decide)) (cwV 2 hts (tc_gV wl_ThumbCoreModel_111 wm_ThumbCoreModel_enter ws_ThumbCoreModel_enter wi_ThumbCoreModel wc_ThumbCoreModel_enter) rfl rfl rfl (by decide +kernel) ⟨Nat.le_of_ble_eq_true rfl, Nat.le_of_ble_eq_true rfl⟩) (tc_preV hK hN hP hD [0, 1, 2, 3, 4, 5, 6] rfl (by decide) (q0 := 0) rfl rfl) rfl rfl hl.1 rfl (lv_room (Nat.le_of_ble_eq_true rfl)) d_ThumbCoreModel_fault_25 (by decide)) hP hD hS hA [0, 1, 2, 3, 4, 5, 6] [] [0, 1, 2, 3, 4, 5, 6] rfl rfl (by decide) (by decide) (by decide) (fun _ => rfl) (fun u H locs hu hP hD hS => ?_)
    obtain ⟨s2, s3, s4, s5, s6, s7, s8⟩ := u
    have hq := hq.trans (un7_eq hu _)
    have e_s2 := hu
    have hP : va_P D tcl (wd_ThumbCoreModel cI cB cZ h h_memory h_reg h_kept h_pending h_active h_priorities q_size c_n c_z c_c c_v c_keptFlags s2 c_h c_after c_entered c_mask c_asleep s3 c_counts c_counter c_reload s4 s5 s6 c_kept s7 s8 c_priorities) H := hP
    have hD : va_D A (wd_ThumbCoreModel cI cB cZ h h_memory h_reg h_kept h_pending h_active h_priorities q_size c_n c_z c_c c_v c_keptFlags s2 c_h c_after c_entered c_mask c_asleep s3 c_counts c_counter c_reload s4 s5 s6 c_kept s7 s8 c_priorities) := hD
    exact RET H locs ls 28 (s2, s3, s4, s5, s6, s7, s8) d_ThumbCoreModel_fault_28 hP hD hS hq
  · have hq := hq.trans (if_neg g_5)
    refine lv_aload_n hx hb d_ThumbCoreModel_fault_8 rfl (lv_at hl 0 rfl) ?_
    refine lv_iconst (v := 1) hx hb d_ThumbCoreModel_fault_9 (by decide) ?_
    refine va_put (D := D) (ci := 5) (v := .int (bI true)) (ty := .boolean) (C := R_ThumbCoreModel) (T := F_ThumbCoreModel) (N := 23) hx hb hts u_ThumbCoreModel t_ThumbCoreModel t_ThumbCoreModel_ok n_ThumbCoreModel hown hK hP hD hS 0 rfl rfl 15 (by decide) (hts _ wf_ThumbCoreModel_59) (fun _ h9 => h9) rfl (by decide +kernel) (tc_nb true) (tc_fb true) (Nat.le_of_ble_eq_true rfl) d_ThumbCoreModel_fault_10 (fun H locs hP hD hS => ?_)
    have hP : va_P D tcl (wd_ThumbCoreModel cI cB cZ h h_memory h_reg h_kept h_pending h_active h_priorities q_size c_n c_z c_c c_v c_keptFlags c_bad c_h c_after c_entered c_mask c_asleep true c_counts c_counter c_reload c_current c_memory c_reg c_kept c_pending c_active c_priorities) H := hP
    have hD : va_D A (wd_ThumbCoreModel cI cB cZ h h_memory h_reg h_kept h_pending h_active h_priorities q_size c_n c_z c_c c_v c_keptFlags c_bad c_h c_after c_entered c_mask c_asleep true c_counts c_counter c_reload c_current c_memory c_reg c_kept c_pending c_active c_priorities) := hD
    refine lv_goto (tgt := 28) hx hb d_ThumbCoreModel_fault_13 (by decide) ?_
    exact RET H locs ls 28 (c_bad, true, c_current, c_memory, c_reg, c_pending, c_active) d_ThumbCoreModel_fault_28 hP hD hS hq
abbrev rm_ThumbCoreModel_comeBack : Room := { frames := 3, cells := 0, slots := 0, locals := 70 }
set_option maxHeartbeats 4000000 in
set_option maxRecDepth 100000 in
theorem c_ThumbCoreModel_comeBack (l : Launch) (D : va_G) (cI cB cZ : ClassId) (h h_memory h_reg h_kept h_pending h_active h_priorities sz : Nat) (q_size : Int32) (c_n : Bool) (c_z : Bool) (c_c : Bool) (c_v : Bool) (c_keptFlags : Int32) (c_bad : Bool) (c_h : Int32) (c_after : Int32) (c_entered : Bool) (c_mask : Bool) (c_asleep : Bool) (c_lockup : Bool) (c_counts : Bool) (c_counter : Int32) (c_reload : Int32) (c_current : Int32) (c_memory : Nat → Int32) (c_reg : Nat → Int32) (c_kept : Nat → Int32) (c_pending : Nat → Bool) (c_active : Nat → Bool) (c_priorities : Nat → Int32) (x1 : Int32) (hm : tc_memR q_size) (hi_c_current : vp_in c_current 16) : Met l y_ThumbCoreModel_comeBack (.code y_ThumbCoreModel_comeBack b_ThumbCoreModel_comeBack 7 none :: tcb) rm_ThumbCoreModel_comeBack (tc_Pw D tcl (tys cI cB cZ) (wd_ThumbCoreModel cI cB cZ h h_memory h_reg h_kept h_pending h_active h_priorities q_size c_n c_z c_c c_v c_keptFlags c_bad c_h c_after c_entered c_mask c_asleep c_lockup c_counts c_counter c_reload c_current c_memory c_reg c_kept c_pending c_active c_priorities) sz ([.ref h, .int x1] : List Value) none) (tc_Qv D tcl (wd_ThumbCoreModel cI cB cZ h h_memory h_reg h_kept h_pending h_active h_priorities q_size c_n c_z c_c c_v c_keptFlags c_bad c_h c_after c_entered c_mask c_asleep c_lockup c_counts c_counter c_reload c_current c_memory c_reg c_kept c_pending c_active c_priorities) sz (fun u => (wd_ThumbCoreModel cI cB cZ h h_memory h_reg h_kept h_pending h_active h_priorities q_size u.1 u.2.1 u.2.2.1 u.2.2.2.1 c_keptFlags u.2.2.2.2.1 c_h u.2.2.2.2.2.1 c_entered c_mask c_asleep c_lockup c_counts c_counter c_reload u.2.2.2.2.2.2.1 c_memory u.2.2.2.2.2.2.2.1 c_kept c_pending u.2.2.2.2.2.2.2.2 c_priorities)) (f_ThumbCoreModel_comeBack q_size c_memory c_n c_z c_c c_v c_bad c_after c_current c_reg c_active x1)) 0 0 (va_A (wd_ThumbCoreModel cI cB cZ h h_memory h_reg h_kept h_pending h_active h_priorities q_size c_n c_z c_c c_v c_keptFlags c_bad c_h c_after c_entered c_mask c_asleep c_lockup c_counts c_counter c_reload c_current c_memory c_reg c_kept c_pending c_active c_priorities) sz) := by
  refine tc_mu_v (by decide) (Nat.le_of_ble_eq_true rfl) ?_
  intro p e s m below meth c A Q ls hx hb hml hts hown hK hN hP hD hA hZ hl RET
  have hS : va_S A s.heap s.heap [] := va_S.rf
  have hl : lv_has ls 7 [(0, .ref h), (1, .int x1)] := hl
  generalize hF : f_ThumbCoreModel_comeBack q_size c_memory c_n c_z c_c c_v c_bad c_after c_current c_reg c_active x1 = FF at RET
  have J_310 : ∀ (H : Heap) (locs : List Loc) (ls : Array Slot) (c_n : Bool) (c_z : Bool) (c_c : Bool) (c_v : Bool) (c_bad : Bool) (c_after : Int32) (c_current : Int32) (c_reg : Nat → Int32) (c_active : Nat → Bool) (z2 : Int32) (z3 : Int32), va_P D tcl (wd_ThumbCoreModel cI cB cZ h h_memory h_reg h_kept h_pending h_active h_priorities q_size c_n c_z c_c c_v c_keptFlags c_bad c_h c_after c_entered c_mask c_asleep c_lockup c_counts c_counter c_reload c_current c_memory c_reg c_kept c_pending c_active c_priorities) H → va_D A (wd_ThumbCoreModel cI cB cZ h h_memory h_reg h_kept h_pending h_active h_priorities q_size c_n c_z c_c c_v c_keptFlags c_bad c_h c_after c_entered c_mask c_asleep c_lockup c_counts c_counter c_reload c_current c_memory c_reg c_kept c_pending c_active c_priorities) → va_S A s.heap H locs → lv_has ls 7 [] → FF = k_ThumbCoreModel_comeBack_310 q_size c_memory c_n c_z c_c c_v c_bad c_after c_current c_reg c_active z2 z3 → W p l e rm_ThumbCoreModel_comeBack s m ([.ref h, .int x1] : List Value).toArray below meth c H locs 0 0 Q (F0 m 310 ls [.int z3, .int z2, .int 13, .ref h_reg]) := by
    intro H locs ls c_n c_z c_c c_v c_bad c_after c_current c_reg c_active z2 z3 hP hD hS hl hq
    refine lv_iadd hx hb d_ThumbCoreModel_comeBack_310 ?_
    refine va_iast hx hb hK hP hD hS 2 0 rfl rfl (by show ¬ (_ ∨ _); decide) d_ThumbCoreModel_comeBack_311 (fun H locs hP hD hS => ?_)
    have hP : va_P D tcl (wd_ThumbCoreModel cI cB cZ h h_memory h_reg h_kept h_pending h_active h_priorities q_size c_n c_z c_c c_v c_keptFlags c_bad c_h c_after c_entered c_mask c_asleep c_lockup c_counts c_counter c_reload c_current c_memory (upd c_reg (13 : Int32).toNatClampNeg (z2 + z3)) c_kept c_pending c_active c_priorities) H := hP
    have hD : va_D A (wd_ThumbCoreModel cI cB cZ h h_memory h_reg h_kept h_pending h_active h_priorities q_size c_n c_z c_c c_v c_keptFlags c_bad c_h c_after c_entered c_mask c_asleep c_lockup c_counts c_counter c_reload c_current c_memory (upd c_reg (13 : Int32).toNatClampNeg (z2 + z3)) c_kept c_pending c_active c_priorities) := hD
    exact RET H locs ls 312 (c_n, c_z, c_c, c_v, c_bad, c_after, c_current, (upd c_reg (13 : Int32).toNatClampNeg (z2 + z3)), c_active) d_ThumbCoreModel_comeBack_312 hP hD hS hq
  have J_183 : ∀ n : Nat, ∀ (H : Heap) (locs : List Loc) (ls : Array Slot) (c_n : Bool) (c_z : Bool) (c_c : Bool) (c_v : Bool) (c_bad : Bool) (c_after : Int32) (c_current : Int32) (c_reg : Nat → Int32) (c_active : Nat → Bool) (y2 : Int32) (y3 : Int32) (y4 : Int32) (y6 : Int32), va_P D tcl (wd_ThumbCoreModel cI cB cZ h h_memory h_reg h_kept h_pending h_active h_priorities q_size c_n c_z c_c c_v c_keptFlags c_bad c_h c_after c_entered c_mask c_asleep c_lockup c_counts c_counter c_reload c_current c_memory c_reg c_kept c_pending c_active c_priorities) H → va_D A (wd_ThumbCoreModel cI cB cZ h h_memory h_reg h_kept h_pending h_active h_priorities q_size c_n c_z c_c c_v c_keptFlags c_bad c_h c_after c_entered c_mask c_asleep c_lockup c_counts c_counter c_reload c_current c_memory c_reg c_kept c_pending c_active c_priorities) → va_S A s.heap H locs → lv_has ls 7 [(0, .ref h), (2, .int y2), (3, .int y3), (4, .int y4), (6, .int y6)] → FF = k_ThumbCoreModel_comeBack_183 q_size c_memory n c_n c_z c_c c_v c_bad c_after c_current c_reg c_active y2 y3 y4 y6 → (tc_lp y6 4 n) → (vp_in c_current 16) → W p l e rm_ThumbCoreModel_comeBack s m ([.ref h, .int x1] : List Value).toArray below meth c H locs 0 0 Q (F0 m 183 ls []) := by
    intro n
    induction n with
    | zero =>
      intro H locs ls c_n c_z c_c c_v c_bad c_after c_current c_reg c_active y2 y3 y4 y6 hP hD hS hl hq hinv hi_c_current
      exact (tc_lp0 hinv).elim
    | succ n_183 IH_183 =>
      intro H locs ls c_n c_z c_c c_v c_bad c_after c_current c_reg c_active y2 y3 y4 y6 hP hD hS hl hq hinv hi_c_current
      refine lv_iload hx hb d_ThumbCoreModel_comeBack_183 (lv_at hl 4 rfl) ?_
      refine lv_iconst (v := 4) hx hb d_ThumbCoreModel_comeBack_185 (by decide) ?_
      refine lv_icmp_ge (tgt := 213) hx hb d_ThumbCoreModel_comeBack_186 (by decide) (fun g_186 => ?_) (fun g_186 => ?_)
      · have hq := hq.trans (if_pos g_186)
        refine lv_aload_n hx hb d_ThumbCoreModel_comeBack_213 rfl (lv_at hl 0 rfl) ?_
        refine va_get (D := D) (ci := 5) (v := .ref h_reg) (C := R_ThumbCoreModel) (T := F_ThumbCoreModel) (N := 23) hx hb hts u_ThumbCoreModel hown hK hP 0 rfl rfl 2 (by decide) (hts _ wf_ThumbCoreModel_13) (fun _ h9 => h9) rfl d_ThumbCoreModel_comeBack_214 ?_
        refine lv_bipush (v := 12) hx hb d_ThumbCoreModel_comeBack_217 (by decide) ?_
        refine lv_aload_n hx hb d_ThumbCoreModel_comeBack_219 rfl (lv_at hl 0 rfl) ?_
        refine lv_iload_n hx hb d_ThumbCoreModel_comeBack_220 rfl (lv_at hl 1 rfl) ?_
        refine lv_bipush (v := 16) hx hb d_ThumbCoreModel_comeBack_221 (by decide) ?_
        refine lv_iadd hx hb d_ThumbCoreModel_comeBack_223 ?_
        refine lv_iconst (v := 4) hx hb d_ThumbCoreModel_comeBack_224 (by decide) ?_
        refine tc_mi (wo := fun u => (wd_ThumbCoreModel cI cB cZ h h_memory h_reg h_kept h_pending h_active h_priorities q_size c_n c_z c_c c_v c_keptFlags u.2 c_h c_after c_entered c_mask c_asleep c_lockup c_counts c_counter c_reload c_current c_memory c_reg c_kept c_pending c_active c_priorities)) (va_runV (As := [.int (y2 + 16), .int 4]) (rest := [.int 12, .ref h_reg]) ⟨hx, hb, hml, hown, hts⟩ (c_ThumbCoreModel_read l D cI cB cZ h h_memory h_reg h_kept h_pending h_active h_priorities H.size q_size c_n c_z c_c c_v c_keptFlags c_bad c_h c_after c_entered c_mask c_asleep c_lockup c_counts c_counter c_reload c_current c_memory c_reg c_kept c_pending c_active c_priorities (y2 + 16) 4 hm (by decide)) (cwV 2 hts (tc_gV wl_ThumbCoreModel_45 wm_ThumbCoreModel_read ws_ThumbCoreModel_read wi_ThumbCoreModel wc_ThumbCoreModel_read) rfl rfl rfl (by decide +kernel) ⟨Nat.le_of_ble_eq_true rfl, Nat.le_of_ble_eq_true rfl⟩) (tc_preV hK hN hP hD [0, 1, 2, 3, 4, 5, 6] rfl (by decide) (q0 := 0) rfl rfl) rfl rfl hl.1 rfl (lv_room (Nat.le_of_ble_eq_true rfl)) d_ThumbCoreModel_comeBack_225 (by decide)) hP hD hS hA [0, 1, 2, 3, 4, 5, 6] [] [0, 1, 2, 3, 4, 5, 6] rfl rfl (by decide) (by decide) (by decide) (fun _ => rfl) (fun u H locs hu hP hD hS => ?_)
        obtain ⟨r1, s2⟩ := u
        have hq := hq.trans (un2_eq hu _)
        have e_r1 := hu
        have hP : va_P D tcl (wd_ThumbCoreModel cI cB cZ h h_memory h_reg h_kept h_pending h_active h_priorities q_size c_n c_z c_c c_v c_keptFlags s2 c_h c_after c_entered c_mask c_asleep c_lockup c_counts c_counter c_reload c_current c_memory c_reg c_kept c_pending c_active c_priorities) H := hP
        have hD : va_D A (wd_ThumbCoreModel cI cB cZ h h_memory h_reg h_kept h_pending h_active h_priorities q_size c_n c_z c_c c_v c_keptFlags s2 c_h c_after c_entered c_mask c_asleep c_lockup c_counts c_counter c_reload c_current c_memory c_reg c_kept c_pending c_active c_priorities) := hD
        refine W.eq (g2 := F0 m 228 ls [.int r1, .int 12, .ref h_reg]) rfl ?_
        refine va_iast hx hb hK hP hD hS 2 0 rfl rfl (by show ¬ (_ ∨ _); decide) d_ThumbCoreModel_comeBack_228 (fun H locs hP hD hS => ?_)
        have hP : va_P D tcl (wd_ThumbCoreModel cI cB cZ h h_memory h_reg h_kept h_pending h_active h_priorities q_size c_n c_z c_c c_v c_keptFlags s2 c_h c_after c_entered c_mask c_asleep c_lockup c_counts c_counter c_reload c_current c_memory (upd c_reg (12 : Int32).toNatClampNeg r1) c_kept c_pending c_active c_priorities) H := hP
        have hD : va_D A (wd_ThumbCoreModel cI cB cZ h h_memory h_reg h_kept h_pending h_active h_priorities q_size c_n c_z c_c c_v c_keptFlags s2 c_h c_after c_entered c_mask c_asleep c_lockup c_counts c_counter c_reload c_current c_memory (upd c_reg (12 : Int32).toNatClampNeg r1) c_kept c_pending c_active c_priorities) := hD
        refine lv_aload_n hx hb d_ThumbCoreModel_comeBack_229 rfl (lv_at hl 0 rfl) ?_
        refine va_get (D := D) (ci := 5) (v := .ref h_reg) (C := R_ThumbCoreModel) (T := F_ThumbCoreModel) (N := 23) hx hb hts u_ThumbCoreModel hown hK hP 0 rfl rfl 2 (by decide) (hts _ wf_ThumbCoreModel_13) (fun _ h9 => h9) rfl d_ThumbCoreModel_comeBack_230 ?_
        refine lv_bipush (v := 14) hx hb d_ThumbCoreModel_comeBack_233 (by decide) ?_
        refine lv_aload_n hx hb d_ThumbCoreModel_comeBack_235 rfl (lv_at hl 0 rfl) ?_
        refine lv_iload_n hx hb d_ThumbCoreModel_comeBack_236 rfl (lv_at hl 1 rfl) ?_
        refine lv_bipush (v := 20) hx hb d_ThumbCoreModel_comeBack_237 (by decide) ?_
        refine lv_iadd hx hb d_ThumbCoreModel_comeBack_239 ?_
        refine lv_iconst (v := 4) hx hb d_ThumbCoreModel_comeBack_240 (by decide) ?_
        refine tc_mi (wo := fun u => (wd_ThumbCoreModel cI cB cZ h h_memory h_reg h_kept h_pending h_active h_priorities q_size c_n c_z c_c c_v c_keptFlags u.2 c_h c_after c_entered c_mask c_asleep c_lockup c_counts c_counter c_reload c_current c_memory (upd c_reg (12 : Int32).toNatClampNeg r1) c_kept c_pending c_active c_priorities)) (va_runV (As := [.int (y2 + 20), .int 4]) (rest := [.int 14, .ref h_reg]) ⟨hx, hb, hml, hown, hts⟩ (c_ThumbCoreModel_read l D cI cB cZ h h_memory h_reg h_kept h_pending h_active h_priorities H.size q_size c_n c_z c_c c_v c_keptFlags s2 c_h c_after c_entered c_mask c_asleep c_lockup c_counts c_counter c_reload c_current c_memory (upd c_reg (12 : Int32).toNatClampNeg r1) c_kept c_pending c_active c_priorities (y2 + 20) 4 hm (by decide)) (cwV 2 hts (tc_gV wl_ThumbCoreModel_45 wm_ThumbCoreModel_read ws_ThumbCoreModel_read wi_ThumbCoreModel wc_ThumbCoreModel_read) rfl rfl rfl (by decide +kernel) ⟨Nat.le_of_ble_eq_true rfl, Nat.le_of_ble_eq_true rfl⟩) (tc_preV hK hN hP hD [0, 1, 2, 3, 4, 5, 6] rfl (by decide) (q0 := 0) rfl rfl) rfl rfl hl.1 rfl (lv_room (Nat.le_of_ble_eq_true rfl)) d_ThumbCoreModel_comeBack_241 (by decide)) hP hD hS hA [0, 1, 2, 3, 4, 5, 6] [] [0, 1, 2, 3, 4, 5, 6] rfl rfl (by decide) (by decide) (by decide) (fun _ => rfl) (fun u H locs hu hP hD hS => ?_)
        obtain ⟨r3, s4⟩ := u
        have hq := hq.trans (un2_eq hu _)
        have e_r3 := hu
        have hP : va_P D tcl (wd_ThumbCoreModel cI cB cZ h h_memory h_reg h_kept h_pending h_active h_priorities q_size c_n c_z c_c c_v c_keptFlags s4 c_h c_after c_entered c_mask c_asleep c_lockup c_counts c_counter c_reload c_current c_memory (upd c_reg (12 : Int32).toNatClampNeg r1) c_kept c_pending c_active c_priorities) H := hP
        have hD : va_D A (wd_ThumbCoreModel cI cB cZ h h_memory h_reg h_kept h_pending h_active h_priorities q_size c_n c_z c_c c_v c_keptFlags s4 c_h c_after c_entered c_mask c_asleep c_lockup c_counts c_counter c_reload c_current c_memory (upd c_reg (12 : Int32).toNatClampNeg r1) c_kept c_pending c_active c_priorities) := hD
        refine W.eq (g2 := F0 m 244 ls [.int r3, .int 14, .ref h_reg]) rfl ?_
        refine va_iast hx hb hK hP hD hS 2 0 rfl rfl (by show ¬ (_ ∨ _); decide) d_ThumbCoreModel_comeBack_244 (fun H locs hP hD hS => ?_)
        have hP : va_P D tcl (wd_ThumbCoreModel cI cB cZ h h_memory h_reg h_kept h_pending h_active h_priorities q_size c_n c_z c_c c_v c_keptFlags s4 c_h c_after c_entered c_mask c_asleep c_lockup c_counts c_counter c_reload c_current c_memory (upd (upd c_reg (12 : Int32).toNatClampNeg r1) (14 : Int32).toNatClampNeg r3) c_kept c_pending c_active c_priorities) H := hP
        have hD : va_D A (wd_ThumbCoreModel cI cB cZ h h_memory h_reg h_kept h_pending h_active h_priorities q_size c_n c_z c_c c_v c_keptFlags s4 c_h c_after c_entered c_mask c_asleep c_lockup c_counts c_counter c_reload c_current c_memory (upd (upd c_reg (12 : Int32).toNatClampNeg r1) (14 : Int32).toNatClampNeg r3) c_kept c_pending c_active c_priorities) := hD
        refine lv_aload_n hx hb d_ThumbCoreModel_comeBack_245 rfl (lv_at hl 0 rfl) ?_
        refine lv_aload_n hx hb d_ThumbCoreModel_comeBack_246 rfl (lv_at hl 0 rfl) ?_
        refine lv_iload_n hx hb d_ThumbCoreModel_comeBack_247 rfl (lv_at hl 1 rfl) ?_
        refine lv_bipush (v := 24) hx hb d_ThumbCoreModel_comeBack_248 (by decide) ?_
        refine lv_iadd hx hb d_ThumbCoreModel_comeBack_250 ?_
        refine lv_iconst (v := 4) hx hb d_ThumbCoreModel_comeBack_251 (by decide) ?_
        refine tc_mi (wo := fun u => (wd_ThumbCoreModel cI cB cZ h h_memory h_reg h_kept h_pending h_active h_priorities q_size c_n c_z c_c c_v c_keptFlags u.2 c_h c_after c_entered c_mask c_asleep c_lockup c_counts c_counter c_reload c_current c_memory (upd (upd c_reg (12 : Int32).toNatClampNeg r1) (14 : Int32).toNatClampNeg r3) c_kept c_pending c_active c_priorities)) (va_runV (As := [.int (y2 + 24), .int 4]) (rest := [.ref h]) ⟨hx, hb, hml, hown, hts⟩ (c_ThumbCoreModel_read l D cI cB cZ h h_memory h_reg h_kept h_pending h_active h_priorities H.size q_size c_n c_z c_c c_v c_keptFlags s4 c_h c_after c_entered c_mask c_asleep c_lockup c_counts c_counter c_reload c_current c_memory (upd (upd c_reg (12 : Int32).toNatClampNeg r1) (14 : Int32).toNatClampNeg r3) c_kept c_pending c_active c_priorities (y2 + 24) 4 hm (by decide)) (cwV 2 hts (tc_gV wl_ThumbCoreModel_45 wm_ThumbCoreModel_read ws_ThumbCoreModel_read wi_ThumbCoreModel wc_ThumbCoreModel_read) rfl rfl rfl (by decide +kernel) ⟨Nat.le_of_ble_eq_true rfl, Nat.le_of_ble_eq_true rfl⟩) (tc_preV hK hN hP hD [0, 1, 2, 3, 4, 5, 6] rfl (by decide) (q0 := 0) rfl rfl) rfl rfl hl.1 rfl (lv_room (Nat.le_of_ble_eq_true rfl)) d_ThumbCoreModel_comeBack_252 (by decide)) hP hD hS hA [0, 1, 2, 3, 4, 5, 6] [] [0, 1, 2, 3, 4, 5, 6] rfl rfl (by decide) (by decide) (by decide) (fun _ => rfl) (fun u H locs hu hP hD hS => ?_)
        obtain ⟨r5, s6⟩ := u
        have hq := hq.trans (un2_eq hu _)
        have e_r5 := hu
        have hP : va_P D tcl (wd_ThumbCoreModel cI cB cZ h h_memory h_reg h_kept h_pending h_active h_priorities q_size c_n c_z c_c c_v c_keptFlags s6 c_h c_after c_entered c_mask c_asleep c_lockup c_counts c_counter c_reload c_current c_memory (upd (upd c_reg (12 : Int32).toNatClampNeg r1) (14 : Int32).toNatClampNeg r3) c_kept c_pending c_active c_priorities) H := hP
        have hD : va_D A (wd_ThumbCoreModel cI cB cZ h h_memory h_reg h_kept h_pending h_active h_priorities q_size c_n c_z c_c c_v c_keptFlags s6 c_h c_after c_entered c_mask c_asleep c_lockup c_counts c_counter c_reload c_current c_memory (upd (upd c_reg (12 : Int32).toNatClampNeg r1) (14 : Int32).toNatClampNeg r3) c_kept c_pending c_active c_priorities) := hD
        refine W.eq (g2 := F0 m 255 ls [.int r5, .ref h]) rfl ?_
        refine lv_bipush (v := (-2)) hx hb d_ThumbCoreModel_comeBack_255 (by decide) ?_
        refine lv_iand hx hb d_ThumbCoreModel_comeBack_257 ?_
        refine va_put (D := D) (ci := 5) (v := .int (r5 &&& (-2))) (ty := .int) (C := R_ThumbCoreModel) (T := F_ThumbCoreModel) (N := 23) hx hb hts u_ThumbCoreModel t_ThumbCoreModel t_ThumbCoreModel_ok n_ThumbCoreModel hown hK hP hD hS 0 rfl rfl 11 (by decide) (hts _ wf_ThumbCoreModel_115) (fun _ h9 => h9) rfl (by decide +kernel) rfl rfl (Nat.le_of_ble_eq_true rfl) d_ThumbCoreModel_comeBack_258 (fun H locs hP hD hS => ?_)
        have hP : va_P D tcl (wd_ThumbCoreModel cI cB cZ h h_memory h_reg h_kept h_pending h_active h_priorities q_size c_n c_z c_c c_v c_keptFlags s6 c_h (r5 &&& (-2)) c_entered c_mask c_asleep c_lockup c_counts c_counter c_reload c_current c_memory (upd (upd c_reg (12 : Int32).toNatClampNeg r1) (14 : Int32).toNatClampNeg r3) c_kept c_pending c_active c_priorities) H := hP
        have hD : va_D A (wd_ThumbCoreModel cI cB cZ h h_memory h_reg h_kept h_pending h_active h_priorities q_size c_n c_z c_c c_v c_keptFlags s6 c_h (r5 &&& (-2)) c_entered c_mask c_asleep c_lockup c_counts c_counter c_reload c_current c_memory (upd (upd c_reg (12 : Int32).toNatClampNeg r1) (14 : Int32).toNatClampNeg r3) c_kept c_pending c_active c_priorities) := hD
        refine lv_aload_n hx hb d_ThumbCoreModel_comeBack_261 rfl (lv_at hl 0 rfl) ?_
        refine lv_iload_n hx hb d_ThumbCoreModel_comeBack_262 rfl (lv_at hl 2 rfl) ?_
        refine lv_bipush (v := 28) hx hb d_ThumbCoreModel_comeBack_263 (by decide) ?_
        refine lv_ishr hx hb d_ThumbCoreModel_comeBack_265 ?_
        refine lv_bipush (v := 15) hx hb d_ThumbCoreModel_comeBack_266 (by decide) ?_
        refine lv_iand hx hb d_ThumbCoreModel_comeBack_268 ?_
        refine tc_mv (wo := fun u => (wd_ThumbCoreModel cI cB cZ h h_memory h_reg h_kept h_pending h_active h_priorities q_size u.1 u.2.1 u.2.2.1 u.2.2.2 c_keptFlags s6 c_h (r5 &&& (-2)) c_entered c_mask c_asleep c_lockup c_counts c_counter c_reload c_current c_memory (upd (upd c_reg (12 : Int32).toNatClampNeg r1) (14 : Int32).toNatClampNeg r3) c_kept c_pending c_active c_priorities)) (va_runV (As := [.int ((o_ishr y3 28) &&& 15)]) (rest := []) ⟨hx, hb, hml, hown, hts⟩ (c_ThumbCoreModel_flags l D cI cB cZ h h_memory h_reg h_kept h_pending h_active h_priorities H.size q_size c_n c_z c_c c_v c_keptFlags s6 c_h (r5 &&& (-2)) c_entered c_mask c_asleep c_lockup c_counts c_counter c_reload c_current c_memory (upd (upd c_reg (12 : Int32).toNatClampNeg r1) (14 : Int32).toNatClampNeg r3) c_kept c_pending c_active c_priorities ((o_ishr y3 28) &&& 15)) (cwV 1 hts (tc_gV wl_ThumbCoreModel_49 wm_ThumbCoreModel_flags ws_ThumbCoreModel_flags wi_ThumbCoreModel wc_ThumbCoreModel_flags) rfl rfl rfl (by decide +kernel) ⟨Nat.le_of_ble_eq_true rfl, Nat.le_of_ble_eq_true rfl⟩) (tc_preV hK hN hP hD [0, 1, 2, 3, 4, 5, 6] rfl (by decide) (q0 := 0) rfl rfl) rfl rfl hl.1 rfl (lv_room (Nat.le_of_ble_eq_true rfl)) d_ThumbCoreModel_comeBack_269 (by decide)) hP hD hS hA [0, 1, 2, 3, 4, 5, 6] [] [0, 1, 2, 3, 4, 5, 6] rfl rfl (by decide) (by decide) (by decide) (fun _ => rfl) (fun u H locs hu hP hD hS => ?_)
        obtain ⟨s7, s8, s9, s10⟩ := u
        have hq := hq.trans (un4_eq hu _)
        have e_s7 := hu
        have hP : va_P D tcl (wd_ThumbCoreModel cI cB cZ h h_memory h_reg h_kept h_pending h_active h_priorities q_size s7 s8 s9 s10 c_keptFlags s6 c_h (r5 &&& (-2)) c_entered c_mask c_asleep c_lockup c_counts c_counter c_reload c_current c_memory (upd (upd c_reg (12 : Int32).toNatClampNeg r1) (14 : Int32).toNatClampNeg r3) c_kept c_pending c_active c_priorities) H := hP
        have hD : va_D A (wd_ThumbCoreModel cI cB cZ h h_memory h_reg h_kept h_pending h_active h_priorities q_size s7 s8 s9 s10 c_keptFlags s6 c_h (r5 &&& (-2)) c_entered c_mask c_asleep c_lockup c_counts c_counter c_reload c_current c_memory (upd (upd c_reg (12 : Int32).toNatClampNeg r1) (14 : Int32).toNatClampNeg r3) c_kept c_pending c_active c_priorities) := hD
        refine lv_aload_n hx hb d_ThumbCoreModel_comeBack_272 rfl (lv_at hl 0 rfl) ?_
        refine va_get (D := D) (ci := 5) (v := .ref h_active) (C := R_ThumbCoreModel) (T := F_ThumbCoreModel) (N := 23) hx hb hts u_ThumbCoreModel hown hK hP 0 rfl rfl 21 (by decide) (hts _ wf_ThumbCoreModel_24) (fun _ h9 => h9) rfl d_ThumbCoreModel_comeBack_273 ?_
        refine lv_aload_n hx hb d_ThumbCoreModel_comeBack_276 rfl (lv_at hl 0 rfl) ?_
        refine va_get (D := D) (ci := 5) (v := .int c_current) (C := R_ThumbCoreModel) (T := F_ThumbCoreModel) (N := 23) hx hb hts u_ThumbCoreModel hown hK hP 0 rfl rfl 19 (by decide) (hts _ wf_ThumbCoreModel_71) (fun _ h9 => h9) rfl d_ThumbCoreModel_comeBack_277 ?_
        refine lv_iconst (v := 0) hx hb d_ThumbCoreModel_comeBack_280 (by decide) ?_
        refine va_zast (x := bI false) hx hb hK hP hD hS 5 2 rfl rfl hi_c_current d_ThumbCoreModel_comeBack_281 (fun H locs hP hD hS => ?_)
        rw [tc_upz] at hP hD
        have hP : va_P D tcl (wd_ThumbCoreModel cI cB cZ h h_memory h_reg h_kept h_pending h_active h_priorities q_size s7 s8 s9 s10 c_keptFlags s6 c_h (r5 &&& (-2)) c_entered c_mask c_asleep c_lockup c_counts c_counter c_reload c_current c_memory (upd (upd c_reg (12 : Int32).toNatClampNeg r1) (14 : Int32).toNatClampNeg r3) c_kept c_pending (va_up c_active c_current.toNatClampNeg false) c_priorities) H := hP
        have hD : va_D A (wd_ThumbCoreModel cI cB cZ h h_memory h_reg h_kept h_pending h_active h_priorities q_size s7 s8 s9 s10 c_keptFlags s6 c_h (r5 &&& (-2)) c_entered c_mask c_asleep c_lockup c_counts c_counter c_reload c_current c_memory (upd (upd c_reg (12 : Int32).toNatClampNeg r1) (14 : Int32).toNatClampNeg r3) c_kept c_pending (va_up c_active c_current.toNatClampNeg false) c_priorities) := hD
        refine lv_aload_n hx hb d_ThumbCoreModel_comeBack_282 rfl (lv_at hl 0 rfl) ?_
        refine lv_iload hx hb d_ThumbCoreModel_comeBack_283 (lv_at hl 3 rfl) ?_
        refine va_put (D := D) (ci := 5) (v := .int y4) (ty := .int) (C := R_ThumbCoreModel) (T := F_ThumbCoreModel) (N := 23) hx hb hts u_ThumbCoreModel t_ThumbCoreModel t_ThumbCoreModel_ok n_ThumbCoreModel hown hK hP hD hS 0 rfl rfl 19 (by decide) (hts _ wf_ThumbCoreModel_71) (fun _ h9 => h9) rfl (by decide +kernel) rfl rfl (Nat.le_of_ble_eq_true rfl) d_ThumbCoreModel_comeBack_285 (fun H locs hP hD hS => ?_)
        have hP : va_P D tcl (wd_ThumbCoreModel cI cB cZ h h_memory h_reg h_kept h_pending h_active h_priorities q_size s7 s8 s9 s10 c_keptFlags s6 c_h (r5 &&& (-2)) c_entered c_mask c_asleep c_lockup c_counts c_counter c_reload y4 c_memory (upd (upd c_reg (12 : Int32).toNatClampNeg r1) (14 : Int32).toNatClampNeg r3) c_kept c_pending (va_up c_active c_current.toNatClampNeg false) c_priorities) H := hP
        have hD : va_D A (wd_ThumbCoreModel cI cB cZ h h_memory h_reg h_kept h_pending h_active h_priorities q_size s7 s8 s9 s10 c_keptFlags s6 c_h (r5 &&& (-2)) c_entered c_mask c_asleep c_lockup c_counts c_counter c_reload y4 c_memory (upd (upd c_reg (12 : Int32).toNatClampNeg r1) (14 : Int32).toNatClampNeg r3) c_kept c_pending (va_up c_active c_current.toNatClampNeg false) c_priorities) := hD
        refine lv_aload_n hx hb d_ThumbCoreModel_comeBack_288 rfl (lv_at hl 0 rfl) ?_
        refine va_get (D := D) (ci := 5) (v := .ref h_reg) (C := R_ThumbCoreModel) (T := F_ThumbCoreModel) (N := 23) hx hb hts u_ThumbCoreModel hown hK hP 0 rfl rfl 2 (by decide) (hts _ wf_ThumbCoreModel_13) (fun _ h9 => h9) rfl d_ThumbCoreModel_comeBack_289 ?_
        refine lv_bipush (v := 13) hx hb d_ThumbCoreModel_comeBack_292 (by decide) ?_
        refine lv_iload_n hx hb d_ThumbCoreModel_comeBack_294 rfl (lv_at hl 1 rfl) ?_
        refine lv_iload_n hx hb d_ThumbCoreModel_comeBack_295 rfl (lv_at hl 2 rfl) ?_
        refine lv_sipush (v := 512) hx hb d_ThumbCoreModel_comeBack_296 (by decide) ?_
        refine lv_iand hx hb d_ThumbCoreModel_comeBack_299 ?_
        refine lv_if_eq (tgt := 308) hx hb d_ThumbCoreModel_comeBack_300 (by decide) (fun g_300 => ?_) (fun g_300 => ?_)
        · have hq := hq.trans (if_pos g_300)
          refine lv_bipush (v := 32) hx hb d_ThumbCoreModel_comeBack_308 (by decide) ?_
          exact J_310 H locs ls s7 s8 s9 s10 s6 (r5 &&& (-2)) y4 (upd (upd c_reg (12 : Int32).toNatClampNeg r1) (14 : Int32).toNatClampNeg r3) (va_up c_active c_current.toNatClampNeg false) y2 32 hP hD hS (lv_sub hl [] rfl) hq
        · have hq := hq.trans (if_neg g_300)
          refine lv_bipush (v := 36) hx hb d_ThumbCoreModel_comeBack_303 (by decide) ?_
          refine lv_goto (tgt := 310) hx hb d_ThumbCoreModel_comeBack_305 (by decide) ?_
          exact J_310 H locs ls s7 s8 s9 s10 s6 (r5 &&& (-2)) y4 (upd (upd c_reg (12 : Int32).toNatClampNeg r1) (14 : Int32).toNatClampNeg r3) (va_up c_active c_current.toNatClampNeg false) y2 36 hP hD hS (lv_sub hl [] rfl) hq
      · have hq := hq.trans (if_neg g_186)
        have hgd : y6.toInt < ((4 : Nat) : Int) := tc_gge g_186 (by decide)
        refine lv_aload_n hx hb d_ThumbCoreModel_comeBack_189 rfl (lv_at hl 0 rfl) ?_
        refine va_get (D := D) (ci := 5) (v := .ref h_reg) (C := R_ThumbCoreModel) (T := F_ThumbCoreModel) (N := 23) hx hb hts u_ThumbCoreModel hown hK hP 0 rfl rfl 2 (by decide) (hts _ wf_ThumbCoreModel_13) (fun _ h9 => h9) rfl d_ThumbCoreModel_comeBack_190 ?_
        refine lv_iload hx hb d_ThumbCoreModel_comeBack_193 (lv_at hl 4 rfl) ?_
        refine lv_aload_n hx hb d_ThumbCoreModel_comeBack_195 rfl (lv_at hl 0 rfl) ?_
        refine lv_iload_n hx hb d_ThumbCoreModel_comeBack_196 rfl (lv_at hl 1 rfl) ?_
        refine lv_iconst (v := 4) hx hb d_ThumbCoreModel_comeBack_197 (by decide) ?_
        refine lv_iload hx hb d_ThumbCoreModel_comeBack_198 (lv_at hl 4 rfl) ?_
        refine lv_imul hx hb d_ThumbCoreModel_comeBack_200 ?_
        refine lv_iadd hx hb d_ThumbCoreModel_comeBack_201 ?_
        refine lv_iconst (v := 4) hx hb d_ThumbCoreModel_comeBack_202 (by decide) ?_
        refine tc_mi (wo := fun u => (wd_ThumbCoreModel cI cB cZ h h_memory h_reg h_kept h_pending h_active h_priorities q_size c_n c_z c_c c_v c_keptFlags u.2 c_h c_after c_entered c_mask c_asleep c_lockup c_counts c_counter c_reload c_current c_memory c_reg c_kept c_pending c_active c_priorities)) (va_runV (As := [.int (y2 + (4 * y6)), .int 4]) (rest := [.int y6, .ref h_reg]) ⟨hx, hb, hml, hown, hts⟩ (c_ThumbCoreModel_read l D cI cB cZ h h_memory h_reg h_kept h_pending h_active h_priorities H.size q_size c_n c_z c_c c_v c_keptFlags c_bad c_h c_after c_entered c_mask c_asleep c_lockup c_counts c_counter c_reload c_current c_memory c_reg c_kept c_pending c_active c_priorities (y2 + (4 * y6)) 4 hm (by decide)) (cwV 2 hts (tc_gV wl_ThumbCoreModel_45 wm_ThumbCoreModel_read ws_ThumbCoreModel_read wi_ThumbCoreModel wc_ThumbCoreModel_read) rfl rfl rfl (by decide +kernel) ⟨Nat.le_of_ble_eq_true rfl, Nat.le_of_ble_eq_true rfl⟩) (tc_preV hK hN hP hD [0, 1, 2, 3, 4, 5, 6] rfl (by decide) (q0 := 0) rfl rfl) rfl rfl hl.1 rfl (lv_room (Nat.le_of_ble_eq_true rfl)) d_ThumbCoreModel_comeBack_203 (by decide)) hP hD hS hA [0, 1, 2, 3, 4, 5, 6] [] [0, 1, 2, 3, 4, 5, 6] rfl rfl (by decide) (by decide) (by decide) (fun _ => rfl) (fun u H locs hu hP hD hS => ?_)
        obtain ⟨r11, s12⟩ := u
        have hq := hq.trans (un2_eq hu _)
        have e_r11 := hu
        have hP : va_P D tcl (wd_ThumbCoreModel cI cB cZ h h_memory h_reg h_kept h_pending h_active h_priorities q_size c_n c_z c_c c_v c_keptFlags s12 c_h c_after c_entered c_mask c_asleep c_lockup c_counts c_counter c_reload c_current c_memory c_reg c_kept c_pending c_active c_priorities) H := hP
        have hD : va_D A (wd_ThumbCoreModel cI cB cZ h h_memory h_reg h_kept h_pending h_active h_priorities q_size c_n c_z c_c c_v c_keptFlags s12 c_h c_after c_entered c_mask c_asleep c_lockup c_counts c_counter c_reload c_current c_memory c_reg c_kept c_pending c_active c_priorities) := hD
        refine W.eq (g2 := F0 m 206 ls [.int r11, .int y6, .ref h_reg]) rfl ?_
        refine va_iast hx hb hK hP hD hS 2 0 rfl rfl (tc_lpI hinv hgd (by decide)) d_ThumbCoreModel_comeBack_206 (fun H locs hP hD hS => ?_)
        have hP : va_P D tcl (wd_ThumbCoreModel cI cB cZ h h_memory h_reg h_kept h_pending h_active h_priorities q_size c_n c_z c_c c_v c_keptFlags s12 c_h c_after c_entered c_mask c_asleep c_lockup c_counts c_counter c_reload c_current c_memory (upd c_reg y6.toNatClampNeg r11) c_kept c_pending c_active c_priorities) H := hP
        have hD : va_D A (wd_ThumbCoreModel cI cB cZ h h_memory h_reg h_kept h_pending h_active h_priorities q_size c_n c_z c_c c_v c_keptFlags s12 c_h c_after c_entered c_mask c_asleep c_lockup c_counts c_counter c_reload c_current c_memory (upd c_reg y6.toNatClampNeg r11) c_kept c_pending c_active c_priorities) := hD
        refine lv_iinc (k := 4) (v := (y6 + 1)) (lv' := [(6, .int (y6 + 1)), (0, .ref h), (2, .int y2), (3, .int y3), (4, .int y4)]) hx hb d_ThumbCoreModel_comeBack_207 hl rfl rfl (by decide) rfl (fun ls hl => ?_)
        refine lv_goto (tgt := 183) hx hb d_ThumbCoreModel_comeBack_210 (by decide) ?_
        exact IH_183 H locs ls c_n c_z c_c c_v s12 c_after c_current (upd c_reg y6.toNatClampNeg r11) c_active y2 y3 y4 (y6 + 1) hP hD hS (lv_sub hl [1, 2, 3, 4, 0] rfl) hq (tc_lpS hinv hgd (by decide)) hi_c_current
  have J_169 : ∀ (H : Heap) (locs : List Loc) (ls : Array Slot) (c_n : Bool) (c_z : Bool) (c_c : Bool) (c_v : Bool) (c_bad : Bool) (c_after : Int32) (c_current : Int32) (c_reg : Nat → Int32) (c_active : Nat → Bool) (y2 : Int32) (y3 : Int32) (y4 : Int32) (z1 : Bool), va_P D tcl (wd_ThumbCoreModel cI cB cZ h h_memory h_reg h_kept h_pending h_active h_priorities q_size c_n c_z c_c c_v c_keptFlags c_bad c_h c_after c_entered c_mask c_asleep c_lockup c_counts c_counter c_reload c_current c_memory c_reg c_kept c_pending c_active c_priorities) H → va_D A (wd_ThumbCoreModel cI cB cZ h h_memory h_reg h_kept h_pending h_active h_priorities q_size c_n c_z c_c c_v c_keptFlags c_bad c_h c_after c_entered c_mask c_asleep c_lockup c_counts c_counter c_reload c_current c_memory c_reg c_kept c_pending c_active c_priorities) → va_S A s.heap H locs → lv_has ls 7 [(0, .ref h), (2, .int y2), (3, .int y3), (4, .int y4)] → FF = k_ThumbCoreModel_comeBack_169 q_size c_memory c_n c_z c_c c_v c_bad c_after c_current c_reg c_active y2 y3 y4 z1 → (vp_in c_current 16) → W p l e rm_ThumbCoreModel_comeBack s m ([.ref h, .int x1] : List Value).toArray below meth c H locs 0 0 Q (F0 m 169 ls [.int (bI z1), .ref h]) := by
    intro H locs ls c_n c_z c_c c_v c_bad c_after c_current c_reg c_active y2 y3 y4 z1 hP hD hS hl hq hi_c_current
    refine va_put (D := D) (ci := 5) (v := .int (bI z1)) (ty := .boolean) (C := R_ThumbCoreModel) (T := F_ThumbCoreModel) (N := 23) hx hb hts u_ThumbCoreModel t_ThumbCoreModel t_ThumbCoreModel_ok n_ThumbCoreModel hown hK hP hD hS 0 rfl rfl 9 (by decide) (hts _ wf_ThumbCoreModel_41) (fun _ h9 => h9) rfl (by decide +kernel) (tc_nb z1) (tc_fb z1) (Nat.le_of_ble_eq_true rfl) d_ThumbCoreModel_comeBack_169 (fun H locs hP hD hS => ?_)
    have hP : va_P D tcl (wd_ThumbCoreModel cI cB cZ h h_memory h_reg h_kept h_pending h_active h_priorities q_size c_n c_z c_c c_v c_keptFlags z1 c_h c_after c_entered c_mask c_asleep c_lockup c_counts c_counter c_reload c_current c_memory c_reg c_kept c_pending c_active c_priorities) H := hP
    have hD : va_D A (wd_ThumbCoreModel cI cB cZ h h_memory h_reg h_kept h_pending h_active h_priorities q_size c_n c_z c_c c_v c_keptFlags z1 c_h c_after c_entered c_mask c_asleep c_lockup c_counts c_counter c_reload c_current c_memory c_reg c_kept c_pending c_active c_priorities) := hD
    refine lv_aload_n hx hb d_ThumbCoreModel_comeBack_172 rfl (lv_at hl 0 rfl) ?_
    refine va_get (D := D) (ci := 5) (v := .int (bI z1)) (C := R_ThumbCoreModel) (T := F_ThumbCoreModel) (N := 23) hx hb hts u_ThumbCoreModel hown hK hP 0 rfl rfl 9 (by decide) (hts _ wf_ThumbCoreModel_41) (fun _ h9 => h9) rfl d_ThumbCoreModel_comeBack_173 ?_
    refine lv_if_eq (tgt := 180) hx hb d_ThumbCoreModel_comeBack_176 (by decide) (fun g_176 => ?_) (fun g_176 => ?_)
    · have hq := hq.trans (if_pos g_176)
      refine lv_iconst (v := 0) hx hb d_ThumbCoreModel_comeBack_180 (by decide) ?_
      refine lv_istore (lv' := [(6, .int 0), (0, .ref h), (2, .int y2), (3, .int y3), (4, .int y4)]) hx hb d_ThumbCoreModel_comeBack_181 hl (by decide) rfl (fun ls hl => ?_)
      exact J_183 (5) H locs ls c_n c_z c_c c_v z1 c_after c_current c_reg c_active y2 y3 y4 0 hP hD hS (lv_sub hl [1, 2, 3, 4, 0] rfl) hq (tc_lpE _) hi_c_current
    · have hq := hq.trans (if_neg g_176)
      exact RET H locs ls 179 (c_n, c_z, c_c, c_v, z1, c_after, c_current, c_reg, c_active) d_ThumbCoreModel_comeBack_179 hP hD hS hq
  have J_164 : ∀ (H : Heap) (locs : List Loc) (ls : Array Slot) (c_n : Bool) (c_z : Bool) (c_c : Bool) (c_v : Bool) (c_bad : Bool) (c_after : Int32) (c_current : Int32) (c_reg : Nat → Int32) (c_active : Nat → Bool) (y2 : Int32) (y3 : Int32) (y4 : Int32), va_P D tcl (wd_ThumbCoreModel cI cB cZ h h_memory h_reg h_kept h_pending h_active h_priorities q_size c_n c_z c_c c_v c_keptFlags c_bad c_h c_after c_entered c_mask c_asleep c_lockup c_counts c_counter c_reload c_current c_memory c_reg c_kept c_pending c_active c_priorities) H → va_D A (wd_ThumbCoreModel cI cB cZ h h_memory h_reg h_kept h_pending h_active h_priorities q_size c_n c_z c_c c_v c_keptFlags c_bad c_h c_after c_entered c_mask c_asleep c_lockup c_counts c_counter c_reload c_current c_memory c_reg c_kept c_pending c_active c_priorities) → va_S A s.heap H locs → lv_has ls 7 [(0, .ref h), (2, .int y2), (3, .int y3), (4, .int y4)] → FF = k_ThumbCoreModel_comeBack_164 q_size c_memory c_n c_z c_c c_v c_bad c_after c_current c_reg c_active y2 y3 y4 → (vp_in c_current 16) → W p l e rm_ThumbCoreModel_comeBack s m ([.ref h, .int x1] : List Value).toArray below meth c H locs 0 0 Q (F0 m 164 ls [.ref h]) := by
    intro H locs ls c_n c_z c_c c_v c_bad c_after c_current c_reg c_active y2 y3 y4 hP hD hS hl hq hi_c_current
    refine lv_iconst (v := 1) hx hb d_ThumbCoreModel_comeBack_164 (by decide) ?_
    refine lv_goto (tgt := 169) hx hb d_ThumbCoreModel_comeBack_165 (by decide) ?_
    exact J_169 H locs ls c_n c_z c_c c_v c_bad c_after c_current c_reg c_active y2 y3 y4 true hP hD hS (lv_sub hl [0, 1, 2, 3] rfl) hq hi_c_current
  have J_149 : ∀ (H : Heap) (locs : List Loc) (ls : Array Slot) (c_n : Bool) (c_z : Bool) (c_c : Bool) (c_v : Bool) (c_bad : Bool) (c_after : Int32) (c_current : Int32) (c_reg : Nat → Int32) (c_active : Nat → Bool) (y2 : Int32) (y3 : Int32) (y4 : Int32) (z0 : Bool), va_P D tcl (wd_ThumbCoreModel cI cB cZ h h_memory h_reg h_kept h_pending h_active h_priorities q_size c_n c_z c_c c_v c_keptFlags c_bad c_h c_after c_entered c_mask c_asleep c_lockup c_counts c_counter c_reload c_current c_memory c_reg c_kept c_pending c_active c_priorities) H → va_D A (wd_ThumbCoreModel cI cB cZ h h_memory h_reg h_kept h_pending h_active h_priorities q_size c_n c_z c_c c_v c_keptFlags c_bad c_h c_after c_entered c_mask c_asleep c_lockup c_counts c_counter c_reload c_current c_memory c_reg c_kept c_pending c_active c_priorities) → va_S A s.heap H locs → lv_has ls 7 [(0, .ref h), (2, .int y2), (3, .int y3), (4, .int y4)] → FF = k_ThumbCoreModel_comeBack_149 q_size c_memory c_n c_z c_c c_v c_bad c_after c_current c_reg c_active y2 y3 y4 z0 → (vp_in c_current 16) → W p l e rm_ThumbCoreModel_comeBack s m ([.ref h, .int x1] : List Value).toArray below meth c H locs 0 0 Q (F0 m 149 ls [.int (bI z0)]) := by
    intro H locs ls c_n c_z c_c c_v c_bad c_after c_current c_reg c_active y2 y3 y4 z0 hP hD hS hl hq hi_c_current
    refine lv_istore (lv' := [(5, .int (bI z0)), (0, .ref h), (2, .int y2), (3, .int y3), (4, .int y4)]) hx hb d_ThumbCoreModel_comeBack_149 hl (by decide) rfl (fun ls hl => ?_)
    refine lv_aload_n hx hb d_ThumbCoreModel_comeBack_151 rfl (lv_at hl 1 rfl) ?_
    refine lv_aload_n hx hb d_ThumbCoreModel_comeBack_152 rfl (lv_at hl 1 rfl) ?_
    refine va_get (D := D) (ci := 5) (v := .int (bI c_bad)) (C := R_ThumbCoreModel) (T := F_ThumbCoreModel) (N := 23) hx hb hts u_ThumbCoreModel hown hK hP 0 rfl rfl 9 (by decide) (hts _ wf_ThumbCoreModel_41) (fun _ h9 => h9) rfl d_ThumbCoreModel_comeBack_153 ?_
    refine lv_if_ne (tgt := 164) hx hb d_ThumbCoreModel_comeBack_156 (by decide) (fun g_156 => ?_) (fun g_156 => ?_)
    · have hq := hq.trans (if_pos g_156)
      exact J_164 H locs ls c_n c_z c_c c_v c_bad c_after c_current c_reg c_active y2 y3 y4 hP hD hS (lv_sub hl [1, 2, 3, 4] rfl) hq hi_c_current
    · have hq := hq.trans (if_neg (fun g => g g_156))
      refine lv_iload hx hb d_ThumbCoreModel_comeBack_159 (lv_at hl 0 rfl) ?_
      refine lv_if_ne (tgt := 168) hx hb d_ThumbCoreModel_comeBack_161 (by decide) (fun g_161 => ?_) (fun g_161 => ?_)
      · have hq := hq.trans (if_pos g_161)
        refine lv_iconst (v := 0) hx hb d_ThumbCoreModel_comeBack_168 (by decide) ?_
        exact J_169 H locs ls c_n c_z c_c c_v c_bad c_after c_current c_reg c_active y2 y3 y4 false hP hD hS (lv_sub hl [1, 2, 3, 4] rfl) hq hi_c_current
      · have hq := hq.trans (if_neg (fun g => g g_161))
        exact J_164 H locs ls c_n c_z c_c c_v c_bad c_after c_current c_reg c_active y2 y3 y4 hP hD hS (lv_sub hl [1, 2, 3, 4] rfl) hq hi_c_current
  have J_148 : ∀ (H : Heap) (locs : List Loc) (ls : Array Slot) (c_n : Bool) (c_z : Bool) (c_c : Bool) (c_v : Bool) (c_bad : Bool) (c_after : Int32) (c_current : Int32) (c_reg : Nat → Int32) (c_active : Nat → Bool) (y2 : Int32) (y3 : Int32) (y4 : Int32), va_P D tcl (wd_ThumbCoreModel cI cB cZ h h_memory h_reg h_kept h_pending h_active h_priorities q_size c_n c_z c_c c_v c_keptFlags c_bad c_h c_after c_entered c_mask c_asleep c_lockup c_counts c_counter c_reload c_current c_memory c_reg c_kept c_pending c_active c_priorities) H → va_D A (wd_ThumbCoreModel cI cB cZ h h_memory h_reg h_kept h_pending h_active h_priorities q_size c_n c_z c_c c_v c_keptFlags c_bad c_h c_after c_entered c_mask c_asleep c_lockup c_counts c_counter c_reload c_current c_memory c_reg c_kept c_pending c_active c_priorities) → va_S A s.heap H locs → lv_has ls 7 [(0, .ref h), (2, .int y2), (3, .int y3), (4, .int y4)] → FF = k_ThumbCoreModel_comeBack_148 q_size c_memory c_n c_z c_c c_v c_bad c_after c_current c_reg c_active y2 y3 y4 → (vp_in c_current 16) → W p l e rm_ThumbCoreModel_comeBack s m ([.ref h, .int x1] : List Value).toArray below meth c H locs 0 0 Q (F0 m 148 ls []) := by
    intro H locs ls c_n c_z c_c c_v c_bad c_after c_current c_reg c_active y2 y3 y4 hP hD hS hl hq hi_c_current
    refine lv_iconst (v := 0) hx hb d_ThumbCoreModel_comeBack_148 (by decide) ?_
    exact J_149 H locs ls c_n c_z c_c c_v c_bad c_after c_current c_reg c_active y2 y3 y4 false hP hD hS (lv_sub hl [0, 1, 2, 3] rfl) hq hi_c_current
  have J_101 : ∀ (H : Heap) (locs : List Loc) (ls : Array Slot) (c_n : Bool) (c_z : Bool) (c_c : Bool) (c_v : Bool) (c_bad : Bool) (c_after : Int32) (c_current : Int32) (c_reg : Nat → Int32) (c_active : Nat → Bool) (y2 : Int32) (y3 : Int32) (y4 : Int32), va_P D tcl (wd_ThumbCoreModel cI cB cZ h h_memory h_reg h_kept h_pending h_active h_priorities q_size c_n c_z c_c c_v c_keptFlags c_bad c_h c_after c_entered c_mask c_asleep c_lockup c_counts c_counter c_reload c_current c_memory c_reg c_kept c_pending c_active c_priorities) H → va_D A (wd_ThumbCoreModel cI cB cZ h h_memory h_reg h_kept h_pending h_active h_priorities q_size c_n c_z c_c c_v c_keptFlags c_bad c_h c_after c_entered c_mask c_asleep c_lockup c_counts c_counter c_reload c_current c_memory c_reg c_kept c_pending c_active c_priorities) → va_S A s.heap H locs → lv_has ls 7 [(0, .ref h), (2, .int y2), (3, .int y3), (4, .int y4)] → FF = k_ThumbCoreModel_comeBack_101 q_size c_memory c_n c_z c_c c_v c_bad c_after c_current c_reg c_active y2 y3 y4 → (vp_in c_current 16) → W p l e rm_ThumbCoreModel_comeBack s m ([.ref h, .int x1] : List Value).toArray below meth c H locs 0 0 Q (F0 m 101 ls []) := by
    intro H locs ls c_n c_z c_c c_v c_bad c_after c_current c_reg c_active y2 y3 y4 hP hD hS hl hq hi_c_current
    refine lv_iconst (v := 0) hx hb d_ThumbCoreModel_comeBack_101 (by decide) ?_
    refine lv_goto (tgt := 149) hx hb d_ThumbCoreModel_comeBack_102 (by decide) ?_
    exact J_149 H locs ls c_n c_z c_c c_v c_bad c_after c_current c_reg c_active y2 y3 y4 false hP hD hS (lv_sub hl [0, 1, 2, 3] rfl) hq hi_c_current
  have J_71 : ∀ (H : Heap) (locs : List Loc) (ls : Array Slot) (c_n : Bool) (c_z : Bool) (c_c : Bool) (c_v : Bool) (c_bad : Bool) (c_after : Int32) (c_current : Int32) (c_reg : Nat → Int32) (c_active : Nat → Bool) (y1 : Int32) (y2 : Int32) (z0 : Int32), va_P D tcl (wd_ThumbCoreModel cI cB cZ h h_memory h_reg h_kept h_pending h_active h_priorities q_size c_n c_z c_c c_v c_keptFlags c_bad c_h c_after c_entered c_mask c_asleep c_lockup c_counts c_counter c_reload c_current c_memory c_reg c_kept c_pending c_active c_priorities) H → va_D A (wd_ThumbCoreModel cI cB cZ h h_memory h_reg h_kept h_pending h_active h_priorities q_size c_n c_z c_c c_v c_keptFlags c_bad c_h c_after c_entered c_mask c_asleep c_lockup c_counts c_counter c_reload c_current c_memory c_reg c_kept c_pending c_active c_priorities) → va_S A s.heap H locs → lv_has ls 7 [(0, .ref h), (1, .int y1), (2, .int y2)] → FF = k_ThumbCoreModel_comeBack_71 q_size c_memory c_n c_z c_c c_v c_bad c_after c_current c_reg c_active y1 y2 z0 → (vp_in c_current 16) → W p l e rm_ThumbCoreModel_comeBack s m ([.ref h, .int x1] : List Value).toArray below meth c H locs 0 0 Q (F0 m 71 ls [.int z0]) := by
    intro H locs ls c_n c_z c_c c_v c_bad c_after c_current c_reg c_active y1 y2 z0 hP hD hS hl hq hi_c_current
    refine lv_istore_n (lv' := [(3, .int z0), (0, .ref h), (1, .int y1), (2, .int y2)]) hx hb d_ThumbCoreModel_comeBack_71 rfl hl (by decide) rfl (fun ls hl => ?_)
    refine lv_iload_n hx hb d_ThumbCoreModel_comeBack_72 rfl (lv_at hl 0 rfl) ?_
    refine lv_bipush (v := 63) hx hb d_ThumbCoreModel_comeBack_73 (by decide) ?_
    refine lv_iand hx hb d_ThumbCoreModel_comeBack_75 ?_
    refine lv_topi (fun v1 e_v1 => ?_)
    have hq := tc_nm hq e_v1
    refine lv_istore (lv' := [(4, .int v1), (3, .int z0), (0, .ref h), (1, .int y1), (2, .int y2)]) hx hb d_ThumbCoreModel_comeBack_76 hl (by decide) rfl (fun ls hl => ?_)
    refine lv_iload_n hx hb d_ThumbCoreModel_comeBack_78 rfl (lv_at hl 3 rfl) ?_
    refine lv_bipush (v := (-7)) hx hb d_ThumbCoreModel_comeBack_79 (by decide) ?_
    refine lv_icmp_ne (tgt := 105) hx hb d_ThumbCoreModel_comeBack_81 (by decide) (fun g_81 => ?_) (fun g_81 => ?_)
    · have hq := hq.trans (if_pos g_81)
      refine lv_iload hx hb d_ThumbCoreModel_comeBack_105 (lv_at hl 0 rfl) ?_
      refine lv_bipush (v := 16) hx hb d_ThumbCoreModel_comeBack_107 (by decide) ?_
      refine lv_icmp_ge (tgt := 148) hx hb d_ThumbCoreModel_comeBack_109 (by decide) (fun g_109 => ?_) (fun g_109 => ?_)
      · have hq := hq.trans (if_pos g_109)
        exact J_148 H locs ls c_n c_z c_c c_v c_bad c_after c_current c_reg c_active y2 z0 v1 hP hD hS (lv_sub hl [2, 4, 1, 0] rfl) hq hi_c_current
      · have hq := hq.trans (if_neg g_109)
        refine lv_iload hx hb d_ThumbCoreModel_comeBack_112 (lv_at hl 0 rfl) ?_
        refine lv_aload_n hx hb d_ThumbCoreModel_comeBack_114 rfl (lv_at hl 2 rfl) ?_
        refine va_get (D := D) (ci := 5) (v := .int c_current) (C := R_ThumbCoreModel) (T := F_ThumbCoreModel) (N := 23) hx hb hts u_ThumbCoreModel hown hK hP 0 rfl rfl 19 (by decide) (hts _ wf_ThumbCoreModel_71) (fun _ h9 => h9) rfl d_ThumbCoreModel_comeBack_115 ?_
        refine lv_icmp_eq (tgt := 148) hx hb d_ThumbCoreModel_comeBack_118 (by decide) (fun g_118 => ?_) (fun g_118 => ?_)
        · have hq := hq.trans (if_pos g_118)
          exact J_148 H locs ls c_n c_z c_c c_v c_bad c_after c_current c_reg c_active y2 z0 v1 hP hD hS (lv_sub hl [2, 4, 1, 0] rfl) hq hi_c_current
        · have hq := hq.trans (if_neg g_118)
          refine lv_iload hx hb d_ThumbCoreModel_comeBack_121 (lv_at hl 0 rfl) ?_
          refine lv_if_le (tgt := 148) hx hb d_ThumbCoreModel_comeBack_123 (by decide) (fun g_123 => ?_) (fun g_123 => ?_)
          · have hq := hq.trans (if_pos g_123)
            exact J_148 H locs ls c_n c_z c_c c_v c_bad c_after c_current c_reg c_active y2 z0 v1 hP hD hS (lv_sub hl [2, 4, 1, 0] rfl) hq hi_c_current
          · have hq := hq.trans (if_neg g_123)
            refine lv_aload_n hx hb d_ThumbCoreModel_comeBack_126 rfl (lv_at hl 2 rfl) ?_
            refine va_get (D := D) (ci := 5) (v := .ref h_active) (C := R_ThumbCoreModel) (T := F_ThumbCoreModel) (N := 23) hx hb hts u_ThumbCoreModel hown hK hP 0 rfl rfl 21 (by decide) (hts _ wf_ThumbCoreModel_24) (fun _ h9 => h9) rfl d_ThumbCoreModel_comeBack_127 ?_
            refine lv_iload hx hb d_ThumbCoreModel_comeBack_130 (lv_at hl 0 rfl) ?_
            refine va_zald hx hb hK hP 5 2 rfl rfl (tc_told e_v1 g_109) d_ThumbCoreModel_comeBack_132 ?_
            refine lv_if_eq (tgt := 148) hx hb d_ThumbCoreModel_comeBack_133 (by decide) (fun g_133 => ?_) (fun g_133 => ?_)
            · have hq := hq.trans (if_pos g_133)
              exact J_148 H locs ls c_n c_z c_c c_v c_bad c_after c_current c_reg c_active y2 z0 v1 hP hD hS (lv_sub hl [2, 4, 1, 0] rfl) hq hi_c_current
            · have hq := hq.trans (if_neg g_133)
              refine lv_aload_n hx hb d_ThumbCoreModel_comeBack_136 rfl (lv_at hl 2 rfl) ?_
              refine tc_rd (va_runV (As := []) (rest := []) ⟨hx, hb, hml, hown, hts⟩ (c_ThumbCoreModel_actives l D cI cB cZ h h_memory h_reg h_kept h_pending h_active h_priorities H.size q_size c_n c_z c_c c_v c_keptFlags c_bad c_h c_after c_entered c_mask c_asleep c_lockup c_counts c_counter c_reload c_current c_memory c_reg c_kept c_pending c_active c_priorities) (cwV 0 hts (tc_gV wl_ThumbCoreModel_104 wm_ThumbCoreModel_actives ws_ThumbCoreModel_actives wi_ThumbCoreModel wc_ThumbCoreModel_actives) rfl rfl rfl (by decide +kernel) ⟨Nat.le_of_ble_eq_true rfl, Nat.le_of_ble_eq_true rfl⟩) (tc_preV hK hN hP hD [0, 1, 2, 3, 4, 5, 6] rfl (by decide) (q0 := 0) rfl rfl) rfl rfl hl.1 rfl (lv_room (Nat.le_of_ble_eq_true rfl)) d_ThumbCoreModel_comeBack_137 (by decide)) ?_
              refine lv_topi (fun v2 e_v2 => ?_)
              have hq := tc_nm hq e_v2
              refine lv_iconst (v := 1) hx hb d_ThumbCoreModel_comeBack_140 (by decide) ?_
              refine lv_icmp_le (tgt := 148) hx hb d_ThumbCoreModel_comeBack_141 (by decide) (fun g_141 => ?_) (fun g_141 => ?_)
              · have hq := hq.trans (if_pos g_141)
                exact J_148 H locs ls c_n c_z c_c c_v c_bad c_after c_current c_reg c_active y2 z0 v1 hP hD hS (lv_sub hl [2, 4, 1, 0] rfl) hq hi_c_current
              · have hq := hq.trans (if_neg g_141)
                refine lv_iconst (v := 1) hx hb d_ThumbCoreModel_comeBack_144 (by decide) ?_
                refine lv_goto (tgt := 149) hx hb d_ThumbCoreModel_comeBack_145 (by decide) ?_
                exact J_149 H locs ls c_n c_z c_c c_v c_bad c_after c_current c_reg c_active y2 z0 v1 true hP hD hS (lv_sub hl [2, 4, 1, 0] rfl) hq hi_c_current
    · have hq := hq.trans (if_neg (fun g => g g_81))
      refine lv_iload hx hb d_ThumbCoreModel_comeBack_84 (lv_at hl 0 rfl) ?_
      refine lv_if_ne (tgt := 101) hx hb d_ThumbCoreModel_comeBack_86 (by decide) (fun g_86 => ?_) (fun g_86 => ?_)
      · have hq := hq.trans (if_pos g_86)
        exact J_101 H locs ls c_n c_z c_c c_v c_bad c_after c_current c_reg c_active y2 z0 v1 hP hD hS (lv_sub hl [2, 4, 1, 0] rfl) hq hi_c_current
      · have hq := hq.trans (if_neg (fun g => g g_86))
        refine lv_aload_n hx hb d_ThumbCoreModel_comeBack_89 rfl (lv_at hl 2 rfl) ?_
        refine tc_rd (va_runV (As := []) (rest := []) ⟨hx, hb, hml, hown, hts⟩ (c_ThumbCoreModel_actives l D cI cB cZ h h_memory h_reg h_kept h_pending h_active h_priorities H.size q_size c_n c_z c_c c_v c_keptFlags c_bad c_h c_after c_entered c_mask c_asleep c_lockup c_counts c_counter c_reload c_current c_memory c_reg c_kept c_pending c_active c_priorities) (cwV 0 hts (tc_gV wl_ThumbCoreModel_104 wm_ThumbCoreModel_actives ws_ThumbCoreModel_actives wi_ThumbCoreModel wc_ThumbCoreModel_actives) rfl rfl rfl (by decide +kernel) ⟨Nat.le_of_ble_eq_true rfl, Nat.le_of_ble_eq_true rfl⟩) (tc_preV hK hN hP hD [0, 1, 2, 3, 4, 5, 6] rfl (by decide) (q0 := 0) rfl rfl) rfl rfl hl.1 rfl (lv_room (Nat.le_of_ble_eq_true rfl)) d_ThumbCoreModel_comeBack_90 (by decide)) ?_
        refine lv_topi (fun v3 e_v3 => ?_)
        have hq := tc_nm hq e_v3
        refine lv_iconst (v := 1) hx hb d_ThumbCoreModel_comeBack_93 (by decide) ?_
        refine lv_icmp_ne (tgt := 101) hx hb d_ThumbCoreModel_comeBack_94 (by decide) (fun g_94 => ?_) (fun g_94 => ?_)
        · have hq := hq.trans (if_pos g_94)
          exact J_101 H locs ls c_n c_z c_c c_v c_bad c_after c_current c_reg c_active y2 z0 v1 hP hD hS (lv_sub hl [2, 4, 1, 0] rfl) hq hi_c_current
        · have hq := hq.trans (if_neg (fun g => g g_94))
          refine lv_iconst (v := 1) hx hb d_ThumbCoreModel_comeBack_97 (by decide) ?_
          refine lv_goto (tgt := 149) hx hb d_ThumbCoreModel_comeBack_98 (by decide) ?_
          exact J_149 H locs ls c_n c_z c_c c_v c_bad c_after c_current c_reg c_active y2 z0 v1 true hP hD hS (lv_sub hl [2, 4, 1, 0] rfl) hq hi_c_current
  have J_10 : ∀ n : Nat, ∀ (H : Heap) (locs : List Loc) (ls : Array Slot) (c_n : Bool) (c_z : Bool) (c_c : Bool) (c_v : Bool) (c_bad : Bool) (c_after : Int32) (c_current : Int32) (c_reg : Nat → Int32) (c_active : Nat → Bool) (y1 : Int32) (y2 : Int32) (y3 : Int32), va_P D tcl (wd_ThumbCoreModel cI cB cZ h h_memory h_reg h_kept h_pending h_active h_priorities q_size c_n c_z c_c c_v c_keptFlags c_bad c_h c_after c_entered c_mask c_asleep c_lockup c_counts c_counter c_reload c_current c_memory c_reg c_kept c_pending c_active c_priorities) H → va_D A (wd_ThumbCoreModel cI cB cZ h h_memory h_reg h_kept h_pending h_active h_priorities q_size c_n c_z c_c c_v c_keptFlags c_bad c_h c_after c_entered c_mask c_asleep c_lockup c_counts c_counter c_reload c_current c_memory c_reg c_kept c_pending c_active c_priorities) → va_S A s.heap H locs → lv_has ls 7 [(0, .ref h), (1, .int y1), (2, .int y2), (3, .int y3)] → FF = k_ThumbCoreModel_comeBack_10 q_size c_memory n c_n c_z c_c c_v c_bad c_after c_current c_reg c_active y1 y2 y3 → (tc_lp y3 8 n) → (vp_in c_current 16) → W p l e rm_ThumbCoreModel_comeBack s m ([.ref h, .int x1] : List Value).toArray below meth c H locs 0 0 Q (F0 m 10 ls []) := by
    intro n
    induction n with
    | zero =>
      intro H locs ls c_n c_z c_c c_v c_bad c_after c_current c_reg c_active y1 y2 y3 hP hD hS hl hq hinv hi_c_current
      exact (tc_lp0 hinv).elim
    | succ n_10 IH_10 =>
      have J_42 : ∀ (H : Heap) (locs : List Loc) (ls : Array Slot) (c_n : Bool) (c_z : Bool) (c_c : Bool) (c_v : Bool) (c_bad : Bool) (c_after : Int32) (c_current : Int32) (c_reg : Nat → Int32) (c_active : Nat → Bool) (y1 : Int32) (y2 : Int32) (y3 : Int32) (z1 : Bool), va_P D tcl (wd_ThumbCoreModel cI cB cZ h h_memory h_reg h_kept h_pending h_active h_priorities q_size c_n c_z c_c c_v c_keptFlags c_bad c_h c_after c_entered c_mask c_asleep c_lockup c_counts c_counter c_reload c_current c_memory c_reg c_kept c_pending c_active c_priorities) H → va_D A (wd_ThumbCoreModel cI cB cZ h h_memory h_reg h_kept h_pending h_active h_priorities q_size c_n c_z c_c c_v c_keptFlags c_bad c_h c_after c_entered c_mask c_asleep c_lockup c_counts c_counter c_reload c_current c_memory c_reg c_kept c_pending c_active c_priorities) → va_S A s.heap H locs → lv_has ls 7 [(0, .ref h), (1, .int y1), (2, .int y2), (3, .int y3)] → FF = k_ThumbCoreModel_comeBack_42 q_size c_memory (k_ThumbCoreModel_comeBack_10 q_size c_memory n_10) c_n c_z c_c c_v c_bad c_after c_current c_reg c_active y1 y2 y3 z1 → (tc_lp y3 8 (n_10 + 1)) → (y3.toInt < (8 : Nat)) → (vp_in c_current 16) → W p l e rm_ThumbCoreModel_comeBack s m ([.ref h, .int x1] : List Value).toArray below meth c H locs 0 0 Q (F0 m 42 ls [.int (bI z1), .ref h]) := by
        intro H locs ls c_n c_z c_c c_v c_bad c_after c_current c_reg c_active y1 y2 y3 z1 hP hD hS hl hq hinv hgd hi_c_current
        refine va_put (D := D) (ci := 5) (v := .int (bI z1)) (ty := .boolean) (C := R_ThumbCoreModel) (T := F_ThumbCoreModel) (N := 23) hx hb hts u_ThumbCoreModel t_ThumbCoreModel t_ThumbCoreModel_ok n_ThumbCoreModel hown hK hP hD hS 0 rfl rfl 9 (by decide) (hts _ wf_ThumbCoreModel_41) (fun _ h9 => h9) rfl (by decide +kernel) (tc_nb z1) (tc_fb z1) (Nat.le_of_ble_eq_true rfl) d_ThumbCoreModel_comeBack_42 (fun H locs hP hD hS => ?_)
        have hP : va_P D tcl (wd_ThumbCoreModel cI cB cZ h h_memory h_reg h_kept h_pending h_active h_priorities q_size c_n c_z c_c c_v c_keptFlags z1 c_h c_after c_entered c_mask c_asleep c_lockup c_counts c_counter c_reload c_current c_memory c_reg c_kept c_pending c_active c_priorities) H := hP
        have hD : va_D A (wd_ThumbCoreModel cI cB cZ h h_memory h_reg h_kept h_pending h_active h_priorities q_size c_n c_z c_c c_v c_keptFlags z1 c_h c_after c_entered c_mask c_asleep c_lockup c_counts c_counter c_reload c_current c_memory c_reg c_kept c_pending c_active c_priorities) := hD
        refine lv_iinc (k := 3) (v := (y3 + 1)) (lv' := [(3, .int (y3 + 1)), (0, .ref h), (1, .int y1), (2, .int y2)]) hx hb d_ThumbCoreModel_comeBack_45 hl rfl rfl (by decide) rfl (fun ls hl => ?_)
        refine lv_goto (tgt := 10) hx hb d_ThumbCoreModel_comeBack_48 (by decide) ?_
        exact IH_10 H locs ls c_n c_z c_c c_v z1 c_after c_current c_reg c_active y1 y2 (y3 + 1) hP hD hS (lv_sub hl [1, 2, 3, 0] rfl) hq (tc_lpS hinv hgd (by decide)) hi_c_current
      have J_37 : ∀ (H : Heap) (locs : List Loc) (ls : Array Slot) (c_n : Bool) (c_z : Bool) (c_c : Bool) (c_v : Bool) (c_bad : Bool) (c_after : Int32) (c_current : Int32) (c_reg : Nat → Int32) (c_active : Nat → Bool) (y1 : Int32) (y2 : Int32) (y3 : Int32), va_P D tcl (wd_ThumbCoreModel cI cB cZ h h_memory h_reg h_kept h_pending h_active h_priorities q_size c_n c_z c_c c_v c_keptFlags c_bad c_h c_after c_entered c_mask c_asleep c_lockup c_counts c_counter c_reload c_current c_memory c_reg c_kept c_pending c_active c_priorities) H → va_D A (wd_ThumbCoreModel cI cB cZ h h_memory h_reg h_kept h_pending h_active h_priorities q_size c_n c_z c_c c_v c_keptFlags c_bad c_h c_after c_entered c_mask c_asleep c_lockup c_counts c_counter c_reload c_current c_memory c_reg c_kept c_pending c_active c_priorities) → va_S A s.heap H locs → lv_has ls 7 [(0, .ref h), (1, .int y1), (2, .int y2), (3, .int y3)] → FF = k_ThumbCoreModel_comeBack_37 q_size c_memory (k_ThumbCoreModel_comeBack_10 q_size c_memory n_10) c_n c_z c_c c_v c_bad c_after c_current c_reg c_active y1 y2 y3 → (tc_lp y3 8 (n_10 + 1)) → (y3.toInt < (8 : Nat)) → (vp_in c_current 16) → W p l e rm_ThumbCoreModel_comeBack s m ([.ref h, .int x1] : List Value).toArray below meth c H locs 0 0 Q (F0 m 37 ls [.ref h]) := by
        intro H locs ls c_n c_z c_c c_v c_bad c_after c_current c_reg c_active y1 y2 y3 hP hD hS hl hq hinv hgd hi_c_current
        refine lv_iconst (v := 1) hx hb d_ThumbCoreModel_comeBack_37 (by decide) ?_
        refine lv_goto (tgt := 42) hx hb d_ThumbCoreModel_comeBack_38 (by decide) ?_
        exact J_42 H locs ls c_n c_z c_c c_v c_bad c_after c_current c_reg c_active y1 y2 y3 true hP hD hS (lv_sub hl [0, 1, 2, 3] rfl) hq (by assumption) (by assumption) hi_c_current
      intro H locs ls c_n c_z c_c c_v c_bad c_after c_current c_reg c_active y1 y2 y3 hP hD hS hl hq hinv hi_c_current
      refine lv_iload_n hx hb d_ThumbCoreModel_comeBack_10 rfl (lv_at hl 3 rfl) ?_
      refine lv_bipush (v := 8) hx hb d_ThumbCoreModel_comeBack_11 (by decide) ?_
      refine lv_icmp_ge (tgt := 51) hx hb d_ThumbCoreModel_comeBack_13 (by decide) (fun g_13 => ?_) (fun g_13 => ?_)
      · have hq := hq.trans (if_pos g_13)
        refine lv_aload_n hx hb d_ThumbCoreModel_comeBack_51 rfl (lv_at hl 0 rfl) ?_
        refine va_get (D := D) (ci := 5) (v := .int (bI c_bad)) (C := R_ThumbCoreModel) (T := F_ThumbCoreModel) (N := 23) hx hb hts u_ThumbCoreModel hown hK hP 0 rfl rfl 9 (by decide) (hts _ wf_ThumbCoreModel_41) (fun _ h9 => h9) rfl d_ThumbCoreModel_comeBack_52 ?_
        refine lv_if_eq (tgt := 62) hx hb d_ThumbCoreModel_comeBack_55 (by decide) (fun g_55 => ?_) (fun g_55 => ?_)
        · have hq := hq.trans (if_pos g_55)
          refine lv_aload_n hx hb d_ThumbCoreModel_comeBack_62 rfl (lv_at hl 0 rfl) ?_
          refine lv_iload_n hx hb d_ThumbCoreModel_comeBack_63 rfl (lv_at hl 2 rfl) ?_
          refine lv_bipush (v := 28) hx hb d_ThumbCoreModel_comeBack_64 (by decide) ?_
          refine lv_iadd hx hb d_ThumbCoreModel_comeBack_66 ?_
          refine lv_iconst (v := 4) hx hb d_ThumbCoreModel_comeBack_67 (by decide) ?_
          refine tc_mi (wo := fun u => (wd_ThumbCoreModel cI cB cZ h h_memory h_reg h_kept h_pending h_active h_priorities q_size c_n c_z c_c c_v c_keptFlags u.2 c_h c_after c_entered c_mask c_asleep c_lockup c_counts c_counter c_reload c_current c_memory c_reg c_kept c_pending c_active c_priorities)) (va_runV (As := [.int (y2 + 28), .int 4]) (rest := []) ⟨hx, hb, hml, hown, hts⟩ (c_ThumbCoreModel_read l D cI cB cZ h h_memory h_reg h_kept h_pending h_active h_priorities H.size q_size c_n c_z c_c c_v c_keptFlags c_bad c_h c_after c_entered c_mask c_asleep c_lockup c_counts c_counter c_reload c_current c_memory c_reg c_kept c_pending c_active c_priorities (y2 + 28) 4 hm (by decide)) (cwV 2 hts (tc_gV wl_ThumbCoreModel_45 wm_ThumbCoreModel_read ws_ThumbCoreModel_read wi_ThumbCoreModel wc_ThumbCoreModel_read) rfl rfl rfl (by decide +kernel) ⟨Nat.le_of_ble_eq_true rfl, Nat.le_of_ble_eq_true rfl⟩) (tc_preV hK hN hP hD [0, 1, 2, 3, 4, 5, 6] rfl (by decide) (q0 := 0) rfl rfl) rfl rfl hl.1 rfl (lv_room (Nat.le_of_ble_eq_true rfl)) d_ThumbCoreModel_comeBack_68 (by decide)) hP hD hS hA [0, 1, 2, 3, 4, 5, 6] [] [0, 1, 2, 3, 4, 5, 6] rfl rfl (by decide) (by decide) (by decide) (fun _ => rfl) (fun u H locs hu hP hD hS => ?_)
          obtain ⟨r1, s2⟩ := u
          have hq := hq.trans (un2_eq hu _)
          have e_r1 := hu
          have hP : va_P D tcl (wd_ThumbCoreModel cI cB cZ h h_memory h_reg h_kept h_pending h_active h_priorities q_size c_n c_z c_c c_v c_keptFlags s2 c_h c_after c_entered c_mask c_asleep c_lockup c_counts c_counter c_reload c_current c_memory c_reg c_kept c_pending c_active c_priorities) H := hP
          have hD : va_D A (wd_ThumbCoreModel cI cB cZ h h_memory h_reg h_kept h_pending h_active h_priorities q_size c_n c_z c_c c_v c_keptFlags s2 c_h c_after c_entered c_mask c_asleep c_lockup c_counts c_counter c_reload c_current c_memory c_reg c_kept c_pending c_active c_priorities) := hD
          refine W.eq (g2 := F0 m 71 ls [.int r1]) rfl ?_
          exact J_71 H locs ls c_n c_z c_c c_v s2 c_after c_current c_reg c_active y1 y2 r1 hP hD hS (lv_sub hl [0, 1, 2] rfl) hq hi_c_current
        · have hq := hq.trans (if_neg g_55)
          refine lv_iconst (v := 0) hx hb d_ThumbCoreModel_comeBack_58 (by decide) ?_
          refine lv_goto (tgt := 71) hx hb d_ThumbCoreModel_comeBack_59 (by decide) ?_
          exact J_71 H locs ls c_n c_z c_c c_v c_bad c_after c_current c_reg c_active y1 y2 0 hP hD hS (lv_sub hl [0, 1, 2] rfl) hq hi_c_current
      · have hq := hq.trans (if_neg g_13)
        have hgd : y3.toInt < ((8 : Nat) : Int) := tc_gge g_13 (by decide)
        refine lv_aload_n hx hb d_ThumbCoreModel_comeBack_16 rfl (lv_at hl 0 rfl) ?_
        refine lv_aload_n hx hb d_ThumbCoreModel_comeBack_17 rfl (lv_at hl 0 rfl) ?_
        refine va_get (D := D) (ci := 5) (v := .int (bI c_bad)) (C := R_ThumbCoreModel) (T := F_ThumbCoreModel) (N := 23) hx hb hts u_ThumbCoreModel hown hK hP 0 rfl rfl 9 (by decide) (hts _ wf_ThumbCoreModel_41) (fun _ h9 => h9) rfl d_ThumbCoreModel_comeBack_18 ?_
        refine lv_if_ne (tgt := 37) hx hb d_ThumbCoreModel_comeBack_21 (by decide) (fun g_21 => ?_) (fun g_21 => ?_)
        · have hq := hq.trans (if_pos g_21)
          exact J_37 H locs ls c_n c_z c_c c_v c_bad c_after c_current c_reg c_active y1 y2 y3 hP hD hS (lv_sub hl [0, 1, 2, 3] rfl) hq (by assumption) (by assumption) hi_c_current
        · have hq := hq.trans (if_neg (fun g => g g_21))
          refine lv_aload_n hx hb d_ThumbCoreModel_comeBack_24 rfl (lv_at hl 0 rfl) ?_
          refine lv_iload_n hx hb d_ThumbCoreModel_comeBack_25 rfl (lv_at hl 2 rfl) ?_
          refine lv_iconst (v := 4) hx hb d_ThumbCoreModel_comeBack_26 (by decide) ?_
          refine lv_iload_n hx hb d_ThumbCoreModel_comeBack_27 rfl (lv_at hl 3 rfl) ?_
          refine lv_imul hx hb d_ThumbCoreModel_comeBack_28 ?_
          refine lv_iadd hx hb d_ThumbCoreModel_comeBack_29 ?_
          refine lv_iconst (v := 4) hx hb d_ThumbCoreModel_comeBack_30 (by decide) ?_
          refine tc_rd (va_runV (As := [.int (y2 + (4 * y3)), .int 4]) (rest := [.ref h]) ⟨hx, hb, hml, hown, hts⟩ (c_ThumbCoreModel_there l D cI cB cZ h h_memory h_reg h_kept h_pending h_active h_priorities H.size q_size c_n c_z c_c c_v c_keptFlags c_bad c_h c_after c_entered c_mask c_asleep c_lockup c_counts c_counter c_reload c_current c_memory c_reg c_kept c_pending c_active c_priorities (y2 + (4 * y3)) 4 (by decide)) (cwV 2 hts (tc_gV wl_ThumbCoreModel_37 wm_ThumbCoreModel_there ws_ThumbCoreModel_there wi_ThumbCoreModel wc_ThumbCoreModel_there) rfl rfl rfl (by decide +kernel) ⟨Nat.le_of_ble_eq_true rfl, Nat.le_of_ble_eq_true rfl⟩) (tc_preV hK hN hP hD [0, 1, 2, 3, 4, 5, 6] rfl (by decide) (q0 := 0) rfl rfl) rfl rfl hl.1 rfl (lv_room (Nat.le_of_ble_eq_true rfl)) d_ThumbCoreModel_comeBack_31 (by decide)) ?_
          refine tc_topb (fun v3 e_v3 => ?_)
          have hq := tc_nm hq e_v3
          refine lv_if_ne (tgt := 41) hx hb d_ThumbCoreModel_comeBack_34 (by decide) (fun g_34 => ?_) (fun g_34 => ?_)
          · have hq := hq.trans (if_pos g_34)
            refine lv_iconst (v := 0) hx hb d_ThumbCoreModel_comeBack_41 (by decide) ?_
            exact J_42 H locs ls c_n c_z c_c c_v c_bad c_after c_current c_reg c_active y1 y2 y3 false hP hD hS (lv_sub hl [0, 1, 2, 3] rfl) hq (by assumption) (by assumption) hi_c_current
          · have hq := hq.trans (if_neg (fun g => g g_34))
            exact J_37 H locs ls c_n c_z c_c c_v c_bad c_after c_current c_reg c_active y1 y2 y3 hP hD hS (lv_sub hl [0, 1, 2, 3] rfl) hq (by assumption) (by assumption) hi_c_current
  have hq : FF = f_ThumbCoreModel_comeBack q_size c_memory c_n c_z c_c c_v c_bad c_after c_current c_reg c_active x1 := hF.symm
  revert hP hD hS
  suffices G : ∀ (H : Heap) (locs : List Loc), va_P D tcl (wd_ThumbCoreModel cI cB cZ h h_memory h_reg h_kept h_pending h_active h_priorities q_size c_n c_z c_c c_v c_keptFlags c_bad c_h c_after c_entered c_mask c_asleep c_lockup c_counts c_counter c_reload c_current c_memory c_reg c_kept c_pending c_active c_priorities) H → va_D A (wd_ThumbCoreModel cI cB cZ h h_memory h_reg h_kept h_pending h_active h_priorities q_size c_n c_z c_c c_v c_keptFlags c_bad c_h c_after c_entered c_mask c_asleep c_lockup c_counts c_counter c_reload c_current c_memory c_reg c_kept c_pending c_active c_priorities) → va_S A s.heap H locs → W p l e rm_ThumbCoreModel_comeBack s m ([.ref h, .int x1] : List Value).toArray below meth c H locs 0 0 Q (F0 m 0 ls []) from fun hP hD hS => G _ _ hP hD hS
  intro H locs hP hD hS
  refine lv_aload_n hx hb d_ThumbCoreModel_comeBack_0 rfl (lv_at hl 0 rfl) ?_
  refine va_get (D := D) (ci := 5) (v := .ref h_reg) (C := R_ThumbCoreModel) (T := F_ThumbCoreModel) (N := 23) hx hb hts u_ThumbCoreModel hown hK hP 0 rfl rfl 2 (by decide) (hts _ wf_ThumbCoreModel_13) (fun _ h9 => h9) rfl d_ThumbCoreModel_comeBack_1 ?_
  refine lv_bipush (v := 13) hx hb d_ThumbCoreModel_comeBack_4 (by decide) ?_
  refine va_iald hx hb hK hP 2 0 rfl rfl (by show ¬ (_ ∨ _); decide) d_ThumbCoreModel_comeBack_6 ?_
  refine lv_topi (fun v1 e_v1 => ?_)
  have hq := tc_nm hq e_v1
  refine lv_istore_n (lv' := [(2, .int v1), (0, .ref h), (1, .int x1)]) hx hb d_ThumbCoreModel_comeBack_7 rfl hl (by decide) rfl (fun ls hl => ?_)
  refine lv_iconst (v := 0) hx hb d_ThumbCoreModel_comeBack_8 (by decide) ?_
  refine lv_istore_n (lv' := [(3, .int 0), (2, .int v1), (0, .ref h), (1, .int x1)]) hx hb d_ThumbCoreModel_comeBack_9 rfl hl (by decide) rfl (fun ls hl => ?_)
  exact J_10 (9) H locs ls c_n c_z c_c c_v c_bad c_after c_current c_reg c_active x1 v1 0 hP hD hS (lv_sub hl [2, 3, 1, 0] rfl) hq (tc_lpE _) hi_c_current

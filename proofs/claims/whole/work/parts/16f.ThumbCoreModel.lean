abbrev rm_ThumbCoreModel_meets : Room := { frames := 1, cells := 0, slots := 0, locals := 24 }
set_option maxHeartbeats 4000000 in
set_option maxRecDepth 100000 in
theorem c_ThumbCoreModel_meets (l : Launch) (D : va_G) (cI cB cZ : ClassId) (h h_memory h_reg h_kept h_pending h_active h_priorities sz : Nat) (q_size : Int32) (c_n : Bool) (c_z : Bool) (c_c : Bool) (c_v : Bool) (c_keptFlags : Int32) (c_bad : Bool) (c_h : Int32) (c_after : Int32) (c_entered : Bool) (c_mask : Bool) (c_asleep : Bool) (c_lockup : Bool) (c_counts : Bool) (c_counter : Int32) (c_reload : Int32) (c_current : Int32) (c_memory : Nat → Int32) (c_reg : Nat → Int32) (c_kept : Nat → Int32) (c_pending : Nat → Bool) (c_active : Nat → Bool) (c_priorities : Nat → Int32) (x1 : Int32) : Met l y_ThumbCoreModel_meets (.code y_ThumbCoreModel_meets b_ThumbCoreModel_meets 3 (some .boolean) :: tcb) rm_ThumbCoreModel_meets (tc_Pw D tcl (tys cI cB cZ) (wd_ThumbCoreModel cI cB cZ h h_memory h_reg h_kept h_pending h_active h_priorities q_size c_n c_z c_c c_v c_keptFlags c_bad c_h c_after c_entered c_mask c_asleep c_lockup c_counts c_counter c_reload c_current c_memory c_reg c_kept c_pending c_active c_priorities) sz ([.ref h, .int x1] : List Value) none) (QcRead (bI (f_ThumbCoreModel_meets c_n c_z c_c c_v x1))) 0 0 (fun _ => False) := by
  refine tc_rd_z (by decide) (Nat.le_of_ble_eq_true rfl) ?_
  intro p e s m below meth c Q ls hx hb hml hts hown hK hN hP hD hl RET
  have hl : lv_has ls 3 [(0, .ref h), (1, .int x1)] := hl
  generalize hF : f_ThumbCoreModel_meets c_n c_z c_c c_v x1 = FF at RET
  have J_139 : ∀ (ls : Array Slot) (z0 : Bool) (z1 : Bool), lv_has ls 3 [] → FF = k_ThumbCoreModel_meets_139 c_n c_z c_c c_v z0 z1 → W p l e rm_ThumbCoreModel_meets s m ([.ref h, .int x1] : List Value).toArray below meth c s.heap [] 0 0 Q (F0 m 139 ls [.int (bI z1), .int (bI z0)]) := by
    intro ls z0 z1 hl hq
    refine lv_icmp_ne (tgt := 146) hx hb d_ThumbCoreModel_meets_139 (by decide) (fun g_139 => ?_) (fun g_139 => ?_)
    · have hq := hq.trans (if_pos g_139)
      refine lv_iconst (v := 0) hx hb d_ThumbCoreModel_meets_146 (by decide) ?_
      exact RET ls 147 d_ThumbCoreModel_meets_147 hq
    · have hq := hq.trans (if_neg (fun g => g g_139))
      refine lv_iconst (v := 1) hx hb d_ThumbCoreModel_meets_142 (by decide) ?_
      refine lv_goto (tgt := 147) hx hb d_ThumbCoreModel_meets_143 (by decide) ?_
      exact RET ls 147 d_ThumbCoreModel_meets_147 hq
  have J_126 : ∀ (ls : Array Slot) (y1 : Int32) (z0 : Bool), lv_has ls 3 [(1, .int y1)] → FF = k_ThumbCoreModel_meets_126 c_n c_z c_c c_v y1 z0 → W p l e rm_ThumbCoreModel_meets s m ([.ref h, .int x1] : List Value).toArray below meth c s.heap [] 0 0 Q (F0 m 126 ls [.int (bI z0)]) := by
    intro ls y1 z0 hl hq
    refine lv_istore_n (lv' := [(2, .int (bI z0)), (1, .int y1)]) hx hb d_ThumbCoreModel_meets_126 rfl hl (by decide) rfl (fun ls hl => ?_)
    refine lv_iload_n hx hb d_ThumbCoreModel_meets_127 rfl (lv_at hl 0 rfl) ?_
    refine lv_iload_n hx hb d_ThumbCoreModel_meets_128 rfl (lv_at hl 1 rfl) ?_
    refine lv_iconst (v := 2) hx hb d_ThumbCoreModel_meets_129 (by decide) ?_
    refine lv_irem hx hb d_ThumbCoreModel_meets_130 (by decide) ?_
    refine lv_if_ne (tgt := 138) hx hb d_ThumbCoreModel_meets_131 (by decide) (fun g_131 => ?_) (fun g_131 => ?_)
    · have hq := hq.trans (if_pos g_131)
      refine lv_iconst (v := 0) hx hb d_ThumbCoreModel_meets_138 (by decide) ?_
      exact J_139 ls z0 false (lv_sub hl [] rfl) hq
    · have hq := hq.trans (if_neg (fun g => g g_131))
      refine lv_iconst (v := 1) hx hb d_ThumbCoreModel_meets_134 (by decide) ?_
      refine lv_goto (tgt := 139) hx hb d_ThumbCoreModel_meets_135 (by decide) ?_
      exact J_139 ls z0 true (lv_sub hl [] rfl) hq
  have J_125 : ∀ (ls : Array Slot) (y1 : Int32), lv_has ls 3 [(1, .int y1)] → FF = k_ThumbCoreModel_meets_125 c_n c_z c_c c_v y1 → W p l e rm_ThumbCoreModel_meets s m ([.ref h, .int x1] : List Value).toArray below meth c s.heap [] 0 0 Q (F0 m 125 ls []) := by
    intro ls y1 hl hq
    refine lv_iconst (v := 0) hx hb d_ThumbCoreModel_meets_125 (by decide) ?_
    exact J_126 ls y1 false (lv_sub hl [0] rfl) hq
  have J_74 : ∀ (ls : Array Slot) (y1 : Int32), lv_has ls 3 [(1, .int y1)] → FF = k_ThumbCoreModel_meets_74 c_n c_z c_c c_v y1 → W p l e rm_ThumbCoreModel_meets s m ([.ref h, .int x1] : List Value).toArray below meth c s.heap [] 0 0 Q (F0 m 74 ls []) := by
    intro ls y1 hl hq
    refine lv_iconst (v := 0) hx hb d_ThumbCoreModel_meets_74 (by decide) ?_
    refine lv_goto (tgt := 126) hx hb d_ThumbCoreModel_meets_75 (by decide) ?_
    exact J_126 ls y1 false (lv_sub hl [0] rfl) hq
  have hq : FF = f_ThumbCoreModel_meets c_n c_z c_c c_v x1 := hF.symm
  refine lv_iload_n hx hb d_ThumbCoreModel_meets_0 rfl (lv_at hl 1 rfl) ?_
  refine lv_iconst (v := 2) hx hb d_ThumbCoreModel_meets_1 (by decide) ?_
  refine lv_icmp_ge (tgt := 12) hx hb d_ThumbCoreModel_meets_2 (by decide) (fun g_2 => ?_) (fun g_2 => ?_)
  · have hq := hq.trans (if_pos g_2)
    refine lv_iload_n hx hb d_ThumbCoreModel_meets_12 rfl (lv_at hl 1 rfl) ?_
    refine lv_iconst (v := 4) hx hb d_ThumbCoreModel_meets_13 (by decide) ?_
    refine lv_icmp_ge (tgt := 24) hx hb d_ThumbCoreModel_meets_14 (by decide) (fun g_14 => ?_) (fun g_14 => ?_)
    · have hq := hq.trans (if_pos g_14)
      refine lv_iload_n hx hb d_ThumbCoreModel_meets_24 rfl (lv_at hl 1 rfl) ?_
      refine lv_bipush (v := 6) hx hb d_ThumbCoreModel_meets_25 (by decide) ?_
      refine lv_icmp_ge (tgt := 37) hx hb d_ThumbCoreModel_meets_27 (by decide) (fun g_27 => ?_) (fun g_27 => ?_)
      · have hq := hq.trans (if_pos g_27)
        refine lv_iload_n hx hb d_ThumbCoreModel_meets_37 rfl (lv_at hl 1 rfl) ?_
        refine lv_bipush (v := 8) hx hb d_ThumbCoreModel_meets_38 (by decide) ?_
        refine lv_icmp_ge (tgt := 50) hx hb d_ThumbCoreModel_meets_40 (by decide) (fun g_40 => ?_) (fun g_40 => ?_)
        · have hq := hq.trans (if_pos g_40)
          refine lv_iload_n hx hb d_ThumbCoreModel_meets_50 rfl (lv_at hl 1 rfl) ?_
          refine lv_bipush (v := 10) hx hb d_ThumbCoreModel_meets_51 (by decide) ?_
          refine lv_icmp_ge (tgt := 78) hx hb d_ThumbCoreModel_meets_53 (by decide) (fun g_53 => ?_) (fun g_53 => ?_)
          · have hq := hq.trans (if_pos g_53)
            refine lv_iload_n hx hb d_ThumbCoreModel_meets_78 rfl (lv_at hl 1 rfl) ?_
            refine lv_bipush (v := 12) hx hb d_ThumbCoreModel_meets_79 (by decide) ?_
            refine lv_icmp_ge (tgt := 103) hx hb d_ThumbCoreModel_meets_81 (by decide) (fun g_81 => ?_) (fun g_81 => ?_)
            · have hq := hq.trans (if_pos g_81)
              refine lv_aload_n hx hb d_ThumbCoreModel_meets_103 rfl (lv_at hl 0 rfl) ?_
              refine va_get (D := D) (ci := 5) (v := .int (bI c_z)) (C := R_ThumbCoreModel) (T := F_ThumbCoreModel) (N := 23) hx hb hts u_ThumbCoreModel hown hK hP 0 rfl rfl 4 (by decide) (hts _ wf_ThumbCoreModel_77) (fun _ h9 => h9) rfl d_ThumbCoreModel_meets_104 ?_
              refine lv_if_ne (tgt := 125) hx hb d_ThumbCoreModel_meets_107 (by decide) (fun g_107 => ?_) (fun g_107 => ?_)
              · have hq := hq.trans (if_pos g_107)
                exact J_125 ls x1 (lv_sub hl [1] rfl) hq
              · have hq := hq.trans (if_neg (fun g => g g_107))
                refine lv_aload_n hx hb d_ThumbCoreModel_meets_110 rfl (lv_at hl 0 rfl) ?_
                refine va_get (D := D) (ci := 5) (v := .int (bI c_n)) (C := R_ThumbCoreModel) (T := F_ThumbCoreModel) (N := 23) hx hb hts u_ThumbCoreModel hown hK hP 0 rfl rfl 3 (by decide) (hts _ wf_ThumbCoreModel_74) (fun _ h9 => h9) rfl d_ThumbCoreModel_meets_111 ?_
                refine lv_aload_n hx hb d_ThumbCoreModel_meets_114 rfl (lv_at hl 0 rfl) ?_
                refine va_get (D := D) (ci := 5) (v := .int (bI c_v)) (C := R_ThumbCoreModel) (T := F_ThumbCoreModel) (N := 23) hx hb hts u_ThumbCoreModel hown hK hP 0 rfl rfl 6 (by decide) (hts _ wf_ThumbCoreModel_83) (fun _ h9 => h9) rfl d_ThumbCoreModel_meets_115 ?_
                refine lv_icmp_ne (tgt := 125) hx hb d_ThumbCoreModel_meets_118 (by decide) (fun g_118 => ?_) (fun g_118 => ?_)
                · have hq := hq.trans (if_pos g_118)
                  exact J_125 ls x1 (lv_sub hl [1] rfl) hq
                · have hq := hq.trans (if_neg (fun g => g g_118))
                  refine lv_iconst (v := 1) hx hb d_ThumbCoreModel_meets_121 (by decide) ?_
                  refine lv_goto (tgt := 126) hx hb d_ThumbCoreModel_meets_122 (by decide) ?_
                  exact J_126 ls x1 true (lv_sub hl [1] rfl) hq
            · have hq := hq.trans (if_neg g_81)
              refine lv_aload_n hx hb d_ThumbCoreModel_meets_84 rfl (lv_at hl 0 rfl) ?_
              refine va_get (D := D) (ci := 5) (v := .int (bI c_n)) (C := R_ThumbCoreModel) (T := F_ThumbCoreModel) (N := 23) hx hb hts u_ThumbCoreModel hown hK hP 0 rfl rfl 3 (by decide) (hts _ wf_ThumbCoreModel_74) (fun _ h9 => h9) rfl d_ThumbCoreModel_meets_85 ?_
              refine lv_aload_n hx hb d_ThumbCoreModel_meets_88 rfl (lv_at hl 0 rfl) ?_
              refine va_get (D := D) (ci := 5) (v := .int (bI c_v)) (C := R_ThumbCoreModel) (T := F_ThumbCoreModel) (N := 23) hx hb hts u_ThumbCoreModel hown hK hP 0 rfl rfl 6 (by decide) (hts _ wf_ThumbCoreModel_83) (fun _ h9 => h9) rfl d_ThumbCoreModel_meets_89 ?_
              refine lv_icmp_ne (tgt := 99) hx hb d_ThumbCoreModel_meets_92 (by decide) (fun g_92 => ?_) (fun g_92 => ?_)
              · have hq := hq.trans (if_pos g_92)
                refine lv_iconst (v := 0) hx hb d_ThumbCoreModel_meets_99 (by decide) ?_
                refine lv_goto (tgt := 126) hx hb d_ThumbCoreModel_meets_100 (by decide) ?_
                exact J_126 ls x1 false (lv_sub hl [1] rfl) hq
              · have hq := hq.trans (if_neg (fun g => g g_92))
                refine lv_iconst (v := 1) hx hb d_ThumbCoreModel_meets_95 (by decide) ?_
                refine lv_goto (tgt := 126) hx hb d_ThumbCoreModel_meets_96 (by decide) ?_
                exact J_126 ls x1 true (lv_sub hl [1] rfl) hq
          · have hq := hq.trans (if_neg g_53)
            refine lv_aload_n hx hb d_ThumbCoreModel_meets_56 rfl (lv_at hl 0 rfl) ?_
            refine va_get (D := D) (ci := 5) (v := .int (bI c_c)) (C := R_ThumbCoreModel) (T := F_ThumbCoreModel) (N := 23) hx hb hts u_ThumbCoreModel hown hK hP 0 rfl rfl 5 (by decide) (hts _ wf_ThumbCoreModel_80) (fun _ h9 => h9) rfl d_ThumbCoreModel_meets_57 ?_
            refine lv_if_eq (tgt := 74) hx hb d_ThumbCoreModel_meets_60 (by decide) (fun g_60 => ?_) (fun g_60 => ?_)
            · have hq := hq.trans (if_pos g_60)
              exact J_74 ls x1 (lv_sub hl [1] rfl) hq
            · have hq := hq.trans (if_neg g_60)
              refine lv_aload_n hx hb d_ThumbCoreModel_meets_63 rfl (lv_at hl 0 rfl) ?_
              refine va_get (D := D) (ci := 5) (v := .int (bI c_z)) (C := R_ThumbCoreModel) (T := F_ThumbCoreModel) (N := 23) hx hb hts u_ThumbCoreModel hown hK hP 0 rfl rfl 4 (by decide) (hts _ wf_ThumbCoreModel_77) (fun _ h9 => h9) rfl d_ThumbCoreModel_meets_64 ?_
              refine lv_if_ne (tgt := 74) hx hb d_ThumbCoreModel_meets_67 (by decide) (fun g_67 => ?_) (fun g_67 => ?_)
              · have hq := hq.trans (if_pos g_67)
                exact J_74 ls x1 (lv_sub hl [1] rfl) hq
              · have hq := hq.trans (if_neg (fun g => g g_67))
                refine lv_iconst (v := 1) hx hb d_ThumbCoreModel_meets_70 (by decide) ?_
                refine lv_goto (tgt := 126) hx hb d_ThumbCoreModel_meets_71 (by decide) ?_
                exact J_126 ls x1 true (lv_sub hl [1] rfl) hq
        · have hq := hq.trans (if_neg g_40)
          refine lv_aload_n hx hb d_ThumbCoreModel_meets_43 rfl (lv_at hl 0 rfl) ?_
          refine va_get (D := D) (ci := 5) (v := .int (bI c_v)) (C := R_ThumbCoreModel) (T := F_ThumbCoreModel) (N := 23) hx hb hts u_ThumbCoreModel hown hK hP 0 rfl rfl 6 (by decide) (hts _ wf_ThumbCoreModel_83) (fun _ h9 => h9) rfl d_ThumbCoreModel_meets_44 ?_
          refine lv_goto (tgt := 126) hx hb d_ThumbCoreModel_meets_47 (by decide) ?_
          exact J_126 ls x1 c_v (lv_sub hl [1] rfl) hq
      · have hq := hq.trans (if_neg g_27)
        refine lv_aload_n hx hb d_ThumbCoreModel_meets_30 rfl (lv_at hl 0 rfl) ?_
        refine va_get (D := D) (ci := 5) (v := .int (bI c_n)) (C := R_ThumbCoreModel) (T := F_ThumbCoreModel) (N := 23) hx hb hts u_ThumbCoreModel hown hK hP 0 rfl rfl 3 (by decide) (hts _ wf_ThumbCoreModel_74) (fun _ h9 => h9) rfl d_ThumbCoreModel_meets_31 ?_
        refine lv_goto (tgt := 126) hx hb d_ThumbCoreModel_meets_34 (by decide) ?_
        exact J_126 ls x1 c_n (lv_sub hl [1] rfl) hq
    · have hq := hq.trans (if_neg g_14)
      refine lv_aload_n hx hb d_ThumbCoreModel_meets_17 rfl (lv_at hl 0 rfl) ?_
      refine va_get (D := D) (ci := 5) (v := .int (bI c_c)) (C := R_ThumbCoreModel) (T := F_ThumbCoreModel) (N := 23) hx hb hts u_ThumbCoreModel hown hK hP 0 rfl rfl 5 (by decide) (hts _ wf_ThumbCoreModel_80) (fun _ h9 => h9) rfl d_ThumbCoreModel_meets_18 ?_
      refine lv_goto (tgt := 126) hx hb d_ThumbCoreModel_meets_21 (by decide) ?_
      exact J_126 ls x1 c_c (lv_sub hl [1] rfl) hq
  · have hq := hq.trans (if_neg g_2)
    refine lv_aload_n hx hb d_ThumbCoreModel_meets_5 rfl (lv_at hl 0 rfl) ?_
    refine va_get (D := D) (ci := 5) (v := .int (bI c_z)) (C := R_ThumbCoreModel) (T := F_ThumbCoreModel) (N := 23) hx hb hts u_ThumbCoreModel hown hK hP 0 rfl rfl 4 (by decide) (hts _ wf_ThumbCoreModel_77) (fun _ h9 => h9) rfl d_ThumbCoreModel_meets_6 ?_
    refine lv_goto (tgt := 126) hx hb d_ThumbCoreModel_meets_9 (by decide) ?_
    exact J_126 ls x1 c_z (lv_sub hl [1] rfl) hq
abbrev rm_ThumbCoreModel_branch : Room := { frames := 4, cells := 0, slots := 0, locals := 98 }
set_option maxHeartbeats 4000000 in
set_option maxRecDepth 100000 in
theorem c_ThumbCoreModel_branch (l : Launch) (D : va_G) (cI cB cZ : ClassId) (h h_memory h_reg h_kept h_pending h_active h_priorities sz : Nat) (q_size : Int32) (c_n : Bool) (c_z : Bool) (c_c : Bool) (c_v : Bool) (c_keptFlags : Int32) (c_bad : Bool) (c_h : Int32) (c_after : Int32) (c_entered : Bool) (c_mask : Bool) (c_asleep : Bool) (c_lockup : Bool) (c_counts : Bool) (c_counter : Int32) (c_reload : Int32) (c_current : Int32) (c_memory : Nat → Int32) (c_reg : Nat → Int32) (c_kept : Nat → Int32) (c_pending : Nat → Bool) (c_active : Nat → Bool) (c_priorities : Nat → Int32) (hm : tc_memR q_size) : Met l y_ThumbCoreModel_branch (.code y_ThumbCoreModel_branch b_ThumbCoreModel_branch 2 none :: tcb) rm_ThumbCoreModel_branch (tc_Pw D tcl (tys cI cB cZ) (wd_ThumbCoreModel cI cB cZ h h_memory h_reg h_kept h_pending h_active h_priorities q_size c_n c_z c_c c_v c_keptFlags c_bad c_h c_after c_entered c_mask c_asleep c_lockup c_counts c_counter c_reload c_current c_memory c_reg c_kept c_pending c_active c_priorities) sz ([.ref h] : List Value) none) (tc_Qv D tcl (wd_ThumbCoreModel cI cB cZ h h_memory h_reg h_kept h_pending h_active h_priorities q_size c_n c_z c_c c_v c_keptFlags c_bad c_h c_after c_entered c_mask c_asleep c_lockup c_counts c_counter c_reload c_current c_memory c_reg c_kept c_pending c_active c_priorities) sz (fun u => (wd_ThumbCoreModel cI cB cZ h h_memory h_reg h_kept h_pending h_active h_priorities q_size c_n c_z c_c c_v c_keptFlags u.1 c_h u.2.1 u.2.2.1 c_mask c_asleep u.2.2.2.1 c_counts c_counter c_reload u.2.2.2.2.1 u.2.2.2.2.2.1 u.2.2.2.2.2.2.1 c_kept u.2.2.2.2.2.2.2.1 u.2.2.2.2.2.2.2.2 c_priorities)) (f_ThumbCoreModel_branch q_size c_n c_z c_c c_v c_h c_mask c_priorities c_bad c_after c_entered c_lockup c_current c_memory c_reg c_pending c_active)) 0 0 (va_A (wd_ThumbCoreModel cI cB cZ h h_memory h_reg h_kept h_pending h_active h_priorities q_size c_n c_z c_c c_v c_keptFlags c_bad c_h c_after c_entered c_mask c_asleep c_lockup c_counts c_counter c_reload c_current c_memory c_reg c_kept c_pending c_active c_priorities) sz) := by
  refine tc_mu_v (by decide) (Nat.le_of_ble_eq_true rfl) ?_
  intro p e s m below meth c A Q ls hx hb hml hts hown hK hN hP hD hA hZ hl RET
  have hS : va_S A s.heap s.heap [] := va_S.rf
  have hl : lv_has ls 2 [(0, .ref h)] := hl
  generalize hF : f_ThumbCoreModel_branch q_size c_n c_z c_c c_v c_h c_mask c_priorities c_bad c_after c_entered c_lockup c_current c_memory c_reg c_pending c_active = FF at RET
  have J_83 : ∀ (H : Heap) (locs : List Loc) (ls : Array Slot) (c_bad : Bool) (c_after : Int32) (c_entered : Bool) (c_lockup : Bool) (c_current : Int32) (c_memory : Nat → Int32) (c_reg : Nat → Int32) (c_pending : Nat → Bool) (c_active : Nat → Bool) (z1 : Bool), va_P D tcl (wd_ThumbCoreModel cI cB cZ h h_memory h_reg h_kept h_pending h_active h_priorities q_size c_n c_z c_c c_v c_keptFlags c_bad c_h c_after c_entered c_mask c_asleep c_lockup c_counts c_counter c_reload c_current c_memory c_reg c_kept c_pending c_active c_priorities) H → va_D A (wd_ThumbCoreModel cI cB cZ h h_memory h_reg h_kept h_pending h_active h_priorities q_size c_n c_z c_c c_v c_keptFlags c_bad c_h c_after c_entered c_mask c_asleep c_lockup c_counts c_counter c_reload c_current c_memory c_reg c_kept c_pending c_active c_priorities) → va_S A s.heap H locs → lv_has ls 2 [(0, .ref h)] → FF = k_ThumbCoreModel_branch_83 q_size c_n c_z c_c c_v c_h c_mask c_priorities c_bad c_after c_entered c_lockup c_current c_memory c_reg c_pending c_active z1 → W p l e rm_ThumbCoreModel_branch s m ([.ref h] : List Value).toArray below meth c H locs 0 0 Q (F0 m 83 ls [.int (bI z1), .ref h]) := by
    intro H locs ls c_bad c_after c_entered c_lockup c_current c_memory c_reg c_pending c_active z1 hP hD hS hl hq
    refine va_put (D := D) (ci := 5) (v := .int (bI z1)) (ty := .boolean) (C := R_ThumbCoreModel) (T := F_ThumbCoreModel) (N := 23) hx hb hts u_ThumbCoreModel t_ThumbCoreModel t_ThumbCoreModel_ok n_ThumbCoreModel hown hK hP hD hS 0 rfl rfl 9 (by decide) (hts _ wf_ThumbCoreModel_41) (fun _ h9 => h9) rfl (by decide +kernel) (tc_nb z1) (tc_fb z1) (Nat.le_of_ble_eq_true rfl) d_ThumbCoreModel_branch_83 (fun H locs hP hD hS => ?_)
    have hP : va_P D tcl (wd_ThumbCoreModel cI cB cZ h h_memory h_reg h_kept h_pending h_active h_priorities q_size c_n c_z c_c c_v c_keptFlags z1 c_h c_after c_entered c_mask c_asleep c_lockup c_counts c_counter c_reload c_current c_memory c_reg c_kept c_pending c_active c_priorities) H := hP
    have hD : va_D A (wd_ThumbCoreModel cI cB cZ h h_memory h_reg h_kept h_pending h_active h_priorities q_size c_n c_z c_c c_v c_keptFlags z1 c_h c_after c_entered c_mask c_asleep c_lockup c_counts c_counter c_reload c_current c_memory c_reg c_kept c_pending c_active c_priorities) := hD
    refine lv_aload_n hx hb d_ThumbCoreModel_branch_86 rfl (lv_at hl 0 rfl) ?_
    refine va_get (D := D) (ci := 5) (v := .int (bI z1)) (C := R_ThumbCoreModel) (T := F_ThumbCoreModel) (N := 23) hx hb hts u_ThumbCoreModel hown hK hP 0 rfl rfl 9 (by decide) (hts _ wf_ThumbCoreModel_41) (fun _ h9 => h9) rfl d_ThumbCoreModel_branch_87 ?_
    refine lv_if_ne (tgt := 108) hx hb d_ThumbCoreModel_branch_90 (by decide) (fun g_90 => ?_) (fun g_90 => ?_)
    · have hq := hq.trans (if_pos g_90)
      exact RET H locs ls 108 (z1, c_after, c_entered, c_lockup, c_current, c_memory, c_reg, c_pending, c_active) d_ThumbCoreModel_branch_108 hP hD hS hq
    · have hq := hq.trans (if_neg (fun g => g g_90))
      refine lv_aload_n hx hb d_ThumbCoreModel_branch_93 rfl (lv_at hl 0 rfl) ?_
      refine lv_iconst (v := 1) hx hb d_ThumbCoreModel_branch_94 (by decide) ?_
      refine va_put (D := D) (ci := 5) (v := .int (bI true)) (ty := .boolean) (C := R_ThumbCoreModel) (T := F_ThumbCoreModel) (N := 23) hx hb hts u_ThumbCoreModel t_ThumbCoreModel t_ThumbCoreModel_ok n_ThumbCoreModel hown hK hP hD hS 0 rfl rfl 12 (by decide) (hts _ wf_ThumbCoreModel_167) (fun _ h9 => h9) rfl (by decide +kernel) (tc_nb true) (tc_fb true) (Nat.le_of_ble_eq_true rfl) d_ThumbCoreModel_branch_95 (fun H locs hP hD hS => ?_)
      have hP : va_P D tcl (wd_ThumbCoreModel cI cB cZ h h_memory h_reg h_kept h_pending h_active h_priorities q_size c_n c_z c_c c_v c_keptFlags z1 c_h c_after true c_mask c_asleep c_lockup c_counts c_counter c_reload c_current c_memory c_reg c_kept c_pending c_active c_priorities) H := hP
      have hD : va_D A (wd_ThumbCoreModel cI cB cZ h h_memory h_reg h_kept h_pending h_active h_priorities q_size c_n c_z c_c c_v c_keptFlags z1 c_h c_after true c_mask c_asleep c_lockup c_counts c_counter c_reload c_current c_memory c_reg c_kept c_pending c_active c_priorities) := hD
      refine lv_aload_n hx hb d_ThumbCoreModel_branch_98 rfl (lv_at hl 0 rfl) ?_
      refine lv_bipush (v := 11) hx hb d_ThumbCoreModel_branch_99 (by decide) ?_
      refine lv_aload_n hx hb d_ThumbCoreModel_branch_101 rfl (lv_at hl 0 rfl) ?_
      refine va_get (D := D) (ci := 5) (v := .int c_after) (C := R_ThumbCoreModel) (T := F_ThumbCoreModel) (N := 23) hx hb hts u_ThumbCoreModel hown hK hP 0 rfl rfl 11 (by decide) (hts _ wf_ThumbCoreModel_115) (fun _ h9 => h9) rfl d_ThumbCoreModel_branch_102 ?_
      refine tc_mv (wo := fun u => (wd_ThumbCoreModel cI cB cZ h h_memory h_reg h_kept h_pending h_active h_priorities q_size c_n c_z c_c c_v c_keptFlags u.1 c_h c_after true c_mask c_asleep u.2.1 c_counts c_counter c_reload u.2.2.1 u.2.2.2.1 u.2.2.2.2.1 c_kept u.2.2.2.2.2.1 u.2.2.2.2.2.2 c_priorities)) (va_runV (As := [.int 11, .int c_after]) (rest := []) ⟨hx, hb, hml, hown, hts⟩ (c_ThumbCoreModel_enter l D cI cB cZ h h_memory h_reg h_kept h_pending h_active h_priorities H.size q_size c_n c_z c_c c_v c_keptFlags z1 c_h c_after true c_mask c_asleep c_lockup c_counts c_counter c_reload c_current c_memory c_reg c_kept c_pending c_active c_priorities 11 c_after hm (by show ¬ (_ ∨ _); decide)) (cwV 2 hts (tc_gV wl_ThumbCoreModel_111 wm_ThumbCoreModel_enter ws_ThumbCoreModel_enter wi_ThumbCoreModel wc_ThumbCoreModel_enter) rfl rfl rfl (by decide +kernel) ⟨Nat.le_of_ble_eq_true rfl, Nat.le_of_ble_eq_true rfl⟩) (tc_preV hK hN hP hD [0, 1, 2, 3, 4, 5, 6] rfl (by decide) (q0 := 0) rfl rfl) rfl rfl hl.1 rfl (lv_room (Nat.le_of_ble_eq_true rfl)) d_ThumbCoreModel_branch_105 (by decide)) hP hD hS hA [0, 1, 2, 3, 4, 5, 6] [] [0, 1, 2, 3, 4, 5, 6] rfl rfl (by decide) (by decide) (by decide) (fun _ => rfl) (fun u H locs hu hP hD hS => ?_)
      obtain ⟨s1, s2, s3, s4, s5, s6, s7⟩ := u
      have hq := hq.trans (un7_eq hu _)
      have e_s1 := hu
      have hP : va_P D tcl (wd_ThumbCoreModel cI cB cZ h h_memory h_reg h_kept h_pending h_active h_priorities q_size c_n c_z c_c c_v c_keptFlags s1 c_h c_after true c_mask c_asleep s2 c_counts c_counter c_reload s3 s4 s5 c_kept s6 s7 c_priorities) H := hP
      have hD : va_D A (wd_ThumbCoreModel cI cB cZ h h_memory h_reg h_kept h_pending h_active h_priorities q_size c_n c_z c_c c_v c_keptFlags s1 c_h c_after true c_mask c_asleep s2 c_counts c_counter c_reload s3 s4 s5 c_kept s6 s7 c_priorities) := hD
      exact RET H locs ls 108 (s1, c_after, true, s2, s3, s4, s5, s6, s7) d_ThumbCoreModel_branch_108 hP hD hS hq
  have J_78 : ∀ (H : Heap) (locs : List Loc) (ls : Array Slot) (c_bad : Bool) (c_after : Int32) (c_entered : Bool) (c_lockup : Bool) (c_current : Int32) (c_memory : Nat → Int32) (c_reg : Nat → Int32) (c_pending : Nat → Bool) (c_active : Nat → Bool), va_P D tcl (wd_ThumbCoreModel cI cB cZ h h_memory h_reg h_kept h_pending h_active h_priorities q_size c_n c_z c_c c_v c_keptFlags c_bad c_h c_after c_entered c_mask c_asleep c_lockup c_counts c_counter c_reload c_current c_memory c_reg c_kept c_pending c_active c_priorities) H → va_D A (wd_ThumbCoreModel cI cB cZ h h_memory h_reg h_kept h_pending h_active h_priorities q_size c_n c_z c_c c_v c_keptFlags c_bad c_h c_after c_entered c_mask c_asleep c_lockup c_counts c_counter c_reload c_current c_memory c_reg c_kept c_pending c_active c_priorities) → va_S A s.heap H locs → lv_has ls 2 [(0, .ref h)] → FF = k_ThumbCoreModel_branch_78 q_size c_n c_z c_c c_v c_h c_mask c_priorities c_bad c_after c_entered c_lockup c_current c_memory c_reg c_pending c_active → W p l e rm_ThumbCoreModel_branch s m ([.ref h] : List Value).toArray below meth c H locs 0 0 Q (F0 m 78 ls [.ref h]) := by
    intro H locs ls c_bad c_after c_entered c_lockup c_current c_memory c_reg c_pending c_active hP hD hS hl hq
    refine lv_iconst (v := 1) hx hb d_ThumbCoreModel_branch_78 (by decide) ?_
    refine lv_goto (tgt := 83) hx hb d_ThumbCoreModel_branch_79 (by decide) ?_
    exact J_83 H locs ls c_bad c_after c_entered c_lockup c_current c_memory c_reg c_pending c_active true hP hD hS (lv_sub hl [0] rfl) hq
  have J_50 : ∀ (H : Heap) (locs : List Loc) (ls : Array Slot) (c_bad : Bool) (c_after : Int32) (c_entered : Bool) (c_lockup : Bool) (c_current : Int32) (c_memory : Nat → Int32) (c_reg : Nat → Int32) (c_pending : Nat → Bool) (c_active : Nat → Bool) (z1 : Int32), va_P D tcl (wd_ThumbCoreModel cI cB cZ h h_memory h_reg h_kept h_pending h_active h_priorities q_size c_n c_z c_c c_v c_keptFlags c_bad c_h c_after c_entered c_mask c_asleep c_lockup c_counts c_counter c_reload c_current c_memory c_reg c_kept c_pending c_active c_priorities) H → va_D A (wd_ThumbCoreModel cI cB cZ h h_memory h_reg h_kept h_pending h_active h_priorities q_size c_n c_z c_c c_v c_keptFlags c_bad c_h c_after c_entered c_mask c_asleep c_lockup c_counts c_counter c_reload c_current c_memory c_reg c_kept c_pending c_active c_priorities) → va_S A s.heap H locs → lv_has ls 2 [] → FF = k_ThumbCoreModel_branch_50 q_size c_n c_z c_c c_v c_h c_mask c_priorities c_bad c_after c_entered c_lockup c_current c_memory c_reg c_pending c_active z1 → W p l e rm_ThumbCoreModel_branch s m ([.ref h] : List Value).toArray below meth c H locs 0 0 Q (F0 m 50 ls [.int z1, .ref h]) := by
    intro H locs ls c_bad c_after c_entered c_lockup c_current c_memory c_reg c_pending c_active z1 hP hD hS hl hq
    refine va_put (D := D) (ci := 5) (v := .int z1) (ty := .int) (C := R_ThumbCoreModel) (T := F_ThumbCoreModel) (N := 23) hx hb hts u_ThumbCoreModel t_ThumbCoreModel t_ThumbCoreModel_ok n_ThumbCoreModel hown hK hP hD hS 0 rfl rfl 11 (by decide) (hts _ wf_ThumbCoreModel_115) (fun _ h9 => h9) rfl (by decide +kernel) rfl rfl (Nat.le_of_ble_eq_true rfl) d_ThumbCoreModel_branch_50 (fun H locs hP hD hS => ?_)
    have hP : va_P D tcl (wd_ThumbCoreModel cI cB cZ h h_memory h_reg h_kept h_pending h_active h_priorities q_size c_n c_z c_c c_v c_keptFlags c_bad c_h z1 c_entered c_mask c_asleep c_lockup c_counts c_counter c_reload c_current c_memory c_reg c_kept c_pending c_active c_priorities) H := hP
    have hD : va_D A (wd_ThumbCoreModel cI cB cZ h h_memory h_reg h_kept h_pending h_active h_priorities q_size c_n c_z c_c c_v c_keptFlags c_bad c_h z1 c_entered c_mask c_asleep c_lockup c_counts c_counter c_reload c_current c_memory c_reg c_kept c_pending c_active c_priorities) := hD
    refine lv_goto (tgt := 108) hx hb d_ThumbCoreModel_branch_53 (by decide) ?_
    exact RET H locs ls 108 (c_bad, z1, c_entered, c_lockup, c_current, c_memory, c_reg, c_pending, c_active) d_ThumbCoreModel_branch_108 hP hD hS hq
  have hq : FF = f_ThumbCoreModel_branch q_size c_n c_z c_c c_v c_h c_mask c_priorities c_bad c_after c_entered c_lockup c_current c_memory c_reg c_pending c_active := hF.symm
  revert hP hD hS
  suffices G : ∀ (H : Heap) (locs : List Loc), va_P D tcl (wd_ThumbCoreModel cI cB cZ h h_memory h_reg h_kept h_pending h_active h_priorities q_size c_n c_z c_c c_v c_keptFlags c_bad c_h c_after c_entered c_mask c_asleep c_lockup c_counts c_counter c_reload c_current c_memory c_reg c_kept c_pending c_active c_priorities) H → va_D A (wd_ThumbCoreModel cI cB cZ h h_memory h_reg h_kept h_pending h_active h_priorities q_size c_n c_z c_c c_v c_keptFlags c_bad c_h c_after c_entered c_mask c_asleep c_lockup c_counts c_counter c_reload c_current c_memory c_reg c_kept c_pending c_active c_priorities) → va_S A s.heap H locs → W p l e rm_ThumbCoreModel_branch s m ([.ref h] : List Value).toArray below meth c H locs 0 0 Q (F0 m 0 ls []) from fun hP hD hS => G _ _ hP hD hS
  intro H locs hP hD hS
  refine lv_aload_n hx hb d_ThumbCoreModel_branch_0 rfl (lv_at hl 0 rfl) ?_
  refine va_get (D := D) (ci := 5) (v := .int c_h) (C := R_ThumbCoreModel) (T := F_ThumbCoreModel) (N := 23) hx hb hts u_ThumbCoreModel hown hK hP 0 rfl rfl 10 (by decide) (hts _ wf_ThumbCoreModel_125) (fun _ h9 => h9) rfl d_ThumbCoreModel_branch_1 ?_
  refine lv_bipush (v := 8) hx hb d_ThumbCoreModel_branch_4 (by decide) ?_
  refine lv_ishr hx hb d_ThumbCoreModel_branch_6 ?_
  refine lv_bipush (v := 15) hx hb d_ThumbCoreModel_branch_7 (by decide) ?_
  refine lv_iand hx hb d_ThumbCoreModel_branch_9 ?_
  refine lv_topi (fun v1 e_v1 => ?_)
  have hq := tc_nm hq e_v1
  refine lv_istore_n (lv' := [(1, .int v1), (0, .ref h)]) hx hb d_ThumbCoreModel_branch_10 rfl hl (by decide) rfl (fun ls hl => ?_)
  refine lv_iload_n hx hb d_ThumbCoreModel_branch_11 rfl (lv_at hl 0 rfl) ?_
  refine lv_bipush (v := 14) hx hb d_ThumbCoreModel_branch_12 (by decide) ?_
  refine lv_icmp_ge (tgt := 56) hx hb d_ThumbCoreModel_branch_14 (by decide) (fun g_14 => ?_) (fun g_14 => ?_)
  · have hq := hq.trans (if_pos g_14)
    refine lv_aload_n hx hb d_ThumbCoreModel_branch_56 rfl (lv_at hl 1 rfl) ?_
    refine lv_iload_n hx hb d_ThumbCoreModel_branch_57 rfl (lv_at hl 0 rfl) ?_
    refine lv_bipush (v := 14) hx hb d_ThumbCoreModel_branch_58 (by decide) ?_
    refine lv_icmp_eq (tgt := 78) hx hb d_ThumbCoreModel_branch_60 (by decide) (fun g_60 => ?_) (fun g_60 => ?_)
    · have hq := hq.trans (if_pos g_60)
      exact J_78 H locs ls c_bad c_after c_entered c_lockup c_current c_memory c_reg c_pending c_active hP hD hS (lv_sub hl [1] rfl) hq
    · have hq := hq.trans (if_neg g_60)
      refine lv_aload_n hx hb d_ThumbCoreModel_branch_63 rfl (lv_at hl 1 rfl) ?_
      refine va_get (D := D) (ci := 5) (v := .ref h_priorities) (C := R_ThumbCoreModel) (T := F_ThumbCoreModel) (N := 23) hx hb hts u_ThumbCoreModel hown hK hP 0 rfl rfl 22 (by decide) (hts _ wf_ThumbCoreModel_27) (fun _ h9 => h9) rfl d_ThumbCoreModel_branch_64 ?_
      refine lv_bipush (v := 11) hx hb d_ThumbCoreModel_branch_67 (by decide) ?_
      refine va_iald hx hb hK hP 6 0 rfl rfl (by show ¬ (_ ∨ _); decide) d_ThumbCoreModel_branch_69 ?_
      refine lv_aload_n hx hb d_ThumbCoreModel_branch_70 rfl (lv_at hl 1 rfl) ?_
      refine lv_iconst (v := 1) hx hb d_ThumbCoreModel_branch_71 (by decide) ?_
      refine tc_rd (va_runV (As := [.int (bI true)]) (rest := [.int (c_priorities (11 : Int32).toNatClampNeg), .ref h]) ⟨hx, hb, hml, hown, hts⟩ (c_ThumbCoreModel_present l D cI cB cZ h h_memory h_reg h_kept h_pending h_active h_priorities H.size q_size c_n c_z c_c c_v c_keptFlags c_bad c_h c_after c_entered c_mask c_asleep c_lockup c_counts c_counter c_reload c_current c_memory c_reg c_kept c_pending c_active c_priorities true) (cwV 1 hts (tc_gV wl_ThumbCoreModel_107 wm_ThumbCoreModel_present ws_ThumbCoreModel_present wi_ThumbCoreModel wc_ThumbCoreModel_present) rfl rfl rfl (by decide +kernel) ⟨Nat.le_of_ble_eq_true rfl, Nat.le_of_ble_eq_true rfl⟩) (tc_preV hK hN hP hD [0, 1, 2, 3, 4, 5, 6] rfl (by decide) (q0 := 0) rfl rfl) rfl rfl hl.1 rfl (lv_room (Nat.le_of_ble_eq_true rfl)) d_ThumbCoreModel_branch_72 (by decide)) ?_
      refine lv_topi (fun v2 e_v2 => ?_)
      have hq := tc_nm hq e_v2
      refine lv_icmp_lt (tgt := 82) hx hb d_ThumbCoreModel_branch_75 (by decide) (fun g_75 => ?_) (fun g_75 => ?_)
      · have hq := hq.trans (if_pos g_75)
        refine lv_iconst (v := 0) hx hb d_ThumbCoreModel_branch_82 (by decide) ?_
        exact J_83 H locs ls c_bad c_after c_entered c_lockup c_current c_memory c_reg c_pending c_active false hP hD hS (lv_sub hl [1] rfl) hq
      · have hq := hq.trans (if_neg g_75)
        exact J_78 H locs ls c_bad c_after c_entered c_lockup c_current c_memory c_reg c_pending c_active hP hD hS (lv_sub hl [1] rfl) hq
  · have hq := hq.trans (if_neg g_14)
    refine lv_aload_n hx hb d_ThumbCoreModel_branch_17 rfl (lv_at hl 1 rfl) ?_
    refine lv_aload_n hx hb d_ThumbCoreModel_branch_18 rfl (lv_at hl 1 rfl) ?_
    refine lv_iload_n hx hb d_ThumbCoreModel_branch_19 rfl (lv_at hl 0 rfl) ?_
    refine tc_rd (va_runV (As := [.int v1]) (rest := [.ref h]) ⟨hx, hb, hml, hown, hts⟩ (c_ThumbCoreModel_meets l D cI cB cZ h h_memory h_reg h_kept h_pending h_active h_priorities H.size q_size c_n c_z c_c c_v c_keptFlags c_bad c_h c_after c_entered c_mask c_asleep c_lockup c_counts c_counter c_reload c_current c_memory c_reg c_kept c_pending c_active c_priorities v1) (cwV 1 hts (tc_gV wl_ThumbCoreModel_164 wm_ThumbCoreModel_meets ws_ThumbCoreModel_meets wi_ThumbCoreModel wc_ThumbCoreModel_meets) rfl rfl rfl (by decide +kernel) ⟨Nat.le_of_ble_eq_true rfl, Nat.le_of_ble_eq_true rfl⟩) (tc_preV hK hN hP hD [0, 1, 2, 3, 4, 5, 6] rfl (by decide) (q0 := 0) rfl rfl) rfl rfl hl.1 rfl (lv_room (Nat.le_of_ble_eq_true rfl)) d_ThumbCoreModel_branch_20 (by decide)) ?_
    refine tc_topb (fun v3 e_v3 => ?_)
    have hq := tc_nm hq e_v3
    refine lv_if_eq (tgt := 46) hx hb d_ThumbCoreModel_branch_23 (by decide) (fun g_23 => ?_) (fun g_23 => ?_)
    · have hq := hq.trans (if_pos g_23)
      refine lv_aload_n hx hb d_ThumbCoreModel_branch_46 rfl (lv_at hl 1 rfl) ?_
      refine va_get (D := D) (ci := 5) (v := .int c_after) (C := R_ThumbCoreModel) (T := F_ThumbCoreModel) (N := 23) hx hb hts u_ThumbCoreModel hown hK hP 0 rfl rfl 11 (by decide) (hts _ wf_ThumbCoreModel_115) (fun _ h9 => h9) rfl d_ThumbCoreModel_branch_47 ?_
      exact J_50 H locs ls c_bad c_after c_entered c_lockup c_current c_memory c_reg c_pending c_active c_after hP hD hS (lv_sub hl [] rfl) hq
    · have hq := hq.trans (if_neg g_23)
      refine lv_aload_n hx hb d_ThumbCoreModel_branch_26 rfl (lv_at hl 1 rfl) ?_
      refine va_get (D := D) (ci := 5) (v := .ref h_reg) (C := R_ThumbCoreModel) (T := F_ThumbCoreModel) (N := 23) hx hb hts u_ThumbCoreModel hown hK hP 0 rfl rfl 2 (by decide) (hts _ wf_ThumbCoreModel_13) (fun _ h9 => h9) rfl d_ThumbCoreModel_branch_27 ?_
      refine lv_bipush (v := 15) hx hb d_ThumbCoreModel_branch_30 (by decide) ?_
      refine va_iald hx hb hK hP 2 0 rfl rfl (by show ¬ (_ ∨ _); decide) d_ThumbCoreModel_branch_32 ?_
      refine lv_iconst (v := 4) hx hb d_ThumbCoreModel_branch_33 (by decide) ?_
      refine lv_iadd hx hb d_ThumbCoreModel_branch_34 ?_
      refine lv_iconst (v := 2) hx hb d_ThumbCoreModel_branch_35 (by decide) ?_
      refine lv_aload_n hx hb d_ThumbCoreModel_branch_36 rfl (lv_at hl 1 rfl) ?_
      refine va_get (D := D) (ci := 5) (v := .int c_h) (C := R_ThumbCoreModel) (T := F_ThumbCoreModel) (N := 23) hx hb hts u_ThumbCoreModel hown hK hP 0 rfl rfl 10 (by decide) (hts _ wf_ThumbCoreModel_125) (fun _ h9 => h9) rfl d_ThumbCoreModel_branch_37 ?_
      refine lv_i2b (v := c_h.toInt8.toInt32) hx hb d_ThumbCoreModel_branch_40 rfl ?_
      refine lv_imul hx hb d_ThumbCoreModel_branch_41 ?_
      refine lv_iadd hx hb d_ThumbCoreModel_branch_42 ?_
      refine lv_goto (tgt := 50) hx hb d_ThumbCoreModel_branch_43 (by decide) ?_
      exact J_50 H locs ls c_bad c_after c_entered c_lockup c_current c_memory c_reg c_pending c_active (((c_reg (15 : Int32).toNatClampNeg) + 4) + (2 * c_h.toInt8.toInt32)) hP hD hS (lv_sub hl [] rfl) hq
abbrev rm_ThumbCoreModel_far : Room := { frames := 3, cells := 0, slots := 0, locals := 70 }
set_option maxHeartbeats 4000000 in
set_option maxRecDepth 100000 in
theorem c_ThumbCoreModel_far (l : Launch) (D : va_G) (cI cB cZ : ClassId) (h h_memory h_reg h_kept h_pending h_active h_priorities sz : Nat) (q_size : Int32) (c_n : Bool) (c_z : Bool) (c_c : Bool) (c_v : Bool) (c_keptFlags : Int32) (c_bad : Bool) (c_h : Int32) (c_after : Int32) (c_entered : Bool) (c_mask : Bool) (c_asleep : Bool) (c_lockup : Bool) (c_counts : Bool) (c_counter : Int32) (c_reload : Int32) (c_current : Int32) (c_memory : Nat → Int32) (c_reg : Nat → Int32) (c_kept : Nat → Int32) (c_pending : Nat → Bool) (c_active : Nat → Bool) (c_priorities : Nat → Int32) (hm : tc_memR q_size) : Met l y_ThumbCoreModel_far (.code y_ThumbCoreModel_far b_ThumbCoreModel_far 7 none :: tcb) rm_ThumbCoreModel_far (tc_Pw D tcl (tys cI cB cZ) (wd_ThumbCoreModel cI cB cZ h h_memory h_reg h_kept h_pending h_active h_priorities q_size c_n c_z c_c c_v c_keptFlags c_bad c_h c_after c_entered c_mask c_asleep c_lockup c_counts c_counter c_reload c_current c_memory c_reg c_kept c_pending c_active c_priorities) sz ([.ref h] : List Value) none) (tc_Qv D tcl (wd_ThumbCoreModel cI cB cZ h h_memory h_reg h_kept h_pending h_active h_priorities q_size c_n c_z c_c c_v c_keptFlags c_bad c_h c_after c_entered c_mask c_asleep c_lockup c_counts c_counter c_reload c_current c_memory c_reg c_kept c_pending c_active c_priorities) sz (fun u => (wd_ThumbCoreModel cI cB cZ h h_memory h_reg h_kept h_pending h_active h_priorities q_size c_n c_z c_c c_v c_keptFlags u.1 c_h u.2.1 c_entered c_mask c_asleep c_lockup c_counts c_counter c_reload c_current c_memory u.2.2 c_kept c_pending c_active c_priorities)) (f_ThumbCoreModel_far q_size c_h c_memory c_bad c_after c_reg)) 0 0 (va_A (wd_ThumbCoreModel cI cB cZ h h_memory h_reg h_kept h_pending h_active h_priorities q_size c_n c_z c_c c_v c_keptFlags c_bad c_h c_after c_entered c_mask c_asleep c_lockup c_counts c_counter c_reload c_current c_memory c_reg c_kept c_pending c_active c_priorities) sz) := by
  refine tc_mu_v (by decide) (Nat.le_of_ble_eq_true rfl) ?_
  intro p e s m below meth c A Q ls hx hb hml hts hown hK hN hP hD hA hZ hl RET
  have hS : va_S A s.heap s.heap [] := va_S.rf
  have hl : lv_has ls 7 [(0, .ref h)] := hl
  generalize hF : f_ThumbCoreModel_far q_size c_h c_memory c_bad c_after c_reg = FF at RET
  have J_87 : ∀ (H : Heap) (locs : List Loc) (ls : Array Slot) (c_bad : Bool) (c_after : Int32) (c_reg : Nat → Int32) (y1 : Int32) (y2 : Int32) (y3 : Bool) (z0 : Bool), va_P D tcl (wd_ThumbCoreModel cI cB cZ h h_memory h_reg h_kept h_pending h_active h_priorities q_size c_n c_z c_c c_v c_keptFlags c_bad c_h c_after c_entered c_mask c_asleep c_lockup c_counts c_counter c_reload c_current c_memory c_reg c_kept c_pending c_active c_priorities) H → va_D A (wd_ThumbCoreModel cI cB cZ h h_memory h_reg h_kept h_pending h_active h_priorities q_size c_n c_z c_c c_v c_keptFlags c_bad c_h c_after c_entered c_mask c_asleep c_lockup c_counts c_counter c_reload c_current c_memory c_reg c_kept c_pending c_active c_priorities) → va_S A s.heap H locs → lv_has ls 7 [(0, .ref h), (1, .int y1), (2, .int y2), (3, .int (bI y3))] → FF = k_ThumbCoreModel_far_87 q_size c_h c_memory c_bad c_after c_reg y1 y2 y3 z0 → W p l e rm_ThumbCoreModel_far s m ([.ref h] : List Value).toArray below meth c H locs 0 0 Q (F0 m 87 ls [.int (bI z0)]) := by
    intro H locs ls c_bad c_after c_reg y1 y2 y3 z0 hP hD hS hl hq
    refine lv_istore (lv' := [(4, .int (bI z0)), (0, .ref h), (1, .int y1), (2, .int y2), (3, .int (bI y3))]) hx hb d_ThumbCoreModel_far_87 hl (by decide) rfl (fun ls hl => ?_)
    refine lv_iload_n hx hb d_ThumbCoreModel_far_89 rfl (lv_at hl 3 rfl) ?_
    refine lv_bipush (v := 24) hx hb d_ThumbCoreModel_far_90 (by decide) ?_
    refine lv_ishl hx hb d_ThumbCoreModel_far_92 ?_
    refine lv_iload_n hx hb d_ThumbCoreModel_far_93 rfl (lv_at hl 4 rfl) ?_
    refine lv_bipush (v := 23) hx hb d_ThumbCoreModel_far_94 (by decide) ?_
    refine lv_ishl hx hb d_ThumbCoreModel_far_96 ?_
    refine lv_ior hx hb d_ThumbCoreModel_far_97 ?_
    refine lv_iload hx hb d_ThumbCoreModel_far_98 (lv_at hl 0 rfl) ?_
    refine lv_bipush (v := 22) hx hb d_ThumbCoreModel_far_100 (by decide) ?_
    refine lv_ishl hx hb d_ThumbCoreModel_far_102 ?_
    refine lv_ior hx hb d_ThumbCoreModel_far_103 ?_
    refine lv_aload_n hx hb d_ThumbCoreModel_far_104 rfl (lv_at hl 1 rfl) ?_
    refine va_get (D := D) (ci := 5) (v := .int c_h) (C := R_ThumbCoreModel) (T := F_ThumbCoreModel) (N := 23) hx hb hts u_ThumbCoreModel hown hK hP 0 rfl rfl 10 (by decide) (hts _ wf_ThumbCoreModel_125) (fun _ h9 => h9) rfl d_ThumbCoreModel_far_105 ?_
    refine lv_sipush (v := 1023) hx hb d_ThumbCoreModel_far_108 (by decide) ?_
    refine lv_iand hx hb d_ThumbCoreModel_far_111 ?_
    refine lv_bipush (v := 12) hx hb d_ThumbCoreModel_far_112 (by decide) ?_
    refine lv_ishl hx hb d_ThumbCoreModel_far_114 ?_
    refine lv_ior hx hb d_ThumbCoreModel_far_115 ?_
    refine lv_iload_n hx hb d_ThumbCoreModel_far_116 rfl (lv_at hl 2 rfl) ?_
    refine lv_sipush (v := 2047) hx hb d_ThumbCoreModel_far_117 (by decide) ?_
    refine lv_iand hx hb d_ThumbCoreModel_far_120 ?_
    refine lv_iconst (v := 1) hx hb d_ThumbCoreModel_far_121 (by decide) ?_
    refine lv_ishl hx hb d_ThumbCoreModel_far_122 ?_
    refine lv_ior hx hb d_ThumbCoreModel_far_123 ?_
    refine lv_topi (fun v1 e_v1 => ?_)
    have hq := tc_nm hq e_v1
    refine lv_istore (lv' := [(5, .int v1), (4, .int (bI z0)), (0, .ref h), (1, .int y1), (2, .int y2), (3, .int (bI y3))]) hx hb d_ThumbCoreModel_far_124 hl (by decide) rfl (fun ls hl => ?_)
    refine lv_iload hx hb d_ThumbCoreModel_far_126 (lv_at hl 0 rfl) ?_
    refine lv_bipush (v := 7) hx hb d_ThumbCoreModel_far_128 (by decide) ?_
    refine lv_ishl hx hb d_ThumbCoreModel_far_130 ?_
    refine lv_bipush (v := 7) hx hb d_ThumbCoreModel_far_131 (by decide) ?_
    refine lv_ishr hx hb d_ThumbCoreModel_far_133 ?_
    refine lv_topi (fun v2 e_v2 => ?_)
    have hq := tc_nm hq e_v2
    refine lv_istore (lv' := [(6, .int v2), (5, .int v1), (4, .int (bI z0)), (0, .ref h), (1, .int y1), (2, .int y2), (3, .int (bI y3))]) hx hb d_ThumbCoreModel_far_134 hl (by decide) rfl (fun ls hl => ?_)
    refine lv_aload_n hx hb d_ThumbCoreModel_far_136 rfl (lv_at hl 3 rfl) ?_
    refine va_get (D := D) (ci := 5) (v := .int (bI c_bad)) (C := R_ThumbCoreModel) (T := F_ThumbCoreModel) (N := 23) hx hb hts u_ThumbCoreModel hown hK hP 0 rfl rfl 9 (by decide) (hts _ wf_ThumbCoreModel_41) (fun _ h9 => h9) rfl d_ThumbCoreModel_far_137 ?_
    refine lv_if_ne (tgt := 175) hx hb d_ThumbCoreModel_far_140 (by decide) (fun g_140 => ?_) (fun g_140 => ?_)
    · have hq := hq.trans (if_pos g_140)
      exact RET H locs ls 175 (c_bad, c_after, c_reg) d_ThumbCoreModel_far_175 hP hD hS hq
    · have hq := hq.trans (if_neg (fun g => g g_140))
      refine lv_aload_n hx hb d_ThumbCoreModel_far_143 rfl (lv_at hl 3 rfl) ?_
      refine va_get (D := D) (ci := 5) (v := .ref h_reg) (C := R_ThumbCoreModel) (T := F_ThumbCoreModel) (N := 23) hx hb hts u_ThumbCoreModel hown hK hP 0 rfl rfl 2 (by decide) (hts _ wf_ThumbCoreModel_13) (fun _ h9 => h9) rfl d_ThumbCoreModel_far_144 ?_
      refine lv_bipush (v := 14) hx hb d_ThumbCoreModel_far_147 (by decide) ?_
      refine lv_aload_n hx hb d_ThumbCoreModel_far_149 rfl (lv_at hl 3 rfl) ?_
      refine va_get (D := D) (ci := 5) (v := .ref h_reg) (C := R_ThumbCoreModel) (T := F_ThumbCoreModel) (N := 23) hx hb hts u_ThumbCoreModel hown hK hP 0 rfl rfl 2 (by decide) (hts _ wf_ThumbCoreModel_13) (fun _ h9 => h9) rfl d_ThumbCoreModel_far_150 ?_
      refine lv_bipush (v := 15) hx hb d_ThumbCoreModel_far_153 (by decide) ?_
      refine va_iald hx hb hK hP 2 0 rfl rfl (by show ¬ (_ ∨ _); decide) d_ThumbCoreModel_far_155 ?_
      refine lv_iconst (v := 5) hx hb d_ThumbCoreModel_far_156 (by decide) ?_
      refine lv_iadd hx hb d_ThumbCoreModel_far_157 ?_
      refine va_iast hx hb hK hP hD hS 2 0 rfl rfl (by show ¬ (_ ∨ _); decide) d_ThumbCoreModel_far_158 (fun H locs hP hD hS => ?_)
      have hP : va_P D tcl (wd_ThumbCoreModel cI cB cZ h h_memory h_reg h_kept h_pending h_active h_priorities q_size c_n c_z c_c c_v c_keptFlags c_bad c_h c_after c_entered c_mask c_asleep c_lockup c_counts c_counter c_reload c_current c_memory (upd c_reg (14 : Int32).toNatClampNeg ((c_reg (15 : Int32).toNatClampNeg) + 5)) c_kept c_pending c_active c_priorities) H := hP
      have hD : va_D A (wd_ThumbCoreModel cI cB cZ h h_memory h_reg h_kept h_pending h_active h_priorities q_size c_n c_z c_c c_v c_keptFlags c_bad c_h c_after c_entered c_mask c_asleep c_lockup c_counts c_counter c_reload c_current c_memory (upd c_reg (14 : Int32).toNatClampNeg ((c_reg (15 : Int32).toNatClampNeg) + 5)) c_kept c_pending c_active c_priorities) := hD
      refine lv_aload_n hx hb d_ThumbCoreModel_far_159 rfl (lv_at hl 3 rfl) ?_
      refine lv_aload_n hx hb d_ThumbCoreModel_far_160 rfl (lv_at hl 3 rfl) ?_
      refine va_get (D := D) (ci := 5) (v := .ref h_reg) (C := R_ThumbCoreModel) (T := F_ThumbCoreModel) (N := 23) hx hb hts u_ThumbCoreModel hown hK hP 0 rfl rfl 2 (by decide) (hts _ wf_ThumbCoreModel_13) (fun _ h9 => h9) rfl d_ThumbCoreModel_far_161 ?_
      refine lv_bipush (v := 15) hx hb d_ThumbCoreModel_far_164 (by decide) ?_
      refine va_iald hx hb hK hP 2 0 rfl rfl (by show ¬ (_ ∨ _); decide) d_ThumbCoreModel_far_166 ?_
      refine lv_iconst (v := 4) hx hb d_ThumbCoreModel_far_167 (by decide) ?_
      refine lv_iadd hx hb d_ThumbCoreModel_far_168 ?_
      refine lv_iload hx hb d_ThumbCoreModel_far_169 (lv_at hl 0 rfl) ?_
      refine lv_iadd hx hb d_ThumbCoreModel_far_171 ?_
      refine lv_topi (fun v3 e_v3 => ?_)
      have hq := tc_nm hq e_v3
      refine va_put (D := D) (ci := 5) (v := .int v3) (ty := .int) (C := R_ThumbCoreModel) (T := F_ThumbCoreModel) (N := 23) hx hb hts u_ThumbCoreModel t_ThumbCoreModel t_ThumbCoreModel_ok n_ThumbCoreModel hown hK hP hD hS 0 rfl rfl 11 (by decide) (hts _ wf_ThumbCoreModel_115) (fun _ h9 => h9) rfl (by decide +kernel) rfl rfl (Nat.le_of_ble_eq_true rfl) d_ThumbCoreModel_far_172 (fun H locs hP hD hS => ?_)
      have hP : va_P D tcl (wd_ThumbCoreModel cI cB cZ h h_memory h_reg h_kept h_pending h_active h_priorities q_size c_n c_z c_c c_v c_keptFlags c_bad c_h v3 c_entered c_mask c_asleep c_lockup c_counts c_counter c_reload c_current c_memory (upd c_reg (14 : Int32).toNatClampNeg ((c_reg (15 : Int32).toNatClampNeg) + 5)) c_kept c_pending c_active c_priorities) H := hP
      have hD : va_D A (wd_ThumbCoreModel cI cB cZ h h_memory h_reg h_kept h_pending h_active h_priorities q_size c_n c_z c_c c_v c_keptFlags c_bad c_h v3 c_entered c_mask c_asleep c_lockup c_counts c_counter c_reload c_current c_memory (upd c_reg (14 : Int32).toNatClampNeg ((c_reg (15 : Int32).toNatClampNeg) + 5)) c_kept c_pending c_active c_priorities) := hD
      exact RET H locs ls 175 (c_bad, v3, (upd c_reg (14 : Int32).toNatClampNeg ((c_reg (15 : Int32).toNatClampNeg) + 5))) d_ThumbCoreModel_far_175 hP hD hS hq
  have J_71 : ∀ (H : Heap) (locs : List Loc) (ls : Array Slot) (c_bad : Bool) (c_after : Int32) (c_reg : Nat → Int32) (y1 : Int32) (y2 : Int32) (z0 : Bool), va_P D tcl (wd_ThumbCoreModel cI cB cZ h h_memory h_reg h_kept h_pending h_active h_priorities q_size c_n c_z c_c c_v c_keptFlags c_bad c_h c_after c_entered c_mask c_asleep c_lockup c_counts c_counter c_reload c_current c_memory c_reg c_kept c_pending c_active c_priorities) H → va_D A (wd_ThumbCoreModel cI cB cZ h h_memory h_reg h_kept h_pending h_active h_priorities q_size c_n c_z c_c c_v c_keptFlags c_bad c_h c_after c_entered c_mask c_asleep c_lockup c_counts c_counter c_reload c_current c_memory c_reg c_kept c_pending c_active c_priorities) → va_S A s.heap H locs → lv_has ls 7 [(0, .ref h), (1, .int y1), (2, .int y2)] → FF = k_ThumbCoreModel_far_71 q_size c_h c_memory c_bad c_after c_reg y1 y2 z0 → W p l e rm_ThumbCoreModel_far s m ([.ref h] : List Value).toArray below meth c H locs 0 0 Q (F0 m 71 ls [.int (bI z0)]) := by
    intro H locs ls c_bad c_after c_reg y1 y2 z0 hP hD hS hl hq
    refine lv_istore_n (lv' := [(3, .int (bI z0)), (0, .ref h), (1, .int y1), (2, .int y2)]) hx hb d_ThumbCoreModel_far_71 rfl hl (by decide) rfl (fun ls hl => ?_)
    refine lv_iload_n hx hb d_ThumbCoreModel_far_72 rfl (lv_at hl 2 rfl) ?_
    refine lv_bipush (v := 11) hx hb d_ThumbCoreModel_far_73 (by decide) ?_
    refine lv_ishr hx hb d_ThumbCoreModel_far_75 ?_
    refine lv_iconst (v := 1) hx hb d_ThumbCoreModel_far_76 (by decide) ?_
    refine lv_iand hx hb d_ThumbCoreModel_far_77 ?_
    refine lv_iload_n hx hb d_ThumbCoreModel_far_78 rfl (lv_at hl 3 rfl) ?_
    refine lv_icmp_ne (tgt := 86) hx hb d_ThumbCoreModel_far_79 (by decide) (fun g_79 => ?_) (fun g_79 => ?_)
    · have hq := hq.trans (if_pos g_79)
      refine lv_iconst (v := 0) hx hb d_ThumbCoreModel_far_86 (by decide) ?_
      exact J_87 H locs ls c_bad c_after c_reg y1 y2 z0 false hP hD hS (lv_sub hl [1, 2, 3, 0] rfl) hq
    · have hq := hq.trans (if_neg (fun g => g g_79))
      refine lv_iconst (v := 1) hx hb d_ThumbCoreModel_far_82 (by decide) ?_
      refine lv_goto (tgt := 87) hx hb d_ThumbCoreModel_far_83 (by decide) ?_
      exact J_87 H locs ls c_bad c_after c_reg y1 y2 z0 true hP hD hS (lv_sub hl [1, 2, 3, 0] rfl) hq
  have J_43 : ∀ (H : Heap) (locs : List Loc) (ls : Array Slot) (c_bad : Bool) (c_after : Int32) (c_reg : Nat → Int32) (y1 : Int32) (z1 : Bool), va_P D tcl (wd_ThumbCoreModel cI cB cZ h h_memory h_reg h_kept h_pending h_active h_priorities q_size c_n c_z c_c c_v c_keptFlags c_bad c_h c_after c_entered c_mask c_asleep c_lockup c_counts c_counter c_reload c_current c_memory c_reg c_kept c_pending c_active c_priorities) H → va_D A (wd_ThumbCoreModel cI cB cZ h h_memory h_reg h_kept h_pending h_active h_priorities q_size c_n c_z c_c c_v c_keptFlags c_bad c_h c_after c_entered c_mask c_asleep c_lockup c_counts c_counter c_reload c_current c_memory c_reg c_kept c_pending c_active c_priorities) → va_S A s.heap H locs → lv_has ls 7 [(0, .ref h), (1, .int y1)] → FF = k_ThumbCoreModel_far_43 q_size c_h c_memory c_bad c_after c_reg y1 z1 → W p l e rm_ThumbCoreModel_far s m ([.ref h] : List Value).toArray below meth c H locs 0 0 Q (F0 m 43 ls [.int (bI z1), .ref h]) := by
    intro H locs ls c_bad c_after c_reg y1 z1 hP hD hS hl hq
    refine va_put (D := D) (ci := 5) (v := .int (bI z1)) (ty := .boolean) (C := R_ThumbCoreModel) (T := F_ThumbCoreModel) (N := 23) hx hb hts u_ThumbCoreModel t_ThumbCoreModel t_ThumbCoreModel_ok n_ThumbCoreModel hown hK hP hD hS 0 rfl rfl 9 (by decide) (hts _ wf_ThumbCoreModel_41) (fun _ h9 => h9) rfl (by decide +kernel) (tc_nb z1) (tc_fb z1) (Nat.le_of_ble_eq_true rfl) d_ThumbCoreModel_far_43 (fun H locs hP hD hS => ?_)
    have hP : va_P D tcl (wd_ThumbCoreModel cI cB cZ h h_memory h_reg h_kept h_pending h_active h_priorities q_size c_n c_z c_c c_v c_keptFlags z1 c_h c_after c_entered c_mask c_asleep c_lockup c_counts c_counter c_reload c_current c_memory c_reg c_kept c_pending c_active c_priorities) H := hP
    have hD : va_D A (wd_ThumbCoreModel cI cB cZ h h_memory h_reg h_kept h_pending h_active h_priorities q_size c_n c_z c_c c_v c_keptFlags z1 c_h c_after c_entered c_mask c_asleep c_lockup c_counts c_counter c_reload c_current c_memory c_reg c_kept c_pending c_active c_priorities) := hD
    refine lv_aload_n hx hb d_ThumbCoreModel_far_46 rfl (lv_at hl 0 rfl) ?_
    refine va_get (D := D) (ci := 5) (v := .int c_h) (C := R_ThumbCoreModel) (T := F_ThumbCoreModel) (N := 23) hx hb hts u_ThumbCoreModel hown hK hP 0 rfl rfl 10 (by decide) (hts _ wf_ThumbCoreModel_125) (fun _ h9 => h9) rfl d_ThumbCoreModel_far_47 ?_
    refine lv_bipush (v := 10) hx hb d_ThumbCoreModel_far_50 (by decide) ?_
    refine lv_ishr hx hb d_ThumbCoreModel_far_52 ?_
    refine lv_iconst (v := 1) hx hb d_ThumbCoreModel_far_53 (by decide) ?_
    refine lv_iand hx hb d_ThumbCoreModel_far_54 ?_
    refine lv_topi (fun v1 e_v1 => ?_)
    have hq := tc_nm hq e_v1
    refine lv_istore_n (lv' := [(2, .int v1), (0, .ref h), (1, .int y1)]) hx hb d_ThumbCoreModel_far_55 rfl hl (by decide) rfl (fun ls hl => ?_)
    refine lv_iload_n hx hb d_ThumbCoreModel_far_56 rfl (lv_at hl 2 rfl) ?_
    refine lv_bipush (v := 13) hx hb d_ThumbCoreModel_far_57 (by decide) ?_
    refine lv_ishr hx hb d_ThumbCoreModel_far_59 ?_
    refine lv_iconst (v := 1) hx hb d_ThumbCoreModel_far_60 (by decide) ?_
    refine lv_iand hx hb d_ThumbCoreModel_far_61 ?_
    refine lv_iload_n hx hb d_ThumbCoreModel_far_62 rfl (lv_at hl 0 rfl) ?_
    refine lv_icmp_ne (tgt := 70) hx hb d_ThumbCoreModel_far_63 (by decide) (fun g_63 => ?_) (fun g_63 => ?_)
    · have hq := hq.trans (if_pos g_63)
      refine lv_iconst (v := 0) hx hb d_ThumbCoreModel_far_70 (by decide) ?_
      exact J_71 H locs ls z1 c_after c_reg y1 v1 false hP hD hS (lv_sub hl [1, 2, 0] rfl) hq
    · have hq := hq.trans (if_neg (fun g => g g_63))
      refine lv_iconst (v := 1) hx hb d_ThumbCoreModel_far_66 (by decide) ?_
      refine lv_goto (tgt := 71) hx hb d_ThumbCoreModel_far_67 (by decide) ?_
      exact J_71 H locs ls z1 c_after c_reg y1 v1 true hP hD hS (lv_sub hl [1, 2, 0] rfl) hq
  have J_38 : ∀ (H : Heap) (locs : List Loc) (ls : Array Slot) (c_bad : Bool) (c_after : Int32) (c_reg : Nat → Int32) (y1 : Int32), va_P D tcl (wd_ThumbCoreModel cI cB cZ h h_memory h_reg h_kept h_pending h_active h_priorities q_size c_n c_z c_c c_v c_keptFlags c_bad c_h c_after c_entered c_mask c_asleep c_lockup c_counts c_counter c_reload c_current c_memory c_reg c_kept c_pending c_active c_priorities) H → va_D A (wd_ThumbCoreModel cI cB cZ h h_memory h_reg h_kept h_pending h_active h_priorities q_size c_n c_z c_c c_v c_keptFlags c_bad c_h c_after c_entered c_mask c_asleep c_lockup c_counts c_counter c_reload c_current c_memory c_reg c_kept c_pending c_active c_priorities) → va_S A s.heap H locs → lv_has ls 7 [(0, .ref h), (1, .int y1)] → FF = k_ThumbCoreModel_far_38 q_size c_h c_memory c_bad c_after c_reg y1 → W p l e rm_ThumbCoreModel_far s m ([.ref h] : List Value).toArray below meth c H locs 0 0 Q (F0 m 38 ls [.ref h]) := by
    intro H locs ls c_bad c_after c_reg y1 hP hD hS hl hq
    refine lv_iconst (v := 1) hx hb d_ThumbCoreModel_far_38 (by decide) ?_
    refine lv_goto (tgt := 43) hx hb d_ThumbCoreModel_far_39 (by decide) ?_
    exact J_43 H locs ls c_bad c_after c_reg y1 true hP hD hS (lv_sub hl [0, 1] rfl) hq
  have hq : FF = f_ThumbCoreModel_far q_size c_h c_memory c_bad c_after c_reg := hF.symm
  revert hP hD hS
  suffices G : ∀ (H : Heap) (locs : List Loc), va_P D tcl (wd_ThumbCoreModel cI cB cZ h h_memory h_reg h_kept h_pending h_active h_priorities q_size c_n c_z c_c c_v c_keptFlags c_bad c_h c_after c_entered c_mask c_asleep c_lockup c_counts c_counter c_reload c_current c_memory c_reg c_kept c_pending c_active c_priorities) H → va_D A (wd_ThumbCoreModel cI cB cZ h h_memory h_reg h_kept h_pending h_active h_priorities q_size c_n c_z c_c c_v c_keptFlags c_bad c_h c_after c_entered c_mask c_asleep c_lockup c_counts c_counter c_reload c_current c_memory c_reg c_kept c_pending c_active c_priorities) → va_S A s.heap H locs → W p l e rm_ThumbCoreModel_far s m ([.ref h] : List Value).toArray below meth c H locs 0 0 Q (F0 m 0 ls []) from fun hP hD hS => G _ _ hP hD hS
  intro H locs hP hD hS
  refine lv_aload_n hx hb d_ThumbCoreModel_far_0 rfl (lv_at hl 0 rfl) ?_
  refine lv_aload_n hx hb d_ThumbCoreModel_far_1 rfl (lv_at hl 0 rfl) ?_
  refine va_get (D := D) (ci := 5) (v := .ref h_reg) (C := R_ThumbCoreModel) (T := F_ThumbCoreModel) (N := 23) hx hb hts u_ThumbCoreModel hown hK hP 0 rfl rfl 2 (by decide) (hts _ wf_ThumbCoreModel_13) (fun _ h9 => h9) rfl d_ThumbCoreModel_far_2 ?_
  refine lv_bipush (v := 15) hx hb d_ThumbCoreModel_far_5 (by decide) ?_
  refine va_iald hx hb hK hP 2 0 rfl rfl (by show ¬ (_ ∨ _); decide) d_ThumbCoreModel_far_7 ?_
  refine lv_iconst (v := 2) hx hb d_ThumbCoreModel_far_8 (by decide) ?_
  refine lv_iadd hx hb d_ThumbCoreModel_far_9 ?_
  refine lv_iconst (v := 2) hx hb d_ThumbCoreModel_far_10 (by decide) ?_
  refine tc_mi (wo := fun u => (wd_ThumbCoreModel cI cB cZ h h_memory h_reg h_kept h_pending h_active h_priorities q_size c_n c_z c_c c_v c_keptFlags u.2 c_h c_after c_entered c_mask c_asleep c_lockup c_counts c_counter c_reload c_current c_memory c_reg c_kept c_pending c_active c_priorities)) (va_runV (As := [.int ((c_reg (15 : Int32).toNatClampNeg) + 2), .int 2]) (rest := []) ⟨hx, hb, hml, hown, hts⟩ (c_ThumbCoreModel_read l D cI cB cZ h h_memory h_reg h_kept h_pending h_active h_priorities H.size q_size c_n c_z c_c c_v c_keptFlags c_bad c_h c_after c_entered c_mask c_asleep c_lockup c_counts c_counter c_reload c_current c_memory c_reg c_kept c_pending c_active c_priorities ((c_reg (15 : Int32).toNatClampNeg) + 2) 2 hm (by decide)) (cwV 2 hts (tc_gV wl_ThumbCoreModel_45 wm_ThumbCoreModel_read ws_ThumbCoreModel_read wi_ThumbCoreModel wc_ThumbCoreModel_read) rfl rfl rfl (by decide +kernel) ⟨Nat.le_of_ble_eq_true rfl, Nat.le_of_ble_eq_true rfl⟩) (tc_preV hK hN hP hD [0, 1, 2, 3, 4, 5, 6] rfl (by decide) (q0 := 0) rfl rfl) rfl rfl hl.1 rfl (lv_room (Nat.le_of_ble_eq_true rfl)) d_ThumbCoreModel_far_11 (by decide)) hP hD hS hA [0, 1, 2, 3, 4, 5, 6] [] [0, 1, 2, 3, 4, 5, 6] rfl rfl (by decide) (by decide) (by decide) (fun _ => rfl) (fun u H locs hu hP hD hS => ?_)
  obtain ⟨r1, s2⟩ := u
  have hq := hq.trans (un2_eq hu _)
  have e_r1 := hu
  have hP : va_P D tcl (wd_ThumbCoreModel cI cB cZ h h_memory h_reg h_kept h_pending h_active h_priorities q_size c_n c_z c_c c_v c_keptFlags s2 c_h c_after c_entered c_mask c_asleep c_lockup c_counts c_counter c_reload c_current c_memory c_reg c_kept c_pending c_active c_priorities) H := hP
  have hD : va_D A (wd_ThumbCoreModel cI cB cZ h h_memory h_reg h_kept h_pending h_active h_priorities q_size c_n c_z c_c c_v c_keptFlags s2 c_h c_after c_entered c_mask c_asleep c_lockup c_counts c_counter c_reload c_current c_memory c_reg c_kept c_pending c_active c_priorities) := hD
  refine W.eq (g2 := F0 m 14 ls [.int r1]) rfl ?_
  refine lv_istore_n (lv' := [(1, .int r1), (0, .ref h)]) hx hb d_ThumbCoreModel_far_14 rfl hl (by decide) rfl (fun ls hl => ?_)
  refine lv_aload_n hx hb d_ThumbCoreModel_far_15 rfl (lv_at hl 1 rfl) ?_
  refine lv_aload_n hx hb d_ThumbCoreModel_far_16 rfl (lv_at hl 1 rfl) ?_
  refine va_get (D := D) (ci := 5) (v := .int (bI s2)) (C := R_ThumbCoreModel) (T := F_ThumbCoreModel) (N := 23) hx hb hts u_ThumbCoreModel hown hK hP 0 rfl rfl 9 (by decide) (hts _ wf_ThumbCoreModel_41) (fun _ h9 => h9) rfl d_ThumbCoreModel_far_17 ?_
  refine lv_if_ne (tgt := 38) hx hb d_ThumbCoreModel_far_20 (by decide) (fun g_20 => ?_) (fun g_20 => ?_)
  · have hq := hq.trans (if_pos g_20)
    exact J_38 H locs ls s2 c_after c_reg r1 hP hD hS (lv_sub hl [1, 0] rfl) hq
  · have hq := hq.trans (if_neg (fun g => g g_20))
    refine lv_iload_n hx hb d_ThumbCoreModel_far_23 rfl (lv_at hl 0 rfl) ?_
    refine lv_ldc (v := 49152) hx hb hown (hts _ wk_ThumbCoreModel_170) d_ThumbCoreModel_far_24 ?_
    refine lv_icmp_lt (tgt := 38) hx hb d_ThumbCoreModel_far_26 (by decide) (fun g_26 => ?_) (fun g_26 => ?_)
    · have hq := hq.trans (if_pos g_26)
      exact J_38 H locs ls s2 c_after c_reg r1 hP hD hS (lv_sub hl [1, 0] rfl) hq
    · have hq := hq.trans (if_neg g_26)
      refine lv_iload_n hx hb d_ThumbCoreModel_far_29 rfl (lv_at hl 0 rfl) ?_
      refine lv_bipush (v := 12) hx hb d_ThumbCoreModel_far_30 (by decide) ?_
      refine lv_ishr hx hb d_ThumbCoreModel_far_32 ?_
      refine lv_iconst (v := 1) hx hb d_ThumbCoreModel_far_33 (by decide) ?_
      refine lv_iand hx hb d_ThumbCoreModel_far_34 ?_
      refine lv_if_ne (tgt := 42) hx hb d_ThumbCoreModel_far_35 (by decide) (fun g_35 => ?_) (fun g_35 => ?_)
      · have hq := hq.trans (if_pos g_35)
        refine lv_iconst (v := 0) hx hb d_ThumbCoreModel_far_42 (by decide) ?_
        exact J_43 H locs ls s2 c_after c_reg r1 false hP hD hS (lv_sub hl [1, 0] rfl) hq
      · have hq := hq.trans (if_neg (fun g => g g_35))
        exact J_38 H locs ls s2 c_after c_reg r1 hP hD hS (lv_sub hl [1, 0] rfl) hq
abbrev rm_ThumbCoreModel_perform : Room := { frames := 7, cells := 0, slots := 0, locals := 165 }
set_option maxHeartbeats 4000000 in
set_option maxRecDepth 100000 in
theorem c_ThumbCoreModel_perform (l : Launch) (D : va_G) (cI cB cZ : ClassId) (h h_memory h_reg h_kept h_pending h_active h_priorities sz : Nat) (q_size : Int32) (c_n : Bool) (c_z : Bool) (c_c : Bool) (c_v : Bool) (c_keptFlags : Int32) (c_bad : Bool) (c_h : Int32) (c_after : Int32) (c_entered : Bool) (c_mask : Bool) (c_asleep : Bool) (c_lockup : Bool) (c_counts : Bool) (c_counter : Int32) (c_reload : Int32) (c_current : Int32) (c_memory : Nat → Int32) (c_reg : Nat → Int32) (c_kept : Nat → Int32) (c_pending : Nat → Bool) (c_active : Nat → Bool) (c_priorities : Nat → Int32) (hm : tc_memR q_size) (hi_c_current : vp_in c_current 16) : Met l y_ThumbCoreModel_perform (.code y_ThumbCoreModel_perform b_ThumbCoreModel_perform 6 none :: tcb) rm_ThumbCoreModel_perform (tc_Pw D tcl (tys cI cB cZ) (wd_ThumbCoreModel cI cB cZ h h_memory h_reg h_kept h_pending h_active h_priorities q_size c_n c_z c_c c_v c_keptFlags c_bad c_h c_after c_entered c_mask c_asleep c_lockup c_counts c_counter c_reload c_current c_memory c_reg c_kept c_pending c_active c_priorities) sz ([.ref h] : List Value) none) (tc_Qv D tcl (wd_ThumbCoreModel cI cB cZ h h_memory h_reg h_kept h_pending h_active h_priorities q_size c_n c_z c_c c_v c_keptFlags c_bad c_h c_after c_entered c_mask c_asleep c_lockup c_counts c_counter c_reload c_current c_memory c_reg c_kept c_pending c_active c_priorities) sz (fun u => (wd_ThumbCoreModel cI cB cZ h h_memory h_reg h_kept h_pending h_active h_priorities q_size u.1 u.2.1 u.2.2.1 u.2.2.2.1 c_keptFlags u.2.2.2.2.1 c_h u.2.2.2.2.2.1 u.2.2.2.2.2.2.1 u.2.2.2.2.2.2.2.1 u.2.2.2.2.2.2.2.2.1 u.2.2.2.2.2.2.2.2.2.1 c_counts c_counter c_reload u.2.2.2.2.2.2.2.2.2.2.1 u.2.2.2.2.2.2.2.2.2.2.2.1 u.2.2.2.2.2.2.2.2.2.2.2.2.1 c_kept u.2.2.2.2.2.2.2.2.2.2.2.2.2.1 u.2.2.2.2.2.2.2.2.2.2.2.2.2.2 c_priorities)) (f_ThumbCoreModel_perform q_size c_h c_priorities c_n c_z c_c c_v c_bad c_after c_entered c_mask c_asleep c_lockup c_current c_memory c_reg c_pending c_active)) 0 0 (va_A (wd_ThumbCoreModel cI cB cZ h h_memory h_reg h_kept h_pending h_active h_priorities q_size c_n c_z c_c c_v c_keptFlags c_bad c_h c_after c_entered c_mask c_asleep c_lockup c_counts c_counter c_reload c_current c_memory c_reg c_kept c_pending c_active c_priorities) sz) := by
  refine tc_mu_v (by decide) (Nat.le_of_ble_eq_true rfl) ?_
  intro p e s m below meth c A Q ls hx hb hml hts hown hK hN hP hD hA hZ hl RET
  have hS : va_S A s.heap s.heap [] := va_S.rf
  have hl : lv_has ls 6 [(0, .ref h)] := hl
  generalize hF : f_ThumbCoreModel_perform q_size c_h c_priorities c_n c_z c_c c_v c_bad c_after c_entered c_mask c_asleep c_lockup c_current c_memory c_reg c_pending c_active = FF at RET
  have J_437 : ∀ (H : Heap) (locs : List Loc) (ls : Array Slot) (c_n : Bool) (c_z : Bool) (c_c : Bool) (c_v : Bool) (c_bad : Bool) (c_after : Int32) (c_entered : Bool) (c_mask : Bool) (c_asleep : Bool) (c_lockup : Bool) (c_current : Int32) (c_memory : Nat → Int32) (c_reg : Nat → Int32) (c_pending : Nat → Bool) (c_active : Nat → Bool) (z1 : Bool), va_P D tcl (wd_ThumbCoreModel cI cB cZ h h_memory h_reg h_kept h_pending h_active h_priorities q_size c_n c_z c_c c_v c_keptFlags c_bad c_h c_after c_entered c_mask c_asleep c_lockup c_counts c_counter c_reload c_current c_memory c_reg c_kept c_pending c_active c_priorities) H → va_D A (wd_ThumbCoreModel cI cB cZ h h_memory h_reg h_kept h_pending h_active h_priorities q_size c_n c_z c_c c_v c_keptFlags c_bad c_h c_after c_entered c_mask c_asleep c_lockup c_counts c_counter c_reload c_current c_memory c_reg c_kept c_pending c_active c_priorities) → va_S A s.heap H locs → lv_has ls 6 [] → FF = k_ThumbCoreModel_perform_437 q_size c_h c_priorities c_n c_z c_c c_v c_bad c_after c_entered c_mask c_asleep c_lockup c_current c_memory c_reg c_pending c_active z1 → W p l e rm_ThumbCoreModel_perform s m ([.ref h] : List Value).toArray below meth c H locs 0 0 Q (F0 m 437 ls [.int (bI z1), .ref h]) := by
    intro H locs ls c_n c_z c_c c_v c_bad c_after c_entered c_mask c_asleep c_lockup c_current c_memory c_reg c_pending c_active z1 hP hD hS hl hq
    refine tc_mv (wo := fun u => (wd_ThumbCoreModel cI cB cZ h h_memory h_reg h_kept h_pending h_active h_priorities q_size c_n c_z c_c c_v c_keptFlags u.1 c_h c_after c_entered c_mask c_asleep c_lockup c_counts c_counter c_reload c_current u.2.1 u.2.2 c_kept c_pending c_active c_priorities)) (va_runV (As := [.int (bI z1)]) (rest := []) ⟨hx, hb, hml, hown, hts⟩ (c_ThumbCoreModel_several l D cI cB cZ h h_memory h_reg h_kept h_pending h_active h_priorities H.size q_size c_n c_z c_c c_v c_keptFlags c_bad c_h c_after c_entered c_mask c_asleep c_lockup c_counts c_counter c_reload c_current c_memory c_reg c_kept c_pending c_active c_priorities z1 hm) (cwV 1 hts (tc_gV wl_ThumbCoreModel_189 wm_ThumbCoreModel_several ws_ThumbCoreModel_several wi_ThumbCoreModel wc_ThumbCoreModel_several) rfl rfl rfl (by decide +kernel) ⟨Nat.le_of_ble_eq_true rfl, Nat.le_of_ble_eq_true rfl⟩) (tc_preV hK hN hP hD [0, 1, 2, 3, 4, 5, 6] rfl (by decide) (q0 := 0) rfl rfl) rfl rfl hl.1 rfl (lv_room (Nat.le_of_ble_eq_true rfl)) d_ThumbCoreModel_perform_437 (by decide)) hP hD hS hA [0, 1, 2, 3, 4, 5, 6] [] [0, 1, 2, 3, 4, 5, 6] rfl rfl (by decide) (by decide) (by decide) (fun _ => rfl) (fun u H locs hu hP hD hS => ?_)
    obtain ⟨s1, s2, s3⟩ := u
    have hq := hq.trans (un3_eq hu _)
    have e_s1 := hu
    have hP : va_P D tcl (wd_ThumbCoreModel cI cB cZ h h_memory h_reg h_kept h_pending h_active h_priorities q_size c_n c_z c_c c_v c_keptFlags s1 c_h c_after c_entered c_mask c_asleep c_lockup c_counts c_counter c_reload c_current s2 s3 c_kept c_pending c_active c_priorities) H := hP
    have hD : va_D A (wd_ThumbCoreModel cI cB cZ h h_memory h_reg h_kept h_pending h_active h_priorities q_size c_n c_z c_c c_v c_keptFlags s1 c_h c_after c_entered c_mask c_asleep c_lockup c_counts c_counter c_reload c_current s2 s3 c_kept c_pending c_active c_priorities) := hD
    refine lv_goto (tgt := 501) hx hb d_ThumbCoreModel_perform_440 (by decide) ?_
    exact RET H locs ls 501 (c_n, c_z, c_c, c_v, s1, c_after, c_entered, c_mask, c_asleep, c_lockup, c_current, s2, s3, c_pending, c_active) d_ThumbCoreModel_perform_501 hP hD hS hq
  have J_399 : ∀ (H : Heap) (locs : List Loc) (ls : Array Slot) (c_n : Bool) (c_z : Bool) (c_c : Bool) (c_v : Bool) (c_bad : Bool) (c_after : Int32) (c_entered : Bool) (c_mask : Bool) (c_asleep : Bool) (c_lockup : Bool) (c_current : Int32) (c_memory : Nat → Int32) (c_reg : Nat → Int32) (c_pending : Nat → Bool) (c_active : Nat → Bool) (y5 : Int32) (z1 : Int32) (z2 : Int32), va_P D tcl (wd_ThumbCoreModel cI cB cZ h h_memory h_reg h_kept h_pending h_active h_priorities q_size c_n c_z c_c c_v c_keptFlags c_bad c_h c_after c_entered c_mask c_asleep c_lockup c_counts c_counter c_reload c_current c_memory c_reg c_kept c_pending c_active c_priorities) H → va_D A (wd_ThumbCoreModel cI cB cZ h h_memory h_reg h_kept h_pending h_active h_priorities q_size c_n c_z c_c c_v c_keptFlags c_bad c_h c_after c_entered c_mask c_asleep c_lockup c_counts c_counter c_reload c_current c_memory c_reg c_kept c_pending c_active c_priorities) → va_S A s.heap H locs → lv_has ls 6 [(5, .int y5)] → FF = k_ThumbCoreModel_perform_399 q_size c_h c_priorities c_n c_z c_c c_v c_bad c_after c_entered c_mask c_asleep c_lockup c_current c_memory c_reg c_pending c_active y5 z1 z2 → (vp_in z1 16) → W p l e rm_ThumbCoreModel_perform s m ([.ref h] : List Value).toArray below meth c H locs 0 0 Q (F0 m 399 ls [.int z2, .int z1, .ref h_reg]) := by
    intro H locs ls c_n c_z c_c c_v c_bad c_after c_entered c_mask c_asleep c_lockup c_current c_memory c_reg c_pending c_active y5 z1 z2 hP hD hS hl hq hi_z1
    refine lv_iload hx hb d_ThumbCoreModel_perform_399 (lv_at hl 0 rfl) ?_
    refine lv_iadd hx hb d_ThumbCoreModel_perform_401 ?_
    refine va_iast hx hb hK hP hD hS 2 0 rfl rfl hi_z1 d_ThumbCoreModel_perform_402 (fun H locs hP hD hS => ?_)
    have hP : va_P D tcl (wd_ThumbCoreModel cI cB cZ h h_memory h_reg h_kept h_pending h_active h_priorities q_size c_n c_z c_c c_v c_keptFlags c_bad c_h c_after c_entered c_mask c_asleep c_lockup c_counts c_counter c_reload c_current c_memory (upd c_reg z1.toNatClampNeg (z2 + y5)) c_kept c_pending c_active c_priorities) H := hP
    have hD : va_D A (wd_ThumbCoreModel cI cB cZ h h_memory h_reg h_kept h_pending h_active h_priorities q_size c_n c_z c_c c_v c_keptFlags c_bad c_h c_after c_entered c_mask c_asleep c_lockup c_counts c_counter c_reload c_current c_memory (upd c_reg z1.toNatClampNeg (z2 + y5)) c_kept c_pending c_active c_priorities) := hD
    refine lv_goto (tgt := 501) hx hb d_ThumbCoreModel_perform_403 (by decide) ?_
    exact RET H locs ls 501 (c_n, c_z, c_c, c_v, c_bad, c_after, c_entered, c_mask, c_asleep, c_lockup, c_current, c_memory, (upd c_reg z1.toNatClampNeg (z2 + y5)), c_pending, c_active) d_ThumbCoreModel_perform_501 hP hD hS hq
  have J_341 : ∀ (H : Heap) (locs : List Loc) (ls : Array Slot) (c_n : Bool) (c_z : Bool) (c_c : Bool) (c_v : Bool) (c_bad : Bool) (c_after : Int32) (c_entered : Bool) (c_mask : Bool) (c_asleep : Bool) (c_lockup : Bool) (c_current : Int32) (c_memory : Nat → Int32) (c_reg : Nat → Int32) (c_pending : Nat → Bool) (c_active : Nat → Bool) (y5 : Int32) (z1 : Int32), va_P D tcl (wd_ThumbCoreModel cI cB cZ h h_memory h_reg h_kept h_pending h_active h_priorities q_size c_n c_z c_c c_v c_keptFlags c_bad c_h c_after c_entered c_mask c_asleep c_lockup c_counts c_counter c_reload c_current c_memory c_reg c_kept c_pending c_active c_priorities) H → va_D A (wd_ThumbCoreModel cI cB cZ h h_memory h_reg h_kept h_pending h_active h_priorities q_size c_n c_z c_c c_v c_keptFlags c_bad c_h c_after c_entered c_mask c_asleep c_lockup c_counts c_counter c_reload c_current c_memory c_reg c_kept c_pending c_active c_priorities) → va_S A s.heap H locs → lv_has ls 6 [(0, .ref h), (5, .int y5)] → FF = k_ThumbCoreModel_perform_341 q_size c_h c_priorities c_n c_z c_c c_v c_bad c_after c_entered c_mask c_asleep c_lockup c_current c_memory c_reg c_pending c_active y5 z1 → W p l e rm_ThumbCoreModel_perform s m ([.ref h] : List Value).toArray below meth c H locs 0 0 Q (F0 m 341 ls [.int z1, .ref h]) := by
    intro H locs ls c_n c_z c_c c_v c_bad c_after c_entered c_mask c_asleep c_lockup c_current c_memory c_reg c_pending c_active y5 z1 hP hD hS hl hq
    refine lv_aload_n hx hb d_ThumbCoreModel_perform_341 rfl (lv_at hl 0 rfl) ?_
    refine lv_bipush (v := 8) hx hb d_ThumbCoreModel_perform_342 (by decide) ?_
    refine tc_rd (va_runV (As := [.int 8]) (rest := [.int z1, .ref h]) ⟨hx, hb, hml, hown, hts⟩ (c_ThumbCoreModel_field l D cI cB cZ h h_memory h_reg h_kept h_pending h_active h_priorities H.size q_size c_n c_z c_c c_v c_keptFlags c_bad c_h c_after c_entered c_mask c_asleep c_lockup c_counts c_counter c_reload c_current c_memory c_reg c_kept c_pending c_active c_priorities 8) (cwV 1 hts (tc_gV wl_ThumbCoreModel_128 wm_ThumbCoreModel_field ws_ThumbCoreModel_field wi_ThumbCoreModel wc_ThumbCoreModel_field) rfl rfl rfl (by decide +kernel) ⟨Nat.le_of_ble_eq_true rfl, Nat.le_of_ble_eq_true rfl⟩) (tc_preV hK hN hP hD [0, 1, 2, 3, 4, 5, 6] rfl (by decide) (q0 := 0) rfl rfl) rfl rfl hl.1 rfl (lv_room (Nat.le_of_ble_eq_true rfl)) d_ThumbCoreModel_perform_344 (by decide)) ?_
    refine lv_topi (fun v1 e_v1 => ?_)
    have hq := tc_nm hq e_v1
    refine lv_aload_n hx hb d_ThumbCoreModel_perform_347 rfl (lv_at hl 0 rfl) ?_
    refine va_get (D := D) (ci := 5) (v := .ref h_reg) (C := R_ThumbCoreModel) (T := F_ThumbCoreModel) (N := 23) hx hb hts u_ThumbCoreModel hown hK hP 0 rfl rfl 2 (by decide) (hts _ wf_ThumbCoreModel_13) (fun _ h9 => h9) rfl d_ThumbCoreModel_perform_348 ?_
    refine lv_bipush (v := 13) hx hb d_ThumbCoreModel_perform_351 (by decide) ?_
    refine va_iald hx hb hK hP 2 0 rfl rfl (by show ¬ (_ ∨ _); decide) d_ThumbCoreModel_perform_353 ?_
    refine lv_iload hx hb d_ThumbCoreModel_perform_354 (lv_at hl 1 rfl) ?_
    refine lv_iadd hx hb d_ThumbCoreModel_perform_356 ?_
    refine tc_mv (wo := fun u => (wd_ThumbCoreModel cI cB cZ h h_memory h_reg h_kept h_pending h_active h_priorities q_size c_n c_z c_c c_v c_keptFlags u.1 c_h c_after c_entered c_mask c_asleep c_lockup c_counts c_counter c_reload c_current u.2.1 u.2.2 c_kept c_pending c_active c_priorities)) (va_runV (As := [.int z1, .int v1, .int ((c_reg (13 : Int32).toNatClampNeg) + y5)]) (rest := []) ⟨hx, hb, hml, hown, hts⟩ (c_ThumbCoreModel_moves l D cI cB cZ h h_memory h_reg h_kept h_pending h_active h_priorities H.size q_size c_n c_z c_c c_v c_keptFlags c_bad c_h c_after c_entered c_mask c_asleep c_lockup c_counts c_counter c_reload c_current c_memory c_reg c_kept c_pending c_active c_priorities z1 v1 ((c_reg (13 : Int32).toNatClampNeg) + y5) hm (tc_enF e_v1)) (cwV 3 hts (tc_gV wl_ThumbCoreModel_183 wm_ThumbCoreModel_moves ws_ThumbCoreModel_moves wi_ThumbCoreModel wc_ThumbCoreModel_moves) rfl rfl rfl (by decide +kernel) ⟨Nat.le_of_ble_eq_true rfl, Nat.le_of_ble_eq_true rfl⟩) (tc_preV hK hN hP hD [0, 1, 2, 3, 4, 5, 6] rfl (by decide) (q0 := 0) rfl rfl) rfl rfl hl.1 rfl (lv_room (Nat.le_of_ble_eq_true rfl)) d_ThumbCoreModel_perform_357 (by decide)) hP hD hS hA [0, 1, 2, 3, 4, 5, 6] [] [0, 1, 2, 3, 4, 5, 6] rfl rfl (by decide) (by decide) (by decide) (fun _ => rfl) (fun u H locs hu hP hD hS => ?_)
    obtain ⟨s2, s3, s4⟩ := u
    have hq := hq.trans (un3_eq hu _)
    have e_s2 := hu
    have hP : va_P D tcl (wd_ThumbCoreModel cI cB cZ h h_memory h_reg h_kept h_pending h_active h_priorities q_size c_n c_z c_c c_v c_keptFlags s2 c_h c_after c_entered c_mask c_asleep c_lockup c_counts c_counter c_reload c_current s3 s4 c_kept c_pending c_active c_priorities) H := hP
    have hD : va_D A (wd_ThumbCoreModel cI cB cZ h h_memory h_reg h_kept h_pending h_active h_priorities q_size c_n c_z c_c c_v c_keptFlags s2 c_h c_after c_entered c_mask c_asleep c_lockup c_counts c_counter c_reload c_current s3 s4 c_kept c_pending c_active c_priorities) := hD
    refine lv_goto (tgt := 501) hx hb d_ThumbCoreModel_perform_360 (by decide) ?_
    exact RET H locs ls 501 (c_n, c_z, c_c, c_v, s2, c_after, c_entered, c_mask, c_asleep, c_lockup, c_current, s3, s4, c_pending, c_active) d_ThumbCoreModel_perform_501 hP hD hS hq
  have J_306 : ∀ (H : Heap) (locs : List Loc) (ls : Array Slot) (c_n : Bool) (c_z : Bool) (c_c : Bool) (c_v : Bool) (c_bad : Bool) (c_after : Int32) (c_entered : Bool) (c_mask : Bool) (c_asleep : Bool) (c_lockup : Bool) (c_current : Int32) (c_memory : Nat → Int32) (c_reg : Nat → Int32) (c_pending : Nat → Bool) (c_active : Nat → Bool) (y2 : Int32) (y4 : Int32) (z1 : Int32), va_P D tcl (wd_ThumbCoreModel cI cB cZ h h_memory h_reg h_kept h_pending h_active h_priorities q_size c_n c_z c_c c_v c_keptFlags c_bad c_h c_after c_entered c_mask c_asleep c_lockup c_counts c_counter c_reload c_current c_memory c_reg c_kept c_pending c_active c_priorities) H → va_D A (wd_ThumbCoreModel cI cB cZ h h_memory h_reg h_kept h_pending h_active h_priorities q_size c_n c_z c_c c_v c_keptFlags c_bad c_h c_after c_entered c_mask c_asleep c_lockup c_counts c_counter c_reload c_current c_memory c_reg c_kept c_pending c_active c_priorities) → va_S A s.heap H locs → lv_has ls 6 [(0, .ref h), (2, .int y2), (4, .int y4)] → FF = k_ThumbCoreModel_perform_306 q_size c_h c_priorities c_n c_z c_c c_v c_bad c_after c_entered c_mask c_asleep c_lockup c_current c_memory c_reg c_pending c_active y2 y4 z1 → W p l e rm_ThumbCoreModel_perform s m ([.ref h] : List Value).toArray below meth c H locs 0 0 Q (F0 m 306 ls [.int z1, .ref h]) := by
    intro H locs ls c_n c_z c_c c_v c_bad c_after c_entered c_mask c_asleep c_lockup c_current c_memory c_reg c_pending c_active y2 y4 z1 hP hD hS hl hq
    refine lv_aload_n hx hb d_ThumbCoreModel_perform_306 rfl (lv_at hl 0 rfl) ?_
    refine lv_iconst (v := 0) hx hb d_ThumbCoreModel_perform_307 (by decide) ?_
    refine tc_rd (va_runV (As := [.int 0]) (rest := [.int z1, .ref h]) ⟨hx, hb, hml, hown, hts⟩ (c_ThumbCoreModel_field l D cI cB cZ h h_memory h_reg h_kept h_pending h_active h_priorities H.size q_size c_n c_z c_c c_v c_keptFlags c_bad c_h c_after c_entered c_mask c_asleep c_lockup c_counts c_counter c_reload c_current c_memory c_reg c_kept c_pending c_active c_priorities 0) (cwV 1 hts (tc_gV wl_ThumbCoreModel_128 wm_ThumbCoreModel_field ws_ThumbCoreModel_field wi_ThumbCoreModel wc_ThumbCoreModel_field) rfl rfl rfl (by decide +kernel) ⟨Nat.le_of_ble_eq_true rfl, Nat.le_of_ble_eq_true rfl⟩) (tc_preV hK hN hP hD [0, 1, 2, 3, 4, 5, 6] rfl (by decide) (q0 := 0) rfl rfl) rfl rfl hl.1 rfl (lv_room (Nat.le_of_ble_eq_true rfl)) d_ThumbCoreModel_perform_308 (by decide)) ?_
    refine lv_topi (fun v1 e_v1 => ?_)
    have hq := tc_nm hq e_v1
    refine lv_iload hx hb d_ThumbCoreModel_perform_311 (lv_at hl 2 rfl) ?_
    refine lv_iconst (v := 2) hx hb d_ThumbCoreModel_perform_313 (by decide) ?_
    refine lv_iload_n hx hb d_ThumbCoreModel_perform_314 rfl (lv_at hl 1 rfl) ?_
    refine lv_imul hx hb d_ThumbCoreModel_perform_315 ?_
    refine lv_iadd hx hb d_ThumbCoreModel_perform_316 ?_
    refine tc_mv (wo := fun u => (wd_ThumbCoreModel cI cB cZ h h_memory h_reg h_kept h_pending h_active h_priorities q_size c_n c_z c_c c_v c_keptFlags u.1 c_h c_after c_entered c_mask c_asleep c_lockup c_counts c_counter c_reload c_current u.2.1 u.2.2 c_kept c_pending c_active c_priorities)) (va_runV (As := [.int z1, .int v1, .int (y4 + (2 * y2))]) (rest := []) ⟨hx, hb, hml, hown, hts⟩ (c_ThumbCoreModel_moves l D cI cB cZ h h_memory h_reg h_kept h_pending h_active h_priorities H.size q_size c_n c_z c_c c_v c_keptFlags c_bad c_h c_after c_entered c_mask c_asleep c_lockup c_counts c_counter c_reload c_current c_memory c_reg c_kept c_pending c_active c_priorities z1 v1 (y4 + (2 * y2)) hm (tc_enF e_v1)) (cwV 3 hts (tc_gV wl_ThumbCoreModel_183 wm_ThumbCoreModel_moves ws_ThumbCoreModel_moves wi_ThumbCoreModel wc_ThumbCoreModel_moves) rfl rfl rfl (by decide +kernel) ⟨Nat.le_of_ble_eq_true rfl, Nat.le_of_ble_eq_true rfl⟩) (tc_preV hK hN hP hD [0, 1, 2, 3, 4, 5, 6] rfl (by decide) (q0 := 0) rfl rfl) rfl rfl hl.1 rfl (lv_room (Nat.le_of_ble_eq_true rfl)) d_ThumbCoreModel_perform_317 (by decide)) hP hD hS hA [0, 1, 2, 3, 4, 5, 6] [] [0, 1, 2, 3, 4, 5, 6] rfl rfl (by decide) (by decide) (by decide) (fun _ => rfl) (fun u H locs hu hP hD hS => ?_)
    obtain ⟨s2, s3, s4⟩ := u
    have hq := hq.trans (un3_eq hu _)
    have e_s2 := hu
    have hP : va_P D tcl (wd_ThumbCoreModel cI cB cZ h h_memory h_reg h_kept h_pending h_active h_priorities q_size c_n c_z c_c c_v c_keptFlags s2 c_h c_after c_entered c_mask c_asleep c_lockup c_counts c_counter c_reload c_current s3 s4 c_kept c_pending c_active c_priorities) H := hP
    have hD : va_D A (wd_ThumbCoreModel cI cB cZ h h_memory h_reg h_kept h_pending h_active h_priorities q_size c_n c_z c_c c_v c_keptFlags s2 c_h c_after c_entered c_mask c_asleep c_lockup c_counts c_counter c_reload c_current s3 s4 c_kept c_pending c_active c_priorities) := hD
    refine lv_goto (tgt := 501) hx hb d_ThumbCoreModel_perform_320 (by decide) ?_
    exact RET H locs ls 501 (c_n, c_z, c_c, c_v, s2, c_after, c_entered, c_mask, c_asleep, c_lockup, c_current, s3, s4, c_pending, c_active) d_ThumbCoreModel_perform_501 hP hD hS hq
  have J_273 : ∀ (H : Heap) (locs : List Loc) (ls : Array Slot) (c_n : Bool) (c_z : Bool) (c_c : Bool) (c_v : Bool) (c_bad : Bool) (c_after : Int32) (c_entered : Bool) (c_mask : Bool) (c_asleep : Bool) (c_lockup : Bool) (c_current : Int32) (c_memory : Nat → Int32) (c_reg : Nat → Int32) (c_pending : Nat → Bool) (c_active : Nat → Bool) (y2 : Int32) (y4 : Int32) (z1 : Int32), va_P D tcl (wd_ThumbCoreModel cI cB cZ h h_memory h_reg h_kept h_pending h_active h_priorities q_size c_n c_z c_c c_v c_keptFlags c_bad c_h c_after c_entered c_mask c_asleep c_lockup c_counts c_counter c_reload c_current c_memory c_reg c_kept c_pending c_active c_priorities) H → va_D A (wd_ThumbCoreModel cI cB cZ h h_memory h_reg h_kept h_pending h_active h_priorities q_size c_n c_z c_c c_v c_keptFlags c_bad c_h c_after c_entered c_mask c_asleep c_lockup c_counts c_counter c_reload c_current c_memory c_reg c_kept c_pending c_active c_priorities) → va_S A s.heap H locs → lv_has ls 6 [(0, .ref h), (2, .int y2), (4, .int y4)] → FF = k_ThumbCoreModel_perform_273 q_size c_h c_priorities c_n c_z c_c c_v c_bad c_after c_entered c_mask c_asleep c_lockup c_current c_memory c_reg c_pending c_active y2 y4 z1 → W p l e rm_ThumbCoreModel_perform s m ([.ref h] : List Value).toArray below meth c H locs 0 0 Q (F0 m 273 ls [.int z1, .ref h]) := by
    intro H locs ls c_n c_z c_c c_v c_bad c_after c_entered c_mask c_asleep c_lockup c_current c_memory c_reg c_pending c_active y2 y4 z1 hP hD hS hl hq
    refine lv_aload_n hx hb d_ThumbCoreModel_perform_273 rfl (lv_at hl 0 rfl) ?_
    refine lv_iconst (v := 0) hx hb d_ThumbCoreModel_perform_274 (by decide) ?_
    refine tc_rd (va_runV (As := [.int 0]) (rest := [.int z1, .ref h]) ⟨hx, hb, hml, hown, hts⟩ (c_ThumbCoreModel_field l D cI cB cZ h h_memory h_reg h_kept h_pending h_active h_priorities H.size q_size c_n c_z c_c c_v c_keptFlags c_bad c_h c_after c_entered c_mask c_asleep c_lockup c_counts c_counter c_reload c_current c_memory c_reg c_kept c_pending c_active c_priorities 0) (cwV 1 hts (tc_gV wl_ThumbCoreModel_128 wm_ThumbCoreModel_field ws_ThumbCoreModel_field wi_ThumbCoreModel wc_ThumbCoreModel_field) rfl rfl rfl (by decide +kernel) ⟨Nat.le_of_ble_eq_true rfl, Nat.le_of_ble_eq_true rfl⟩) (tc_preV hK hN hP hD [0, 1, 2, 3, 4, 5, 6] rfl (by decide) (q0 := 0) rfl rfl) rfl rfl hl.1 rfl (lv_room (Nat.le_of_ble_eq_true rfl)) d_ThumbCoreModel_perform_275 (by decide)) ?_
    refine lv_topi (fun v1 e_v1 => ?_)
    have hq := tc_nm hq e_v1
    refine lv_iload hx hb d_ThumbCoreModel_perform_278 (lv_at hl 2 rfl) ?_
    refine lv_iload_n hx hb d_ThumbCoreModel_perform_280 rfl (lv_at hl 1 rfl) ?_
    refine lv_iadd hx hb d_ThumbCoreModel_perform_281 ?_
    refine tc_mv (wo := fun u => (wd_ThumbCoreModel cI cB cZ h h_memory h_reg h_kept h_pending h_active h_priorities q_size c_n c_z c_c c_v c_keptFlags u.1 c_h c_after c_entered c_mask c_asleep c_lockup c_counts c_counter c_reload c_current u.2.1 u.2.2 c_kept c_pending c_active c_priorities)) (va_runV (As := [.int z1, .int v1, .int (y4 + y2)]) (rest := []) ⟨hx, hb, hml, hown, hts⟩ (c_ThumbCoreModel_moves l D cI cB cZ h h_memory h_reg h_kept h_pending h_active h_priorities H.size q_size c_n c_z c_c c_v c_keptFlags c_bad c_h c_after c_entered c_mask c_asleep c_lockup c_counts c_counter c_reload c_current c_memory c_reg c_kept c_pending c_active c_priorities z1 v1 (y4 + y2) hm (tc_enF e_v1)) (cwV 3 hts (tc_gV wl_ThumbCoreModel_183 wm_ThumbCoreModel_moves ws_ThumbCoreModel_moves wi_ThumbCoreModel wc_ThumbCoreModel_moves) rfl rfl rfl (by decide +kernel) ⟨Nat.le_of_ble_eq_true rfl, Nat.le_of_ble_eq_true rfl⟩) (tc_preV hK hN hP hD [0, 1, 2, 3, 4, 5, 6] rfl (by decide) (q0 := 0) rfl rfl) rfl rfl hl.1 rfl (lv_room (Nat.le_of_ble_eq_true rfl)) d_ThumbCoreModel_perform_282 (by decide)) hP hD hS hA [0, 1, 2, 3, 4, 5, 6] [] [0, 1, 2, 3, 4, 5, 6] rfl rfl (by decide) (by decide) (by decide) (fun _ => rfl) (fun u H locs hu hP hD hS => ?_)
    obtain ⟨s2, s3, s4⟩ := u
    have hq := hq.trans (un3_eq hu _)
    have e_s2 := hu
    have hP : va_P D tcl (wd_ThumbCoreModel cI cB cZ h h_memory h_reg h_kept h_pending h_active h_priorities q_size c_n c_z c_c c_v c_keptFlags s2 c_h c_after c_entered c_mask c_asleep c_lockup c_counts c_counter c_reload c_current s3 s4 c_kept c_pending c_active c_priorities) H := hP
    have hD : va_D A (wd_ThumbCoreModel cI cB cZ h h_memory h_reg h_kept h_pending h_active h_priorities q_size c_n c_z c_c c_v c_keptFlags s2 c_h c_after c_entered c_mask c_asleep c_lockup c_counts c_counter c_reload c_current s3 s4 c_kept c_pending c_active c_priorities) := hD
    refine lv_goto (tgt := 501) hx hb d_ThumbCoreModel_perform_285 (by decide) ?_
    exact RET H locs ls 501 (c_n, c_z, c_c, c_v, s2, c_after, c_entered, c_mask, c_asleep, c_lockup, c_current, s3, s4, c_pending, c_active) d_ThumbCoreModel_perform_501 hP hD hS hq
  have J_237 : ∀ (H : Heap) (locs : List Loc) (ls : Array Slot) (c_n : Bool) (c_z : Bool) (c_c : Bool) (c_v : Bool) (c_bad : Bool) (c_after : Int32) (c_entered : Bool) (c_mask : Bool) (c_asleep : Bool) (c_lockup : Bool) (c_current : Int32) (c_memory : Nat → Int32) (c_reg : Nat → Int32) (c_pending : Nat → Bool) (c_active : Nat → Bool) (y2 : Int32) (y4 : Int32) (z1 : Int32), va_P D tcl (wd_ThumbCoreModel cI cB cZ h h_memory h_reg h_kept h_pending h_active h_priorities q_size c_n c_z c_c c_v c_keptFlags c_bad c_h c_after c_entered c_mask c_asleep c_lockup c_counts c_counter c_reload c_current c_memory c_reg c_kept c_pending c_active c_priorities) H → va_D A (wd_ThumbCoreModel cI cB cZ h h_memory h_reg h_kept h_pending h_active h_priorities q_size c_n c_z c_c c_v c_keptFlags c_bad c_h c_after c_entered c_mask c_asleep c_lockup c_counts c_counter c_reload c_current c_memory c_reg c_kept c_pending c_active c_priorities) → va_S A s.heap H locs → lv_has ls 6 [(0, .ref h), (2, .int y2), (4, .int y4)] → FF = k_ThumbCoreModel_perform_237 q_size c_h c_priorities c_n c_z c_c c_v c_bad c_after c_entered c_mask c_asleep c_lockup c_current c_memory c_reg c_pending c_active y2 y4 z1 → W p l e rm_ThumbCoreModel_perform s m ([.ref h] : List Value).toArray below meth c H locs 0 0 Q (F0 m 237 ls [.int z1, .ref h]) := by
    intro H locs ls c_n c_z c_c c_v c_bad c_after c_entered c_mask c_asleep c_lockup c_current c_memory c_reg c_pending c_active y2 y4 z1 hP hD hS hl hq
    refine lv_aload_n hx hb d_ThumbCoreModel_perform_237 rfl (lv_at hl 0 rfl) ?_
    refine lv_iconst (v := 0) hx hb d_ThumbCoreModel_perform_238 (by decide) ?_
    refine tc_rd (va_runV (As := [.int 0]) (rest := [.int z1, .ref h]) ⟨hx, hb, hml, hown, hts⟩ (c_ThumbCoreModel_field l D cI cB cZ h h_memory h_reg h_kept h_pending h_active h_priorities H.size q_size c_n c_z c_c c_v c_keptFlags c_bad c_h c_after c_entered c_mask c_asleep c_lockup c_counts c_counter c_reload c_current c_memory c_reg c_kept c_pending c_active c_priorities 0) (cwV 1 hts (tc_gV wl_ThumbCoreModel_128 wm_ThumbCoreModel_field ws_ThumbCoreModel_field wi_ThumbCoreModel wc_ThumbCoreModel_field) rfl rfl rfl (by decide +kernel) ⟨Nat.le_of_ble_eq_true rfl, Nat.le_of_ble_eq_true rfl⟩) (tc_preV hK hN hP hD [0, 1, 2, 3, 4, 5, 6] rfl (by decide) (q0 := 0) rfl rfl) rfl rfl hl.1 rfl (lv_room (Nat.le_of_ble_eq_true rfl)) d_ThumbCoreModel_perform_239 (by decide)) ?_
    refine lv_topi (fun v1 e_v1 => ?_)
    have hq := tc_nm hq e_v1
    refine lv_iload hx hb d_ThumbCoreModel_perform_242 (lv_at hl 2 rfl) ?_
    refine lv_iconst (v := 4) hx hb d_ThumbCoreModel_perform_244 (by decide) ?_
    refine lv_iload_n hx hb d_ThumbCoreModel_perform_245 rfl (lv_at hl 1 rfl) ?_
    refine lv_imul hx hb d_ThumbCoreModel_perform_246 ?_
    refine lv_iadd hx hb d_ThumbCoreModel_perform_247 ?_
    refine tc_mv (wo := fun u => (wd_ThumbCoreModel cI cB cZ h h_memory h_reg h_kept h_pending h_active h_priorities q_size c_n c_z c_c c_v c_keptFlags u.1 c_h c_after c_entered c_mask c_asleep c_lockup c_counts c_counter c_reload c_current u.2.1 u.2.2 c_kept c_pending c_active c_priorities)) (va_runV (As := [.int z1, .int v1, .int (y4 + (4 * y2))]) (rest := []) ⟨hx, hb, hml, hown, hts⟩ (c_ThumbCoreModel_moves l D cI cB cZ h h_memory h_reg h_kept h_pending h_active h_priorities H.size q_size c_n c_z c_c c_v c_keptFlags c_bad c_h c_after c_entered c_mask c_asleep c_lockup c_counts c_counter c_reload c_current c_memory c_reg c_kept c_pending c_active c_priorities z1 v1 (y4 + (4 * y2)) hm (tc_enF e_v1)) (cwV 3 hts (tc_gV wl_ThumbCoreModel_183 wm_ThumbCoreModel_moves ws_ThumbCoreModel_moves wi_ThumbCoreModel wc_ThumbCoreModel_moves) rfl rfl rfl (by decide +kernel) ⟨Nat.le_of_ble_eq_true rfl, Nat.le_of_ble_eq_true rfl⟩) (tc_preV hK hN hP hD [0, 1, 2, 3, 4, 5, 6] rfl (by decide) (q0 := 0) rfl rfl) rfl rfl hl.1 rfl (lv_room (Nat.le_of_ble_eq_true rfl)) d_ThumbCoreModel_perform_248 (by decide)) hP hD hS hA [0, 1, 2, 3, 4, 5, 6] [] [0, 1, 2, 3, 4, 5, 6] rfl rfl (by decide) (by decide) (by decide) (fun _ => rfl) (fun u H locs hu hP hD hS => ?_)
    obtain ⟨s2, s3, s4⟩ := u
    have hq := hq.trans (un3_eq hu _)
    have e_s2 := hu
    have hP : va_P D tcl (wd_ThumbCoreModel cI cB cZ h h_memory h_reg h_kept h_pending h_active h_priorities q_size c_n c_z c_c c_v c_keptFlags s2 c_h c_after c_entered c_mask c_asleep c_lockup c_counts c_counter c_reload c_current s3 s4 c_kept c_pending c_active c_priorities) H := hP
    have hD : va_D A (wd_ThumbCoreModel cI cB cZ h h_memory h_reg h_kept h_pending h_active h_priorities q_size c_n c_z c_c c_v c_keptFlags s2 c_h c_after c_entered c_mask c_asleep c_lockup c_counts c_counter c_reload c_current s3 s4 c_kept c_pending c_active c_priorities) := hD
    refine lv_goto (tgt := 501) hx hb d_ThumbCoreModel_perform_251 (by decide) ?_
    exact RET H locs ls 501 (c_n, c_z, c_c, c_v, s2, c_after, c_entered, c_mask, c_asleep, c_lockup, c_current, s3, s4, c_pending, c_active) d_ThumbCoreModel_perform_501 hP hD hS hq
  have J_85 : ∀ (H : Heap) (locs : List Loc) (ls : Array Slot) (c_n : Bool) (c_z : Bool) (c_c : Bool) (c_v : Bool) (c_bad : Bool) (c_after : Int32) (c_entered : Bool) (c_mask : Bool) (c_asleep : Bool) (c_lockup : Bool) (c_current : Int32) (c_memory : Nat → Int32) (c_reg : Nat → Int32) (c_pending : Nat → Bool) (c_active : Nat → Bool) (z1 : Int32) (z3 : Int32) (z4 : Int32) (z5 : Int32), va_P D tcl (wd_ThumbCoreModel cI cB cZ h h_memory h_reg h_kept h_pending h_active h_priorities q_size c_n c_z c_c c_v c_keptFlags c_bad c_h c_after c_entered c_mask c_asleep c_lockup c_counts c_counter c_reload c_current c_memory c_reg c_kept c_pending c_active c_priorities) H → va_D A (wd_ThumbCoreModel cI cB cZ h h_memory h_reg h_kept h_pending h_active h_priorities q_size c_n c_z c_c c_v c_keptFlags c_bad c_h c_after c_entered c_mask c_asleep c_lockup c_counts c_counter c_reload c_current c_memory c_reg c_kept c_pending c_active c_priorities) → va_S A s.heap H locs → lv_has ls 6 [] → FF = k_ThumbCoreModel_perform_85 q_size c_h c_priorities c_n c_z c_c c_v c_bad c_after c_entered c_mask c_asleep c_lockup c_current c_memory c_reg c_pending c_active z1 z3 z4 z5 → (vp_in z1 16) → W p l e rm_ThumbCoreModel_perform s m ([.ref h] : List Value).toArray below meth c H locs 0 0 Q (F0 m 85 ls [.int z5, .int z4, .int z3, .ref h, .int z1, .ref h_reg]) := by
    intro H locs ls c_n c_z c_c c_v c_bad c_after c_entered c_mask c_asleep c_lockup c_current c_memory c_reg c_pending c_active z1 z3 z4 z5 hP hD hS hl hq hi_z1
    refine tc_mi (wo := fun u => (wd_ThumbCoreModel cI cB cZ h h_memory h_reg h_kept h_pending h_active h_priorities q_size u.2.1 u.2.2.1 u.2.2.2 c_v c_keptFlags c_bad c_h c_after c_entered c_mask c_asleep c_lockup c_counts c_counter c_reload c_current c_memory c_reg c_kept c_pending c_active c_priorities)) (va_runV (As := [.int z3, .int z4, .int z5]) (rest := [.int z1, .ref h_reg]) ⟨hx, hb, hml, hown, hts⟩ (c_ThumbCoreModel_moved l D cI cB cZ h h_memory h_reg h_kept h_pending h_active h_priorities H.size q_size c_n c_z c_c c_v c_keptFlags c_bad c_h c_after c_entered c_mask c_asleep c_lockup c_counts c_counter c_reload c_current c_memory c_reg c_kept c_pending c_active c_priorities z3 z4 z5) (cwV 3 hts (tc_gV wl_ThumbCoreModel_135 wm_ThumbCoreModel_moved ws_ThumbCoreModel_moved wi_ThumbCoreModel wc_ThumbCoreModel_moved) rfl rfl rfl (by decide +kernel) ⟨Nat.le_of_ble_eq_true rfl, Nat.le_of_ble_eq_true rfl⟩) (tc_preV hK hN hP hD [0, 1, 2, 3, 4, 5, 6] rfl (by decide) (q0 := 0) rfl rfl) rfl rfl hl.1 rfl (lv_room (Nat.le_of_ble_eq_true rfl)) d_ThumbCoreModel_perform_85 (by decide)) hP hD hS hA [0, 1, 2, 3, 4, 5, 6] [] [0, 1, 2, 3, 4, 5, 6] rfl rfl (by decide) (by decide) (by decide) (fun _ => rfl) (fun u H locs hu hP hD hS => ?_)
    obtain ⟨r1, s2, s3, s4⟩ := u
    have hq := hq.trans (un4_eq hu _)
    have e_r1 := hu
    have hP : va_P D tcl (wd_ThumbCoreModel cI cB cZ h h_memory h_reg h_kept h_pending h_active h_priorities q_size s2 s3 s4 c_v c_keptFlags c_bad c_h c_after c_entered c_mask c_asleep c_lockup c_counts c_counter c_reload c_current c_memory c_reg c_kept c_pending c_active c_priorities) H := hP
    have hD : va_D A (wd_ThumbCoreModel cI cB cZ h h_memory h_reg h_kept h_pending h_active h_priorities q_size s2 s3 s4 c_v c_keptFlags c_bad c_h c_after c_entered c_mask c_asleep c_lockup c_counts c_counter c_reload c_current c_memory c_reg c_kept c_pending c_active c_priorities) := hD
    refine W.eq (g2 := F0 m 88 ls [.int r1, .int z1, .ref h_reg]) rfl ?_
    refine va_iast hx hb hK hP hD hS 2 0 rfl rfl hi_z1 d_ThumbCoreModel_perform_88 (fun H locs hP hD hS => ?_)
    have hP : va_P D tcl (wd_ThumbCoreModel cI cB cZ h h_memory h_reg h_kept h_pending h_active h_priorities q_size s2 s3 s4 c_v c_keptFlags c_bad c_h c_after c_entered c_mask c_asleep c_lockup c_counts c_counter c_reload c_current c_memory (upd c_reg z1.toNatClampNeg r1) c_kept c_pending c_active c_priorities) H := hP
    have hD : va_D A (wd_ThumbCoreModel cI cB cZ h h_memory h_reg h_kept h_pending h_active h_priorities q_size s2 s3 s4 c_v c_keptFlags c_bad c_h c_after c_entered c_mask c_asleep c_lockup c_counts c_counter c_reload c_current c_memory (upd c_reg z1.toNatClampNeg r1) c_kept c_pending c_active c_priorities) := hD
    refine lv_goto (tgt := 501) hx hb d_ThumbCoreModel_perform_89 (by decide) ?_
    exact RET H locs ls 501 (s2, s3, s4, c_v, c_bad, c_after, c_entered, c_mask, c_asleep, c_lockup, c_current, c_memory, (upd c_reg z1.toNatClampNeg r1), c_pending, c_active) d_ThumbCoreModel_perform_501 hP hD hS hq
  have J_84 : ∀ (H : Heap) (locs : List Loc) (ls : Array Slot) (c_n : Bool) (c_z : Bool) (c_c : Bool) (c_v : Bool) (c_bad : Bool) (c_after : Int32) (c_entered : Bool) (c_mask : Bool) (c_asleep : Bool) (c_lockup : Bool) (c_current : Int32) (c_memory : Nat → Int32) (c_reg : Nat → Int32) (c_pending : Nat → Bool) (c_active : Nat → Bool) (y2 : Int32) (z1 : Int32) (z3 : Int32) (z4 : Int32), va_P D tcl (wd_ThumbCoreModel cI cB cZ h h_memory h_reg h_kept h_pending h_active h_priorities q_size c_n c_z c_c c_v c_keptFlags c_bad c_h c_after c_entered c_mask c_asleep c_lockup c_counts c_counter c_reload c_current c_memory c_reg c_kept c_pending c_active c_priorities) H → va_D A (wd_ThumbCoreModel cI cB cZ h h_memory h_reg h_kept h_pending h_active h_priorities q_size c_n c_z c_c c_v c_keptFlags c_bad c_h c_after c_entered c_mask c_asleep c_lockup c_counts c_counter c_reload c_current c_memory c_reg c_kept c_pending c_active c_priorities) → va_S A s.heap H locs → lv_has ls 6 [(2, .int y2)] → FF = k_ThumbCoreModel_perform_84 q_size c_h c_priorities c_n c_z c_c c_v c_bad c_after c_entered c_mask c_asleep c_lockup c_current c_memory c_reg c_pending c_active y2 z1 z3 z4 → (vp_in z1 16) → W p l e rm_ThumbCoreModel_perform s m ([.ref h] : List Value).toArray below meth c H locs 0 0 Q (F0 m 84 ls [.int z4, .int z3, .ref h, .int z1, .ref h_reg]) := by
    intro H locs ls c_n c_z c_c c_v c_bad c_after c_entered c_mask c_asleep c_lockup c_current c_memory c_reg c_pending c_active y2 z1 z3 z4 hP hD hS hl hq hi_z1
    refine lv_iload_n hx hb d_ThumbCoreModel_perform_84 rfl (lv_at hl 0 rfl) ?_
    exact J_85 H locs ls c_n c_z c_c c_v c_bad c_after c_entered c_mask c_asleep c_lockup c_current c_memory c_reg c_pending c_active z1 z3 z4 y2 hP hD hS (lv_sub hl [] rfl) hq hi_z1
  have hq : FF = f_ThumbCoreModel_perform q_size c_h c_priorities c_n c_z c_c c_v c_bad c_after c_entered c_mask c_asleep c_lockup c_current c_memory c_reg c_pending c_active := hF.symm
  revert hP hD hS
  suffices G : ∀ (H : Heap) (locs : List Loc), va_P D tcl (wd_ThumbCoreModel cI cB cZ h h_memory h_reg h_kept h_pending h_active h_priorities q_size c_n c_z c_c c_v c_keptFlags c_bad c_h c_after c_entered c_mask c_asleep c_lockup c_counts c_counter c_reload c_current c_memory c_reg c_kept c_pending c_active c_priorities) H → va_D A (wd_ThumbCoreModel cI cB cZ h h_memory h_reg h_kept h_pending h_active h_priorities q_size c_n c_z c_c c_v c_keptFlags c_bad c_h c_after c_entered c_mask c_asleep c_lockup c_counts c_counter c_reload c_current c_memory c_reg c_kept c_pending c_active c_priorities) → va_S A s.heap H locs → W p l e rm_ThumbCoreModel_perform s m ([.ref h] : List Value).toArray below meth c H locs 0 0 Q (F0 m 0 ls []) from fun hP hD hS => G _ _ hP hD hS
  intro H locs hP hD hS
  refine lv_aload_n hx hb d_ThumbCoreModel_perform_0 rfl (lv_at hl 0 rfl) ?_
  refine va_get (D := D) (ci := 5) (v := .int c_h) (C := R_ThumbCoreModel) (T := F_ThumbCoreModel) (N := 23) hx hb hts u_ThumbCoreModel hown hK hP 0 rfl rfl 10 (by decide) (hts _ wf_ThumbCoreModel_125) (fun _ h9 => h9) rfl d_ThumbCoreModel_perform_1 ?_
  refine lv_bipush (v := 11) hx hb d_ThumbCoreModel_perform_4 (by decide) ?_
  refine lv_ishr hx hb d_ThumbCoreModel_perform_6 ?_
  refine lv_topi (fun v1 e_v1 => ?_)
  have hq := tc_nm hq e_v1
  refine lv_istore_n (lv' := [(1, .int v1), (0, .ref h)]) hx hb d_ThumbCoreModel_perform_7 rfl hl (by decide) rfl (fun ls hl => ?_)
  refine lv_aload_n hx hb d_ThumbCoreModel_perform_8 rfl (lv_at hl 1 rfl) ?_
  refine va_get (D := D) (ci := 5) (v := .int c_h) (C := R_ThumbCoreModel) (T := F_ThumbCoreModel) (N := 23) hx hb hts u_ThumbCoreModel hown hK hP 0 rfl rfl 10 (by decide) (hts _ wf_ThumbCoreModel_125) (fun _ h9 => h9) rfl d_ThumbCoreModel_perform_9 ?_
  refine lv_bipush (v := 6) hx hb d_ThumbCoreModel_perform_12 (by decide) ?_
  refine lv_ishr hx hb d_ThumbCoreModel_perform_14 ?_
  refine lv_bipush (v := 31) hx hb d_ThumbCoreModel_perform_15 (by decide) ?_
  refine lv_iand hx hb d_ThumbCoreModel_perform_17 ?_
  refine lv_topi (fun v2 e_v2 => ?_)
  have hq := tc_nm hq e_v2
  refine lv_istore_n (lv' := [(2, .int v2), (1, .int v1), (0, .ref h)]) hx hb d_ThumbCoreModel_perform_18 rfl hl (by decide) rfl (fun ls hl => ?_)
  refine lv_aload_n hx hb d_ThumbCoreModel_perform_19 rfl (lv_at hl 2 rfl) ?_
  refine va_get (D := D) (ci := 5) (v := .ref h_reg) (C := R_ThumbCoreModel) (T := F_ThumbCoreModel) (N := 23) hx hb hts u_ThumbCoreModel hown hK hP 0 rfl rfl 2 (by decide) (hts _ wf_ThumbCoreModel_13) (fun _ h9 => h9) rfl d_ThumbCoreModel_perform_20 ?_
  refine lv_bipush (v := 15) hx hb d_ThumbCoreModel_perform_23 (by decide) ?_
  refine va_iald hx hb hK hP 2 0 rfl rfl (by show ¬ (_ ∨ _); decide) d_ThumbCoreModel_perform_25 ?_
  refine lv_iconst (v := 4) hx hb d_ThumbCoreModel_perform_26 (by decide) ?_
  refine lv_iadd hx hb d_ThumbCoreModel_perform_27 ?_
  refine lv_topi (fun v3 e_v3 => ?_)
  have hq := tc_nm hq e_v3
  refine lv_istore_n (lv' := [(3, .int v3), (2, .int v2), (1, .int v1), (0, .ref h)]) hx hb d_ThumbCoreModel_perform_28 rfl hl (by decide) rfl (fun ls hl => ?_)
  refine lv_aload_n hx hb d_ThumbCoreModel_perform_29 rfl (lv_at hl 3 rfl) ?_
  refine va_get (D := D) (ci := 5) (v := .ref h_reg) (C := R_ThumbCoreModel) (T := F_ThumbCoreModel) (N := 23) hx hb hts u_ThumbCoreModel hown hK hP 0 rfl rfl 2 (by decide) (hts _ wf_ThumbCoreModel_13) (fun _ h9 => h9) rfl d_ThumbCoreModel_perform_30 ?_
  refine lv_aload_n hx hb d_ThumbCoreModel_perform_33 rfl (lv_at hl 3 rfl) ?_
  refine lv_iconst (v := 3) hx hb d_ThumbCoreModel_perform_34 (by decide) ?_
  refine tc_rd (va_runV (As := [.int 3]) (rest := [.ref h_reg]) ⟨hx, hb, hml, hown, hts⟩ (c_ThumbCoreModel_field l D cI cB cZ h h_memory h_reg h_kept h_pending h_active h_priorities H.size q_size c_n c_z c_c c_v c_keptFlags c_bad c_h c_after c_entered c_mask c_asleep c_lockup c_counts c_counter c_reload c_current c_memory c_reg c_kept c_pending c_active c_priorities 3) (cwV 1 hts (tc_gV wl_ThumbCoreModel_128 wm_ThumbCoreModel_field ws_ThumbCoreModel_field wi_ThumbCoreModel wc_ThumbCoreModel_field) rfl rfl rfl (by decide +kernel) ⟨Nat.le_of_ble_eq_true rfl, Nat.le_of_ble_eq_true rfl⟩) (tc_preV hK hN hP hD [0, 1, 2, 3, 4, 5, 6] rfl (by decide) (q0 := 0) rfl rfl) rfl rfl hl.1 rfl (lv_room (Nat.le_of_ble_eq_true rfl)) d_ThumbCoreModel_perform_35 (by decide)) ?_
  refine lv_topi (fun v4 e_v4 => ?_)
  have hq := tc_nm hq e_v4
  refine va_iald hx hb hK hP 2 0 rfl rfl (tc_enF e_v4) d_ThumbCoreModel_perform_38 ?_
  refine lv_topi (fun v5 e_v5 => ?_)
  have hq := tc_nm hq e_v5
  refine lv_istore (lv' := [(4, .int v5), (3, .int v3), (2, .int v2), (1, .int v1), (0, .ref h)]) hx hb d_ThumbCoreModel_perform_39 hl (by decide) rfl (fun ls hl => ?_)
  refine lv_iconst (v := 4) hx hb d_ThumbCoreModel_perform_41 (by decide) ?_
  refine lv_aload_n hx hb d_ThumbCoreModel_perform_42 rfl (lv_at hl 4 rfl) ?_
  refine va_get (D := D) (ci := 5) (v := .int c_h) (C := R_ThumbCoreModel) (T := F_ThumbCoreModel) (N := 23) hx hb hts u_ThumbCoreModel hown hK hP 0 rfl rfl 10 (by decide) (hts _ wf_ThumbCoreModel_125) (fun _ h9 => h9) rfl d_ThumbCoreModel_perform_43 ?_
  refine lv_sipush (v := 255) hx hb d_ThumbCoreModel_perform_46 (by decide) ?_
  refine lv_iand hx hb d_ThumbCoreModel_perform_49 ?_
  refine lv_imul hx hb d_ThumbCoreModel_perform_50 ?_
  refine lv_topi (fun v6 e_v6 => ?_)
  have hq := tc_nm hq e_v6
  refine lv_istore (lv' := [(5, .int v6), (4, .int v5), (3, .int v3), (2, .int v2), (1, .int v1), (0, .ref h)]) hx hb d_ThumbCoreModel_perform_51 hl (by decide) rfl (fun ls hl => ?_)
  refine lv_iload_n hx hb d_ThumbCoreModel_perform_53 rfl (lv_at hl 4 rfl) ?_
  refine lv_iconst (v := 3) hx hb d_ThumbCoreModel_perform_54 (by decide) ?_
  refine lv_icmp_ge (tgt := 92) hx hb d_ThumbCoreModel_perform_55 (by decide) (fun g_55 => ?_) (fun g_55 => ?_)
  · have hq := hq.trans (if_pos g_55)
    refine lv_iload_n hx hb d_ThumbCoreModel_perform_92 rfl (lv_at hl 4 rfl) ?_
    refine lv_iconst (v := 3) hx hb d_ThumbCoreModel_perform_93 (by decide) ?_
    refine lv_icmp_ne (tgt := 104) hx hb d_ThumbCoreModel_perform_94 (by decide) (fun g_94 => ?_) (fun g_94 => ?_)
    · have hq := hq.trans (if_pos g_94)
      refine lv_iload_n hx hb d_ThumbCoreModel_perform_104 rfl (lv_at hl 4 rfl) ?_
      refine lv_bipush (v := 8) hx hb d_ThumbCoreModel_perform_105 (by decide) ?_
      refine lv_icmp_ge (tgt := 118) hx hb d_ThumbCoreModel_perform_107 (by decide) (fun g_107 => ?_) (fun g_107 => ?_)
      · have hq := hq.trans (if_pos g_107)
        refine lv_iload_n hx hb d_ThumbCoreModel_perform_118 rfl (lv_at hl 4 rfl) ?_
        refine lv_bipush (v := 8) hx hb d_ThumbCoreModel_perform_119 (by decide) ?_
        refine lv_icmp_ne (tgt := 150) hx hb d_ThumbCoreModel_perform_121 (by decide) (fun g_121 => ?_) (fun g_121 => ?_)
        · have hq := hq.trans (if_pos g_121)
          refine lv_iload_n hx hb d_ThumbCoreModel_perform_150 rfl (lv_at hl 4 rfl) ?_
          refine lv_bipush (v := 9) hx hb d_ThumbCoreModel_perform_151 (by decide) ?_
          refine lv_icmp_ne (tgt := 177) hx hb d_ThumbCoreModel_perform_153 (by decide) (fun g_153 => ?_) (fun g_153 => ?_)
          · have hq := hq.trans (if_pos g_153)
            refine lv_iload_n hx hb d_ThumbCoreModel_perform_177 rfl (lv_at hl 4 rfl) ?_
            refine lv_bipush (v := 12) hx hb d_ThumbCoreModel_perform_178 (by decide) ?_
            refine lv_icmp_ge (tgt := 219) hx hb d_ThumbCoreModel_perform_180 (by decide) (fun g_180 => ?_) (fun g_180 => ?_)
            · have hq := hq.trans (if_pos g_180)
              refine lv_iload_n hx hb d_ThumbCoreModel_perform_219 rfl (lv_at hl 4 rfl) ?_
              refine lv_bipush (v := 14) hx hb d_ThumbCoreModel_perform_220 (by decide) ?_
              refine lv_icmp_ge (tgt := 254) hx hb d_ThumbCoreModel_perform_222 (by decide) (fun g_222 => ?_) (fun g_222 => ?_)
              · have hq := hq.trans (if_pos g_222)
                refine lv_iload_n hx hb d_ThumbCoreModel_perform_254 rfl (lv_at hl 4 rfl) ?_
                refine lv_bipush (v := 16) hx hb d_ThumbCoreModel_perform_255 (by decide) ?_
                refine lv_icmp_ge (tgt := 288) hx hb d_ThumbCoreModel_perform_257 (by decide) (fun g_257 => ?_) (fun g_257 => ?_)
                · have hq := hq.trans (if_pos g_257)
                  refine lv_iload_n hx hb d_ThumbCoreModel_perform_288 rfl (lv_at hl 4 rfl) ?_
                  refine lv_bipush (v := 18) hx hb d_ThumbCoreModel_perform_289 (by decide) ?_
                  refine lv_icmp_ge (tgt := 323) hx hb d_ThumbCoreModel_perform_291 (by decide) (fun g_291 => ?_) (fun g_291 => ?_)
                  · have hq := hq.trans (if_pos g_291)
                    refine lv_iload_n hx hb d_ThumbCoreModel_perform_323 rfl (lv_at hl 4 rfl) ?_
                    refine lv_bipush (v := 20) hx hb d_ThumbCoreModel_perform_324 (by decide) ?_
                    refine lv_icmp_ge (tgt := 363) hx hb d_ThumbCoreModel_perform_326 (by decide) (fun g_326 => ?_) (fun g_326 => ?_)
                    · have hq := hq.trans (if_pos g_326)
                      refine lv_iload_n hx hb d_ThumbCoreModel_perform_363 rfl (lv_at hl 4 rfl) ?_
                      refine lv_bipush (v := 22) hx hb d_ThumbCoreModel_perform_364 (by decide) ?_
                      refine lv_icmp_ge (tgt := 406) hx hb d_ThumbCoreModel_perform_366 (by decide) (fun g_366 => ?_) (fun g_366 => ?_)
                      · have hq := hq.trans (if_pos g_366)
                        refine lv_iload_n hx hb d_ThumbCoreModel_perform_406 rfl (lv_at hl 4 rfl) ?_
                        refine lv_bipush (v := 24) hx hb d_ThumbCoreModel_perform_407 (by decide) ?_
                        refine lv_icmp_ge (tgt := 419) hx hb d_ThumbCoreModel_perform_409 (by decide) (fun g_409 => ?_) (fun g_409 => ?_)
                        · have hq := hq.trans (if_pos g_409)
                          refine lv_iload_n hx hb d_ThumbCoreModel_perform_419 rfl (lv_at hl 4 rfl) ?_
                          refine lv_bipush (v := 26) hx hb d_ThumbCoreModel_perform_420 (by decide) ?_
                          refine lv_icmp_ge (tgt := 443) hx hb d_ThumbCoreModel_perform_422 (by decide) (fun g_422 => ?_) (fun g_422 => ?_)
                          · have hq := hq.trans (if_pos g_422)
                            refine lv_iload_n hx hb d_ThumbCoreModel_perform_443 rfl (lv_at hl 4 rfl) ?_
                            refine lv_bipush (v := 28) hx hb d_ThumbCoreModel_perform_444 (by decide) ?_
                            refine lv_icmp_ge (tgt := 456) hx hb d_ThumbCoreModel_perform_446 (by decide) (fun g_446 => ?_) (fun g_446 => ?_)
                            · have hq := hq.trans (if_pos g_446)
                              refine lv_iload_n hx hb d_ThumbCoreModel_perform_456 rfl (lv_at hl 4 rfl) ?_
                              refine lv_bipush (v := 28) hx hb d_ThumbCoreModel_perform_457 (by decide) ?_
                              refine lv_icmp_ne (tgt := 483) hx hb d_ThumbCoreModel_perform_459 (by decide) (fun g_459 => ?_) (fun g_459 => ?_)
                              · have hq := hq.trans (if_pos g_459)
                                refine lv_iload_n hx hb d_ThumbCoreModel_perform_483 rfl (lv_at hl 4 rfl) ?_
                                refine lv_bipush (v := 30) hx hb d_ThumbCoreModel_perform_484 (by decide) ?_
                                refine lv_icmp_ne (tgt := 496) hx hb d_ThumbCoreModel_perform_486 (by decide) (fun g_486 => ?_) (fun g_486 => ?_)
                                · have hq := hq.trans (if_pos g_486)
                                  refine lv_aload_n hx hb d_ThumbCoreModel_perform_496 rfl (lv_at hl 5 rfl) ?_
                                  refine lv_iconst (v := 1) hx hb d_ThumbCoreModel_perform_497 (by decide) ?_
                                  refine va_put (D := D) (ci := 5) (v := .int (bI true)) (ty := .boolean) (C := R_ThumbCoreModel) (T := F_ThumbCoreModel) (N := 23) hx hb hts u_ThumbCoreModel t_ThumbCoreModel t_ThumbCoreModel_ok n_ThumbCoreModel hown hK hP hD hS 0 rfl rfl 9 (by decide) (hts _ wf_ThumbCoreModel_41) (fun _ h9 => h9) rfl (by decide +kernel) (tc_nb true) (tc_fb true) (Nat.le_of_ble_eq_true rfl) d_ThumbCoreModel_perform_498 (fun H locs hP hD hS => ?_)
                                  have hP : va_P D tcl (wd_ThumbCoreModel cI cB cZ h h_memory h_reg h_kept h_pending h_active h_priorities q_size c_n c_z c_c c_v c_keptFlags true c_h c_after c_entered c_mask c_asleep c_lockup c_counts c_counter c_reload c_current c_memory c_reg c_kept c_pending c_active c_priorities) H := hP
                                  have hD : va_D A (wd_ThumbCoreModel cI cB cZ h h_memory h_reg h_kept h_pending h_active h_priorities q_size c_n c_z c_c c_v c_keptFlags true c_h c_after c_entered c_mask c_asleep c_lockup c_counts c_counter c_reload c_current c_memory c_reg c_kept c_pending c_active c_priorities) := hD
                                  exact RET H locs ls 501 (c_n, c_z, c_c, c_v, true, c_after, c_entered, c_mask, c_asleep, c_lockup, c_current, c_memory, c_reg, c_pending, c_active) d_ThumbCoreModel_perform_501 hP hD hS hq
                                · have hq := hq.trans (if_neg (fun g => g g_486))
                                  refine lv_aload_n hx hb d_ThumbCoreModel_perform_489 rfl (lv_at hl 5 rfl) ?_
                                  refine tc_mv (wo := fun u => (wd_ThumbCoreModel cI cB cZ h h_memory h_reg h_kept h_pending h_active h_priorities q_size c_n c_z c_c c_v c_keptFlags u.1 c_h u.2.1 c_entered c_mask c_asleep c_lockup c_counts c_counter c_reload c_current c_memory u.2.2 c_kept c_pending c_active c_priorities)) (va_runV (As := []) (rest := []) ⟨hx, hb, hml, hown, hts⟩ (c_ThumbCoreModel_far l D cI cB cZ h h_memory h_reg h_kept h_pending h_active h_priorities H.size q_size c_n c_z c_c c_v c_keptFlags c_bad c_h c_after c_entered c_mask c_asleep c_lockup c_counts c_counter c_reload c_current c_memory c_reg c_kept c_pending c_active c_priorities hm) (cwV 0 hts (tc_gV wl_ThumbCoreModel_196 wm_ThumbCoreModel_far ws_ThumbCoreModel_far wi_ThumbCoreModel wc_ThumbCoreModel_far) rfl rfl rfl (by decide +kernel) ⟨Nat.le_of_ble_eq_true rfl, Nat.le_of_ble_eq_true rfl⟩) (tc_preV hK hN hP hD [0, 1, 2, 3, 4, 5, 6] rfl (by decide) (q0 := 0) rfl rfl) rfl rfl hl.1 rfl (lv_room (Nat.le_of_ble_eq_true rfl)) d_ThumbCoreModel_perform_490 (by decide)) hP hD hS hA [0, 1, 2, 3, 4, 5, 6] [] [0, 1, 2, 3, 4, 5, 6] rfl rfl (by decide) (by decide) (by decide) (fun _ => rfl) (fun u H locs hu hP hD hS => ?_)
                                  obtain ⟨s7, s8, s9⟩ := u
                                  have hq := hq.trans (un3_eq hu _)
                                  have e_s7 := hu
                                  have hP : va_P D tcl (wd_ThumbCoreModel cI cB cZ h h_memory h_reg h_kept h_pending h_active h_priorities q_size c_n c_z c_c c_v c_keptFlags s7 c_h s8 c_entered c_mask c_asleep c_lockup c_counts c_counter c_reload c_current c_memory s9 c_kept c_pending c_active c_priorities) H := hP
                                  have hD : va_D A (wd_ThumbCoreModel cI cB cZ h h_memory h_reg h_kept h_pending h_active h_priorities q_size c_n c_z c_c c_v c_keptFlags s7 c_h s8 c_entered c_mask c_asleep c_lockup c_counts c_counter c_reload c_current c_memory s9 c_kept c_pending c_active c_priorities) := hD
                                  refine lv_goto (tgt := 501) hx hb d_ThumbCoreModel_perform_493 (by decide) ?_
                                  exact RET H locs ls 501 (c_n, c_z, c_c, c_v, s7, s8, c_entered, c_mask, c_asleep, c_lockup, c_current, c_memory, s9, c_pending, c_active) d_ThumbCoreModel_perform_501 hP hD hS hq
                              · have hq := hq.trans (if_neg (fun g => g g_459))
                                refine lv_aload_n hx hb d_ThumbCoreModel_perform_462 rfl (lv_at hl 5 rfl) ?_
                                refine lv_iload_n hx hb d_ThumbCoreModel_perform_463 rfl (lv_at hl 2 rfl) ?_
                                refine lv_iconst (v := 2) hx hb d_ThumbCoreModel_perform_464 (by decide) ?_
                                refine lv_aload_n hx hb d_ThumbCoreModel_perform_465 rfl (lv_at hl 5 rfl) ?_
                                refine va_get (D := D) (ci := 5) (v := .int c_h) (C := R_ThumbCoreModel) (T := F_ThumbCoreModel) (N := 23) hx hb hts u_ThumbCoreModel hown hK hP 0 rfl rfl 10 (by decide) (hts _ wf_ThumbCoreModel_125) (fun _ h9 => h9) rfl d_ThumbCoreModel_perform_466 ?_
                                refine lv_bipush (v := 21) hx hb d_ThumbCoreModel_perform_469 (by decide) ?_
                                refine lv_ishl hx hb d_ThumbCoreModel_perform_471 ?_
                                refine lv_bipush (v := 21) hx hb d_ThumbCoreModel_perform_472 (by decide) ?_
                                refine lv_ishr hx hb d_ThumbCoreModel_perform_474 ?_
                                refine lv_imul hx hb d_ThumbCoreModel_perform_475 ?_
                                refine lv_iadd hx hb d_ThumbCoreModel_perform_476 ?_
                                refine lv_topi (fun v10 e_v10 => ?_)
                                have hq := tc_nm hq e_v10
                                refine va_put (D := D) (ci := 5) (v := .int v10) (ty := .int) (C := R_ThumbCoreModel) (T := F_ThumbCoreModel) (N := 23) hx hb hts u_ThumbCoreModel t_ThumbCoreModel t_ThumbCoreModel_ok n_ThumbCoreModel hown hK hP hD hS 0 rfl rfl 11 (by decide) (hts _ wf_ThumbCoreModel_115) (fun _ h9 => h9) rfl (by decide +kernel) rfl rfl (Nat.le_of_ble_eq_true rfl) d_ThumbCoreModel_perform_477 (fun H locs hP hD hS => ?_)
                                have hP : va_P D tcl (wd_ThumbCoreModel cI cB cZ h h_memory h_reg h_kept h_pending h_active h_priorities q_size c_n c_z c_c c_v c_keptFlags c_bad c_h v10 c_entered c_mask c_asleep c_lockup c_counts c_counter c_reload c_current c_memory c_reg c_kept c_pending c_active c_priorities) H := hP
                                have hD : va_D A (wd_ThumbCoreModel cI cB cZ h h_memory h_reg h_kept h_pending h_active h_priorities q_size c_n c_z c_c c_v c_keptFlags c_bad c_h v10 c_entered c_mask c_asleep c_lockup c_counts c_counter c_reload c_current c_memory c_reg c_kept c_pending c_active c_priorities) := hD
                                refine lv_goto (tgt := 501) hx hb d_ThumbCoreModel_perform_480 (by decide) ?_
                                exact RET H locs ls 501 (c_n, c_z, c_c, c_v, c_bad, v10, c_entered, c_mask, c_asleep, c_lockup, c_current, c_memory, c_reg, c_pending, c_active) d_ThumbCoreModel_perform_501 hP hD hS hq
                            · have hq := hq.trans (if_neg g_446)
                              refine lv_aload_n hx hb d_ThumbCoreModel_perform_449 rfl (lv_at hl 5 rfl) ?_
                              refine tc_mv (wo := fun u => (wd_ThumbCoreModel cI cB cZ h h_memory h_reg h_kept h_pending h_active h_priorities q_size c_n c_z c_c c_v c_keptFlags u.1 c_h u.2.1 u.2.2.1 c_mask c_asleep u.2.2.2.1 c_counts c_counter c_reload u.2.2.2.2.1 u.2.2.2.2.2.1 u.2.2.2.2.2.2.1 c_kept u.2.2.2.2.2.2.2.1 u.2.2.2.2.2.2.2.2 c_priorities)) (va_runV (As := []) (rest := []) ⟨hx, hb, hml, hown, hts⟩ (c_ThumbCoreModel_branch l D cI cB cZ h h_memory h_reg h_kept h_pending h_active h_priorities H.size q_size c_n c_z c_c c_v c_keptFlags c_bad c_h c_after c_entered c_mask c_asleep c_lockup c_counts c_counter c_reload c_current c_memory c_reg c_kept c_pending c_active c_priorities hm) (cwV 0 hts (tc_gV wl_ThumbCoreModel_193 wm_ThumbCoreModel_branch ws_ThumbCoreModel_branch wi_ThumbCoreModel wc_ThumbCoreModel_branch) rfl rfl rfl (by decide +kernel) ⟨Nat.le_of_ble_eq_true rfl, Nat.le_of_ble_eq_true rfl⟩) (tc_preV hK hN hP hD [0, 1, 2, 3, 4, 5, 6] rfl (by decide) (q0 := 0) rfl rfl) rfl rfl hl.1 rfl (lv_room (Nat.le_of_ble_eq_true rfl)) d_ThumbCoreModel_perform_450 (by decide)) hP hD hS hA [0, 1, 2, 3, 4, 5, 6] [] [0, 1, 2, 3, 4, 5, 6] rfl rfl (by decide) (by decide) (by decide) (fun _ => rfl) (fun u H locs hu hP hD hS => ?_)
                              obtain ⟨s11, s12, s13, s14, s15, s16, s17, s18, s19⟩ := u
                              have hq := hq.trans (un9_eq hu _)
                              have e_s11 := hu
                              have hP : va_P D tcl (wd_ThumbCoreModel cI cB cZ h h_memory h_reg h_kept h_pending h_active h_priorities q_size c_n c_z c_c c_v c_keptFlags s11 c_h s12 s13 c_mask c_asleep s14 c_counts c_counter c_reload s15 s16 s17 c_kept s18 s19 c_priorities) H := hP
                              have hD : va_D A (wd_ThumbCoreModel cI cB cZ h h_memory h_reg h_kept h_pending h_active h_priorities q_size c_n c_z c_c c_v c_keptFlags s11 c_h s12 s13 c_mask c_asleep s14 c_counts c_counter c_reload s15 s16 s17 c_kept s18 s19 c_priorities) := hD
                              refine lv_goto (tgt := 501) hx hb d_ThumbCoreModel_perform_453 (by decide) ?_
                              exact RET H locs ls 501 (c_n, c_z, c_c, c_v, s11, s12, s13, c_mask, c_asleep, s14, s15, s16, s17, s18, s19) d_ThumbCoreModel_perform_501 hP hD hS hq
                          · have hq := hq.trans (if_neg g_422)
                            refine lv_aload_n hx hb d_ThumbCoreModel_perform_425 rfl (lv_at hl 5 rfl) ?_
                            refine lv_iload_n hx hb d_ThumbCoreModel_perform_426 rfl (lv_at hl 4 rfl) ?_
                            refine lv_bipush (v := 25) hx hb d_ThumbCoreModel_perform_427 (by decide) ?_
                            refine lv_icmp_ne (tgt := 436) hx hb d_ThumbCoreModel_perform_429 (by decide) (fun g_429 => ?_) (fun g_429 => ?_)
                            · have hq := hq.trans (if_pos g_429)
                              refine lv_iconst (v := 0) hx hb d_ThumbCoreModel_perform_436 (by decide) ?_
                              exact J_437 H locs ls c_n c_z c_c c_v c_bad c_after c_entered c_mask c_asleep c_lockup c_current c_memory c_reg c_pending c_active false hP hD hS (lv_sub hl [] rfl) hq
                            · have hq := hq.trans (if_neg (fun g => g g_429))
                              refine lv_iconst (v := 1) hx hb d_ThumbCoreModel_perform_432 (by decide) ?_
                              refine lv_goto (tgt := 437) hx hb d_ThumbCoreModel_perform_433 (by decide) ?_
                              exact J_437 H locs ls c_n c_z c_c c_v c_bad c_after c_entered c_mask c_asleep c_lockup c_current c_memory c_reg c_pending c_active true hP hD hS (lv_sub hl [] rfl) hq
                        · have hq := hq.trans (if_neg g_409)
                          refine lv_aload_n hx hb d_ThumbCoreModel_perform_412 rfl (lv_at hl 5 rfl) ?_
                          refine tc_mv (wo := fun u => (wd_ThumbCoreModel cI cB cZ h h_memory h_reg h_kept h_pending h_active h_priorities q_size u.1 u.2.1 u.2.2.1 u.2.2.2.1 c_keptFlags u.2.2.2.2.1 c_h u.2.2.2.2.2.1 c_entered u.2.2.2.2.2.2.1 u.2.2.2.2.2.2.2.1 c_lockup c_counts c_counter c_reload u.2.2.2.2.2.2.2.2.1 u.2.2.2.2.2.2.2.2.2.1 u.2.2.2.2.2.2.2.2.2.2.1 c_kept c_pending u.2.2.2.2.2.2.2.2.2.2.2 c_priorities)) (va_runV (As := []) (rest := []) ⟨hx, hb, hml, hown, hts⟩ (c_ThumbCoreModel_kinds l D cI cB cZ h h_memory h_reg h_kept h_pending h_active h_priorities H.size q_size c_n c_z c_c c_v c_keptFlags c_bad c_h c_after c_entered c_mask c_asleep c_lockup c_counts c_counter c_reload c_current c_memory c_reg c_kept c_pending c_active c_priorities hm hi_c_current) (cwV 0 hts (tc_gV wl_ThumbCoreModel_186 wm_ThumbCoreModel_kinds ws_ThumbCoreModel_kinds wi_ThumbCoreModel wc_ThumbCoreModel_kinds) rfl rfl rfl (by decide +kernel) ⟨Nat.le_of_ble_eq_true rfl, Nat.le_of_ble_eq_true rfl⟩) (tc_preV hK hN hP hD [0, 1, 2, 3, 4, 5, 6] rfl (by decide) (q0 := 0) rfl rfl) rfl rfl hl.1 rfl (lv_room (Nat.le_of_ble_eq_true rfl)) d_ThumbCoreModel_perform_413 (by decide)) hP hD hS hA [0, 1, 2, 3, 4, 5, 6] [] [0, 1, 2, 3, 4, 5, 6] rfl rfl (by decide) (by decide) (by decide) (fun _ => rfl) (fun u H locs hu hP hD hS => ?_)
                          obtain ⟨s20, s21, s22, s23, s24, s25, s26, s27, s28, s29, s30, s31⟩ := u
                          have hq := hq.trans (un12_eq hu _)
                          have e_s20 := hu
                          have hP : va_P D tcl (wd_ThumbCoreModel cI cB cZ h h_memory h_reg h_kept h_pending h_active h_priorities q_size s20 s21 s22 s23 c_keptFlags s24 c_h s25 c_entered s26 s27 c_lockup c_counts c_counter c_reload s28 s29 s30 c_kept c_pending s31 c_priorities) H := hP
                          have hD : va_D A (wd_ThumbCoreModel cI cB cZ h h_memory h_reg h_kept h_pending h_active h_priorities q_size s20 s21 s22 s23 c_keptFlags s24 c_h s25 c_entered s26 s27 c_lockup c_counts c_counter c_reload s28 s29 s30 c_kept c_pending s31 c_priorities) := hD
                          refine lv_goto (tgt := 501) hx hb d_ThumbCoreModel_perform_416 (by decide) ?_
                          exact RET H locs ls 501 (s20, s21, s22, s23, s24, s25, c_entered, s26, s27, c_lockup, s28, s29, s30, c_pending, s31) d_ThumbCoreModel_perform_501 hP hD hS hq
                      · have hq := hq.trans (if_neg g_366)
                        refine lv_aload_n hx hb d_ThumbCoreModel_perform_369 rfl (lv_at hl 5 rfl) ?_
                        refine va_get (D := D) (ci := 5) (v := .ref h_reg) (C := R_ThumbCoreModel) (T := F_ThumbCoreModel) (N := 23) hx hb hts u_ThumbCoreModel hown hK hP 0 rfl rfl 2 (by decide) (hts _ wf_ThumbCoreModel_13) (fun _ h9 => h9) rfl d_ThumbCoreModel_perform_370 ?_
                        refine lv_aload_n hx hb d_ThumbCoreModel_perform_373 rfl (lv_at hl 5 rfl) ?_
                        refine lv_bipush (v := 8) hx hb d_ThumbCoreModel_perform_374 (by decide) ?_
                        refine tc_rd (va_runV (As := [.int 8]) (rest := [.ref h_reg]) ⟨hx, hb, hml, hown, hts⟩ (c_ThumbCoreModel_field l D cI cB cZ h h_memory h_reg h_kept h_pending h_active h_priorities H.size q_size c_n c_z c_c c_v c_keptFlags c_bad c_h c_after c_entered c_mask c_asleep c_lockup c_counts c_counter c_reload c_current c_memory c_reg c_kept c_pending c_active c_priorities 8) (cwV 1 hts (tc_gV wl_ThumbCoreModel_128 wm_ThumbCoreModel_field ws_ThumbCoreModel_field wi_ThumbCoreModel wc_ThumbCoreModel_field) rfl rfl rfl (by decide +kernel) ⟨Nat.le_of_ble_eq_true rfl, Nat.le_of_ble_eq_true rfl⟩) (tc_preV hK hN hP hD [0, 1, 2, 3, 4, 5, 6] rfl (by decide) (q0 := 0) rfl rfl) rfl rfl hl.1 rfl (lv_room (Nat.le_of_ble_eq_true rfl)) d_ThumbCoreModel_perform_376 (by decide)) ?_
                        refine lv_topi (fun v32 e_v32 => ?_)
                        have hq := tc_nm hq e_v32
                        refine lv_iload_n hx hb d_ThumbCoreModel_perform_379 rfl (lv_at hl 4 rfl) ?_
                        refine lv_bipush (v := 20) hx hb d_ThumbCoreModel_perform_380 (by decide) ?_
                        refine lv_icmp_ne (tgt := 392) hx hb d_ThumbCoreModel_perform_382 (by decide) (fun g_382 => ?_) (fun g_382 => ?_)
                        · have hq := hq.trans (if_pos g_382)
                          refine lv_aload_n hx hb d_ThumbCoreModel_perform_392 rfl (lv_at hl 5 rfl) ?_
                          refine va_get (D := D) (ci := 5) (v := .ref h_reg) (C := R_ThumbCoreModel) (T := F_ThumbCoreModel) (N := 23) hx hb hts u_ThumbCoreModel hown hK hP 0 rfl rfl 2 (by decide) (hts _ wf_ThumbCoreModel_13) (fun _ h9 => h9) rfl d_ThumbCoreModel_perform_393 ?_
                          refine lv_bipush (v := 13) hx hb d_ThumbCoreModel_perform_396 (by decide) ?_
                          refine va_iald hx hb hK hP 2 0 rfl rfl (by show ¬ (_ ∨ _); decide) d_ThumbCoreModel_perform_398 ?_
                          exact J_399 H locs ls c_n c_z c_c c_v c_bad c_after c_entered c_mask c_asleep c_lockup c_current c_memory c_reg c_pending c_active v6 v32 (c_reg (13 : Int32).toNatClampNeg) hP hD hS (lv_sub hl [0] rfl) hq (tc_enF e_v32)
                        · have hq := hq.trans (if_neg (fun g => g g_382))
                          refine lv_iload_n hx hb d_ThumbCoreModel_perform_385 rfl (lv_at hl 2 rfl) ?_
                          refine lv_bipush (v := (-4)) hx hb d_ThumbCoreModel_perform_386 (by decide) ?_
                          refine lv_iand hx hb d_ThumbCoreModel_perform_388 ?_
                          refine lv_goto (tgt := 399) hx hb d_ThumbCoreModel_perform_389 (by decide) ?_
                          exact J_399 H locs ls c_n c_z c_c c_v c_bad c_after c_entered c_mask c_asleep c_lockup c_current c_memory c_reg c_pending c_active v6 v32 (v3 &&& (-4)) hP hD hS (lv_sub hl [0] rfl) hq (tc_enF e_v32)
                    · have hq := hq.trans (if_neg g_326)
                      refine lv_aload_n hx hb d_ThumbCoreModel_perform_329 rfl (lv_at hl 5 rfl) ?_
                      refine lv_iload_n hx hb d_ThumbCoreModel_perform_330 rfl (lv_at hl 4 rfl) ?_
                      refine lv_bipush (v := 18) hx hb d_ThumbCoreModel_perform_331 (by decide) ?_
                      refine lv_icmp_ne (tgt := 340) hx hb d_ThumbCoreModel_perform_333 (by decide) (fun g_333 => ?_) (fun g_333 => ?_)
                      · have hq := hq.trans (if_pos g_333)
                        refine lv_iconst (v := 4) hx hb d_ThumbCoreModel_perform_340 (by decide) ?_
                        exact J_341 H locs ls c_n c_z c_c c_v c_bad c_after c_entered c_mask c_asleep c_lockup c_current c_memory c_reg c_pending c_active v6 4 hP hD hS (lv_sub hl [5, 0] rfl) hq
                      · have hq := hq.trans (if_neg (fun g => g g_333))
                        refine lv_iconst (v := 0) hx hb d_ThumbCoreModel_perform_336 (by decide) ?_
                        refine lv_goto (tgt := 341) hx hb d_ThumbCoreModel_perform_337 (by decide) ?_
                        exact J_341 H locs ls c_n c_z c_c c_v c_bad c_after c_entered c_mask c_asleep c_lockup c_current c_memory c_reg c_pending c_active v6 0 hP hD hS (lv_sub hl [5, 0] rfl) hq
                  · have hq := hq.trans (if_neg g_291)
                    refine lv_aload_n hx hb d_ThumbCoreModel_perform_294 rfl (lv_at hl 5 rfl) ?_
                    refine lv_iload_n hx hb d_ThumbCoreModel_perform_295 rfl (lv_at hl 4 rfl) ?_
                    refine lv_bipush (v := 16) hx hb d_ThumbCoreModel_perform_296 (by decide) ?_
                    refine lv_icmp_ne (tgt := 305) hx hb d_ThumbCoreModel_perform_298 (by decide) (fun g_298 => ?_) (fun g_298 => ?_)
                    · have hq := hq.trans (if_pos g_298)
                      refine lv_iconst (v := 5) hx hb d_ThumbCoreModel_perform_305 (by decide) ?_
                      exact J_306 H locs ls c_n c_z c_c c_v c_bad c_after c_entered c_mask c_asleep c_lockup c_current c_memory c_reg c_pending c_active v2 v5 5 hP hD hS (lv_sub hl [5, 3, 1] rfl) hq
                    · have hq := hq.trans (if_neg (fun g => g g_298))
                      refine lv_iconst (v := 1) hx hb d_ThumbCoreModel_perform_301 (by decide) ?_
                      refine lv_goto (tgt := 306) hx hb d_ThumbCoreModel_perform_302 (by decide) ?_
                      exact J_306 H locs ls c_n c_z c_c c_v c_bad c_after c_entered c_mask c_asleep c_lockup c_current c_memory c_reg c_pending c_active v2 v5 1 hP hD hS (lv_sub hl [5, 3, 1] rfl) hq
                · have hq := hq.trans (if_neg g_257)
                  refine lv_aload_n hx hb d_ThumbCoreModel_perform_260 rfl (lv_at hl 5 rfl) ?_
                  refine lv_iload_n hx hb d_ThumbCoreModel_perform_261 rfl (lv_at hl 4 rfl) ?_
                  refine lv_bipush (v := 14) hx hb d_ThumbCoreModel_perform_262 (by decide) ?_
                  refine lv_icmp_ne (tgt := 271) hx hb d_ThumbCoreModel_perform_264 (by decide) (fun g_264 => ?_) (fun g_264 => ?_)
                  · have hq := hq.trans (if_pos g_264)
                    refine lv_bipush (v := 6) hx hb d_ThumbCoreModel_perform_271 (by decide) ?_
                    exact J_273 H locs ls c_n c_z c_c c_v c_bad c_after c_entered c_mask c_asleep c_lockup c_current c_memory c_reg c_pending c_active v2 v5 6 hP hD hS (lv_sub hl [5, 3, 1] rfl) hq
                  · have hq := hq.trans (if_neg (fun g => g g_264))
                    refine lv_iconst (v := 2) hx hb d_ThumbCoreModel_perform_267 (by decide) ?_
                    refine lv_goto (tgt := 273) hx hb d_ThumbCoreModel_perform_268 (by decide) ?_
                    exact J_273 H locs ls c_n c_z c_c c_v c_bad c_after c_entered c_mask c_asleep c_lockup c_current c_memory c_reg c_pending c_active v2 v5 2 hP hD hS (lv_sub hl [5, 3, 1] rfl) hq
              · have hq := hq.trans (if_neg g_222)
                refine lv_aload_n hx hb d_ThumbCoreModel_perform_225 rfl (lv_at hl 5 rfl) ?_
                refine lv_iload_n hx hb d_ThumbCoreModel_perform_226 rfl (lv_at hl 4 rfl) ?_
                refine lv_bipush (v := 12) hx hb d_ThumbCoreModel_perform_227 (by decide) ?_
                refine lv_icmp_ne (tgt := 236) hx hb d_ThumbCoreModel_perform_229 (by decide) (fun g_229 => ?_) (fun g_229 => ?_)
                · have hq := hq.trans (if_pos g_229)
                  refine lv_iconst (v := 4) hx hb d_ThumbCoreModel_perform_236 (by decide) ?_
                  exact J_237 H locs ls c_n c_z c_c c_v c_bad c_after c_entered c_mask c_asleep c_lockup c_current c_memory c_reg c_pending c_active v2 v5 4 hP hD hS (lv_sub hl [5, 3, 1] rfl) hq
                · have hq := hq.trans (if_neg (fun g => g g_229))
                  refine lv_iconst (v := 0) hx hb d_ThumbCoreModel_perform_232 (by decide) ?_
                  refine lv_goto (tgt := 237) hx hb d_ThumbCoreModel_perform_233 (by decide) ?_
                  exact J_237 H locs ls c_n c_z c_c c_v c_bad c_after c_entered c_mask c_asleep c_lockup c_current c_memory c_reg c_pending c_active v2 v5 0 hP hD hS (lv_sub hl [5, 3, 1] rfl) hq
            · have hq := hq.trans (if_neg g_180)
              refine lv_aload_n hx hb d_ThumbCoreModel_perform_183 rfl (lv_at hl 5 rfl) ?_
              refine lv_aload_n hx hb d_ThumbCoreModel_perform_184 rfl (lv_at hl 5 rfl) ?_
              refine va_get (D := D) (ci := 5) (v := .int c_h) (C := R_ThumbCoreModel) (T := F_ThumbCoreModel) (N := 23) hx hb hts u_ThumbCoreModel hown hK hP 0 rfl rfl 10 (by decide) (hts _ wf_ThumbCoreModel_125) (fun _ h9 => h9) rfl d_ThumbCoreModel_perform_185 ?_
              refine lv_bipush (v := 9) hx hb d_ThumbCoreModel_perform_188 (by decide) ?_
              refine lv_ishr hx hb d_ThumbCoreModel_perform_190 ?_
              refine lv_bipush (v := 7) hx hb d_ThumbCoreModel_perform_191 (by decide) ?_
              refine lv_iand hx hb d_ThumbCoreModel_perform_193 ?_
              refine lv_aload_n hx hb d_ThumbCoreModel_perform_194 rfl (lv_at hl 5 rfl) ?_
              refine lv_iconst (v := 0) hx hb d_ThumbCoreModel_perform_195 (by decide) ?_
              refine tc_rd (va_runV (As := [.int 0]) (rest := [.int ((o_ishr c_h 9) &&& 7), .ref h]) ⟨hx, hb, hml, hown, hts⟩ (c_ThumbCoreModel_field l D cI cB cZ h h_memory h_reg h_kept h_pending h_active h_priorities H.size q_size c_n c_z c_c c_v c_keptFlags c_bad c_h c_after c_entered c_mask c_asleep c_lockup c_counts c_counter c_reload c_current c_memory c_reg c_kept c_pending c_active c_priorities 0) (cwV 1 hts (tc_gV wl_ThumbCoreModel_128 wm_ThumbCoreModel_field ws_ThumbCoreModel_field wi_ThumbCoreModel wc_ThumbCoreModel_field) rfl rfl rfl (by decide +kernel) ⟨Nat.le_of_ble_eq_true rfl, Nat.le_of_ble_eq_true rfl⟩) (tc_preV hK hN hP hD [0, 1, 2, 3, 4, 5, 6] rfl (by decide) (q0 := 0) rfl rfl) rfl rfl hl.1 rfl (lv_room (Nat.le_of_ble_eq_true rfl)) d_ThumbCoreModel_perform_196 (by decide)) ?_
              refine lv_topi (fun v33 e_v33 => ?_)
              have hq := tc_nm hq e_v33
              refine lv_iload hx hb d_ThumbCoreModel_perform_199 (lv_at hl 1 rfl) ?_
              refine lv_aload_n hx hb d_ThumbCoreModel_perform_201 rfl (lv_at hl 5 rfl) ?_
              refine va_get (D := D) (ci := 5) (v := .ref h_reg) (C := R_ThumbCoreModel) (T := F_ThumbCoreModel) (N := 23) hx hb hts u_ThumbCoreModel hown hK hP 0 rfl rfl 2 (by decide) (hts _ wf_ThumbCoreModel_13) (fun _ h9 => h9) rfl d_ThumbCoreModel_perform_202 ?_
              refine lv_aload_n hx hb d_ThumbCoreModel_perform_205 rfl (lv_at hl 5 rfl) ?_
              refine lv_bipush (v := 6) hx hb d_ThumbCoreModel_perform_206 (by decide) ?_
              refine tc_rd (va_runV (As := [.int 6]) (rest := [.ref h_reg, .int v5, .int v33, .int ((o_ishr c_h 9) &&& 7), .ref h]) ⟨hx, hb, hml, hown, hts⟩ (c_ThumbCoreModel_field l D cI cB cZ h h_memory h_reg h_kept h_pending h_active h_priorities H.size q_size c_n c_z c_c c_v c_keptFlags c_bad c_h c_after c_entered c_mask c_asleep c_lockup c_counts c_counter c_reload c_current c_memory c_reg c_kept c_pending c_active c_priorities 6) (cwV 1 hts (tc_gV wl_ThumbCoreModel_128 wm_ThumbCoreModel_field ws_ThumbCoreModel_field wi_ThumbCoreModel wc_ThumbCoreModel_field) rfl rfl rfl (by decide +kernel) ⟨Nat.le_of_ble_eq_true rfl, Nat.le_of_ble_eq_true rfl⟩) (tc_preV hK hN hP hD [0, 1, 2, 3, 4, 5, 6] rfl (by decide) (q0 := 0) rfl rfl) rfl rfl hl.1 rfl (lv_room (Nat.le_of_ble_eq_true rfl)) d_ThumbCoreModel_perform_208 (by decide)) ?_
              refine lv_topi (fun v34 e_v34 => ?_)
              have hq := tc_nm hq e_v34
              refine va_iald hx hb hK hP 2 0 rfl rfl (tc_enF e_v34) d_ThumbCoreModel_perform_211 ?_
              refine lv_iadd hx hb d_ThumbCoreModel_perform_212 ?_
              refine tc_mv (wo := fun u => (wd_ThumbCoreModel cI cB cZ h h_memory h_reg h_kept h_pending h_active h_priorities q_size c_n c_z c_c c_v c_keptFlags u.1 c_h c_after c_entered c_mask c_asleep c_lockup c_counts c_counter c_reload c_current u.2.1 u.2.2 c_kept c_pending c_active c_priorities)) (va_runV (As := [.int ((o_ishr c_h 9) &&& 7), .int v33, .int (v5 + (c_reg v34.toNatClampNeg))]) (rest := []) ⟨hx, hb, hml, hown, hts⟩ (c_ThumbCoreModel_moves l D cI cB cZ h h_memory h_reg h_kept h_pending h_active h_priorities H.size q_size c_n c_z c_c c_v c_keptFlags c_bad c_h c_after c_entered c_mask c_asleep c_lockup c_counts c_counter c_reload c_current c_memory c_reg c_kept c_pending c_active c_priorities ((o_ishr c_h 9) &&& 7) v33 (v5 + (c_reg v34.toNatClampNeg)) hm (tc_enF e_v33)) (cwV 3 hts (tc_gV wl_ThumbCoreModel_183 wm_ThumbCoreModel_moves ws_ThumbCoreModel_moves wi_ThumbCoreModel wc_ThumbCoreModel_moves) rfl rfl rfl (by decide +kernel) ⟨Nat.le_of_ble_eq_true rfl, Nat.le_of_ble_eq_true rfl⟩) (tc_preV hK hN hP hD [0, 1, 2, 3, 4, 5, 6] rfl (by decide) (q0 := 0) rfl rfl) rfl rfl hl.1 rfl (lv_room (Nat.le_of_ble_eq_true rfl)) d_ThumbCoreModel_perform_213 (by decide)) hP hD hS hA [0, 1, 2, 3, 4, 5, 6] [] [0, 1, 2, 3, 4, 5, 6] rfl rfl (by decide) (by decide) (by decide) (fun _ => rfl) (fun u H locs hu hP hD hS => ?_)
              obtain ⟨s35, s36, s37⟩ := u
              have hq := hq.trans (un3_eq hu _)
              have e_s35 := hu
              have hP : va_P D tcl (wd_ThumbCoreModel cI cB cZ h h_memory h_reg h_kept h_pending h_active h_priorities q_size c_n c_z c_c c_v c_keptFlags s35 c_h c_after c_entered c_mask c_asleep c_lockup c_counts c_counter c_reload c_current s36 s37 c_kept c_pending c_active c_priorities) H := hP
              have hD : va_D A (wd_ThumbCoreModel cI cB cZ h h_memory h_reg h_kept h_pending h_active h_priorities q_size c_n c_z c_c c_v c_keptFlags s35 c_h c_after c_entered c_mask c_asleep c_lockup c_counts c_counter c_reload c_current s36 s37 c_kept c_pending c_active c_priorities) := hD
              refine lv_goto (tgt := 501) hx hb d_ThumbCoreModel_perform_216 (by decide) ?_
              exact RET H locs ls 501 (c_n, c_z, c_c, c_v, s35, c_after, c_entered, c_mask, c_asleep, c_lockup, c_current, s36, s37, c_pending, c_active) d_ThumbCoreModel_perform_501 hP hD hS hq
          · have hq := hq.trans (if_neg (fun g => g g_153))
            refine lv_aload_n hx hb d_ThumbCoreModel_perform_156 rfl (lv_at hl 5 rfl) ?_
            refine lv_iconst (v := 4) hx hb d_ThumbCoreModel_perform_157 (by decide) ?_
            refine lv_aload_n hx hb d_ThumbCoreModel_perform_158 rfl (lv_at hl 5 rfl) ?_
            refine lv_bipush (v := 8) hx hb d_ThumbCoreModel_perform_159 (by decide) ?_
            refine tc_rd (va_runV (As := [.int 8]) (rest := [.int 4, .ref h]) ⟨hx, hb, hml, hown, hts⟩ (c_ThumbCoreModel_field l D cI cB cZ h h_memory h_reg h_kept h_pending h_active h_priorities H.size q_size c_n c_z c_c c_v c_keptFlags c_bad c_h c_after c_entered c_mask c_asleep c_lockup c_counts c_counter c_reload c_current c_memory c_reg c_kept c_pending c_active c_priorities 8) (cwV 1 hts (tc_gV wl_ThumbCoreModel_128 wm_ThumbCoreModel_field ws_ThumbCoreModel_field wi_ThumbCoreModel wc_ThumbCoreModel_field) rfl rfl rfl (by decide +kernel) ⟨Nat.le_of_ble_eq_true rfl, Nat.le_of_ble_eq_true rfl⟩) (tc_preV hK hN hP hD [0, 1, 2, 3, 4, 5, 6] rfl (by decide) (q0 := 0) rfl rfl) rfl rfl hl.1 rfl (lv_room (Nat.le_of_ble_eq_true rfl)) d_ThumbCoreModel_perform_161 (by decide)) ?_
            refine lv_topi (fun v38 e_v38 => ?_)
            have hq := tc_nm hq e_v38
            refine lv_iload_n hx hb d_ThumbCoreModel_perform_164 rfl (lv_at hl 2 rfl) ?_
            refine lv_bipush (v := (-4)) hx hb d_ThumbCoreModel_perform_165 (by decide) ?_
            refine lv_iand hx hb d_ThumbCoreModel_perform_167 ?_
            refine lv_iload hx hb d_ThumbCoreModel_perform_168 (lv_at hl 0 rfl) ?_
            refine lv_iadd hx hb d_ThumbCoreModel_perform_170 ?_
            refine tc_mv (wo := fun u => (wd_ThumbCoreModel cI cB cZ h h_memory h_reg h_kept h_pending h_active h_priorities q_size c_n c_z c_c c_v c_keptFlags u.1 c_h c_after c_entered c_mask c_asleep c_lockup c_counts c_counter c_reload c_current u.2.1 u.2.2 c_kept c_pending c_active c_priorities)) (va_runV (As := [.int 4, .int v38, .int ((v3 &&& (-4)) + v6)]) (rest := []) ⟨hx, hb, hml, hown, hts⟩ (c_ThumbCoreModel_moves l D cI cB cZ h h_memory h_reg h_kept h_pending h_active h_priorities H.size q_size c_n c_z c_c c_v c_keptFlags c_bad c_h c_after c_entered c_mask c_asleep c_lockup c_counts c_counter c_reload c_current c_memory c_reg c_kept c_pending c_active c_priorities 4 v38 ((v3 &&& (-4)) + v6) hm (tc_enF e_v38)) (cwV 3 hts (tc_gV wl_ThumbCoreModel_183 wm_ThumbCoreModel_moves ws_ThumbCoreModel_moves wi_ThumbCoreModel wc_ThumbCoreModel_moves) rfl rfl rfl (by decide +kernel) ⟨Nat.le_of_ble_eq_true rfl, Nat.le_of_ble_eq_true rfl⟩) (tc_preV hK hN hP hD [0, 1, 2, 3, 4, 5, 6] rfl (by decide) (q0 := 0) rfl rfl) rfl rfl hl.1 rfl (lv_room (Nat.le_of_ble_eq_true rfl)) d_ThumbCoreModel_perform_171 (by decide)) hP hD hS hA [0, 1, 2, 3, 4, 5, 6] [] [0, 1, 2, 3, 4, 5, 6] rfl rfl (by decide) (by decide) (by decide) (fun _ => rfl) (fun u H locs hu hP hD hS => ?_)
            obtain ⟨s39, s40, s41⟩ := u
            have hq := hq.trans (un3_eq hu _)
            have e_s39 := hu
            have hP : va_P D tcl (wd_ThumbCoreModel cI cB cZ h h_memory h_reg h_kept h_pending h_active h_priorities q_size c_n c_z c_c c_v c_keptFlags s39 c_h c_after c_entered c_mask c_asleep c_lockup c_counts c_counter c_reload c_current s40 s41 c_kept c_pending c_active c_priorities) H := hP
            have hD : va_D A (wd_ThumbCoreModel cI cB cZ h h_memory h_reg h_kept h_pending h_active h_priorities q_size c_n c_z c_c c_v c_keptFlags s39 c_h c_after c_entered c_mask c_asleep c_lockup c_counts c_counter c_reload c_current s40 s41 c_kept c_pending c_active c_priorities) := hD
            refine lv_goto (tgt := 501) hx hb d_ThumbCoreModel_perform_174 (by decide) ?_
            exact RET H locs ls 501 (c_n, c_z, c_c, c_v, s39, c_after, c_entered, c_mask, c_asleep, c_lockup, c_current, s40, s41, c_pending, c_active) d_ThumbCoreModel_perform_501 hP hD hS hq
        · have hq := hq.trans (if_neg (fun g => g g_121))
          refine lv_aload_n hx hb d_ThumbCoreModel_perform_124 rfl (lv_at hl 5 rfl) ?_
          refine va_get (D := D) (ci := 5) (v := .int c_h) (C := R_ThumbCoreModel) (T := F_ThumbCoreModel) (N := 23) hx hb hts u_ThumbCoreModel hown hK hP 0 rfl rfl 10 (by decide) (hts _ wf_ThumbCoreModel_125) (fun _ h9 => h9) rfl d_ThumbCoreModel_perform_125 ?_
          refine lv_bipush (v := 10) hx hb d_ThumbCoreModel_perform_128 (by decide) ?_
          refine lv_ishr hx hb d_ThumbCoreModel_perform_130 ?_
          refine lv_bipush (v := 16) hx hb d_ThumbCoreModel_perform_131 (by decide) ?_
          refine lv_icmp_ne (tgt := 143) hx hb d_ThumbCoreModel_perform_133 (by decide) (fun g_133 => ?_) (fun g_133 => ?_)
          · have hq := hq.trans (if_pos g_133)
            refine lv_aload_n hx hb d_ThumbCoreModel_perform_143 rfl (lv_at hl 5 rfl) ?_
            refine tc_mv (wo := fun u => (wd_ThumbCoreModel cI cB cZ h h_memory h_reg h_kept h_pending h_active h_priorities q_size u.1 u.2.1 u.2.2.1 u.2.2.2.1 c_keptFlags u.2.2.2.2.1 c_h u.2.2.2.2.2.1 c_entered c_mask c_asleep c_lockup c_counts c_counter c_reload u.2.2.2.2.2.2.1 c_memory u.2.2.2.2.2.2.2.1 c_kept c_pending u.2.2.2.2.2.2.2.2 c_priorities)) (va_runV (As := []) (rest := []) ⟨hx, hb, hml, hown, hts⟩ (c_ThumbCoreModel_wide l D cI cB cZ h h_memory h_reg h_kept h_pending h_active h_priorities H.size q_size c_n c_z c_c c_v c_keptFlags c_bad c_h c_after c_entered c_mask c_asleep c_lockup c_counts c_counter c_reload c_current c_memory c_reg c_kept c_pending c_active c_priorities hm hi_c_current) (cwV 0 hts (tc_gV wl_ThumbCoreModel_180 wm_ThumbCoreModel_wide ws_ThumbCoreModel_wide wi_ThumbCoreModel wc_ThumbCoreModel_wide) rfl rfl rfl (by decide +kernel) ⟨Nat.le_of_ble_eq_true rfl, Nat.le_of_ble_eq_true rfl⟩) (tc_preV hK hN hP hD [0, 1, 2, 3, 4, 5, 6] rfl (by decide) (q0 := 0) rfl rfl) rfl rfl hl.1 rfl (lv_room (Nat.le_of_ble_eq_true rfl)) d_ThumbCoreModel_perform_144 (by decide)) hP hD hS hA [0, 1, 2, 3, 4, 5, 6] [] [0, 1, 2, 3, 4, 5, 6] rfl rfl (by decide) (by decide) (by decide) (fun _ => rfl) (fun u H locs hu hP hD hS => ?_)
            obtain ⟨s42, s43, s44, s45, s46, s47, s48, s49, s50⟩ := u
            have hq := hq.trans (un9_eq hu _)
            have e_s42 := hu
            have hP : va_P D tcl (wd_ThumbCoreModel cI cB cZ h h_memory h_reg h_kept h_pending h_active h_priorities q_size s42 s43 s44 s45 c_keptFlags s46 c_h s47 c_entered c_mask c_asleep c_lockup c_counts c_counter c_reload s48 c_memory s49 c_kept c_pending s50 c_priorities) H := hP
            have hD : va_D A (wd_ThumbCoreModel cI cB cZ h h_memory h_reg h_kept h_pending h_active h_priorities q_size s42 s43 s44 s45 c_keptFlags s46 c_h s47 c_entered c_mask c_asleep c_lockup c_counts c_counter c_reload s48 c_memory s49 c_kept c_pending s50 c_priorities) := hD
            refine lv_goto (tgt := 501) hx hb d_ThumbCoreModel_perform_147 (by decide) ?_
            exact RET H locs ls 501 (s42, s43, s44, s45, s46, s47, c_entered, c_mask, c_asleep, c_lockup, s48, c_memory, s49, c_pending, s50) d_ThumbCoreModel_perform_501 hP hD hS hq
          · have hq := hq.trans (if_neg (fun g => g g_133))
            refine lv_aload_n hx hb d_ThumbCoreModel_perform_136 rfl (lv_at hl 5 rfl) ?_
            refine tc_mv (wo := fun u => (wd_ThumbCoreModel cI cB cZ h h_memory h_reg h_kept h_pending h_active h_priorities q_size u.1 u.2.1 u.2.2.1 u.2.2.2.1 c_keptFlags c_bad c_h c_after c_entered c_mask c_asleep c_lockup c_counts c_counter c_reload c_current c_memory u.2.2.2.2 c_kept c_pending c_active c_priorities)) (va_runV (As := []) (rest := []) ⟨hx, hb, hml, hown, hts⟩ (c_ThumbCoreModel_worked l D cI cB cZ h h_memory h_reg h_kept h_pending h_active h_priorities H.size q_size c_n c_z c_c c_v c_keptFlags c_bad c_h c_after c_entered c_mask c_asleep c_lockup c_counts c_counter c_reload c_current c_memory c_reg c_kept c_pending c_active c_priorities) (cwV 0 hts (tc_gV wl_ThumbCoreModel_177 wm_ThumbCoreModel_worked ws_ThumbCoreModel_worked wi_ThumbCoreModel wc_ThumbCoreModel_worked) rfl rfl rfl (by decide +kernel) ⟨Nat.le_of_ble_eq_true rfl, Nat.le_of_ble_eq_true rfl⟩) (tc_preV hK hN hP hD [0, 1, 2, 3, 4, 5, 6] rfl (by decide) (q0 := 0) rfl rfl) rfl rfl hl.1 rfl (lv_room (Nat.le_of_ble_eq_true rfl)) d_ThumbCoreModel_perform_137 (by decide)) hP hD hS hA [0, 1, 2, 3, 4, 5, 6] [] [0, 1, 2, 3, 4, 5, 6] rfl rfl (by decide) (by decide) (by decide) (fun _ => rfl) (fun u H locs hu hP hD hS => ?_)
            obtain ⟨s51, s52, s53, s54, s55⟩ := u
            have hq := hq.trans (un5_eq hu _)
            have e_s51 := hu
            have hP : va_P D tcl (wd_ThumbCoreModel cI cB cZ h h_memory h_reg h_kept h_pending h_active h_priorities q_size s51 s52 s53 s54 c_keptFlags c_bad c_h c_after c_entered c_mask c_asleep c_lockup c_counts c_counter c_reload c_current c_memory s55 c_kept c_pending c_active c_priorities) H := hP
            have hD : va_D A (wd_ThumbCoreModel cI cB cZ h h_memory h_reg h_kept h_pending h_active h_priorities q_size s51 s52 s53 s54 c_keptFlags c_bad c_h c_after c_entered c_mask c_asleep c_lockup c_counts c_counter c_reload c_current c_memory s55 c_kept c_pending c_active c_priorities) := hD
            refine lv_goto (tgt := 501) hx hb d_ThumbCoreModel_perform_140 (by decide) ?_
            exact RET H locs ls 501 (s51, s52, s53, s54, c_bad, c_after, c_entered, c_mask, c_asleep, c_lockup, c_current, c_memory, s55, c_pending, c_active) d_ThumbCoreModel_perform_501 hP hD hS hq
      · have hq := hq.trans (if_neg g_107)
        refine lv_aload_n hx hb d_ThumbCoreModel_perform_110 rfl (lv_at hl 5 rfl) ?_
        refine lv_iload_n hx hb d_ThumbCoreModel_perform_111 rfl (lv_at hl 4 rfl) ?_
        refine tc_mv (wo := fun u => (wd_ThumbCoreModel cI cB cZ h h_memory h_reg h_kept h_pending h_active h_priorities q_size u.1 u.2.1 u.2.2.1 u.2.2.2.1 c_keptFlags c_bad c_h c_after c_entered c_mask c_asleep c_lockup c_counts c_counter c_reload c_current c_memory u.2.2.2.2 c_kept c_pending c_active c_priorities)) (va_runV (As := [.int v1]) (rest := []) ⟨hx, hb, hml, hown, hts⟩ (c_ThumbCoreModel_bytes l D cI cB cZ h h_memory h_reg h_kept h_pending h_active h_priorities H.size q_size c_n c_z c_c c_v c_keptFlags c_bad c_h c_after c_entered c_mask c_asleep c_lockup c_counts c_counter c_reload c_current c_memory c_reg c_kept c_pending c_active c_priorities v1) (cwV 1 hts (tc_gV wl_ThumbCoreModel_174 wm_ThumbCoreModel_bytes ws_ThumbCoreModel_bytes wi_ThumbCoreModel wc_ThumbCoreModel_bytes) rfl rfl rfl (by decide +kernel) ⟨Nat.le_of_ble_eq_true rfl, Nat.le_of_ble_eq_true rfl⟩) (tc_preV hK hN hP hD [0, 1, 2, 3, 4, 5, 6] rfl (by decide) (q0 := 0) rfl rfl) rfl rfl hl.1 rfl (lv_room (Nat.le_of_ble_eq_true rfl)) d_ThumbCoreModel_perform_112 (by decide)) hP hD hS hA [0, 1, 2, 3, 4, 5, 6] [] [0, 1, 2, 3, 4, 5, 6] rfl rfl (by decide) (by decide) (by decide) (fun _ => rfl) (fun u H locs hu hP hD hS => ?_)
        obtain ⟨s56, s57, s58, s59, s60⟩ := u
        have hq := hq.trans (un5_eq hu _)
        have e_s56 := hu
        have hP : va_P D tcl (wd_ThumbCoreModel cI cB cZ h h_memory h_reg h_kept h_pending h_active h_priorities q_size s56 s57 s58 s59 c_keptFlags c_bad c_h c_after c_entered c_mask c_asleep c_lockup c_counts c_counter c_reload c_current c_memory s60 c_kept c_pending c_active c_priorities) H := hP
        have hD : va_D A (wd_ThumbCoreModel cI cB cZ h h_memory h_reg h_kept h_pending h_active h_priorities q_size s56 s57 s58 s59 c_keptFlags c_bad c_h c_after c_entered c_mask c_asleep c_lockup c_counts c_counter c_reload c_current c_memory s60 c_kept c_pending c_active c_priorities) := hD
        refine lv_goto (tgt := 501) hx hb d_ThumbCoreModel_perform_115 (by decide) ?_
        exact RET H locs ls 501 (s56, s57, s58, s59, c_bad, c_after, c_entered, c_mask, c_asleep, c_lockup, c_current, c_memory, s60, c_pending, c_active) d_ThumbCoreModel_perform_501 hP hD hS hq
    · have hq := hq.trans (if_neg (fun g => g g_94))
      refine lv_aload_n hx hb d_ThumbCoreModel_perform_97 rfl (lv_at hl 5 rfl) ?_
      refine tc_mv (wo := fun u => (wd_ThumbCoreModel cI cB cZ h h_memory h_reg h_kept h_pending h_active h_priorities q_size u.1 u.2.1 u.2.2.1 u.2.2.2.1 c_keptFlags c_bad c_h c_after c_entered c_mask c_asleep c_lockup c_counts c_counter c_reload c_current c_memory u.2.2.2.2 c_kept c_pending c_active c_priorities)) (va_runV (As := []) (rest := []) ⟨hx, hb, hml, hown, hts⟩ (c_ThumbCoreModel_threes l D cI cB cZ h h_memory h_reg h_kept h_pending h_active h_priorities H.size q_size c_n c_z c_c c_v c_keptFlags c_bad c_h c_after c_entered c_mask c_asleep c_lockup c_counts c_counter c_reload c_current c_memory c_reg c_kept c_pending c_active c_priorities) (cwV 0 hts (tc_gV wl_ThumbCoreModel_171 wm_ThumbCoreModel_threes ws_ThumbCoreModel_threes wi_ThumbCoreModel wc_ThumbCoreModel_threes) rfl rfl rfl (by decide +kernel) ⟨Nat.le_of_ble_eq_true rfl, Nat.le_of_ble_eq_true rfl⟩) (tc_preV hK hN hP hD [0, 1, 2, 3, 4, 5, 6] rfl (by decide) (q0 := 0) rfl rfl) rfl rfl hl.1 rfl (lv_room (Nat.le_of_ble_eq_true rfl)) d_ThumbCoreModel_perform_98 (by decide)) hP hD hS hA [0, 1, 2, 3, 4, 5, 6] [] [0, 1, 2, 3, 4, 5, 6] rfl rfl (by decide) (by decide) (by decide) (fun _ => rfl) (fun u H locs hu hP hD hS => ?_)
      obtain ⟨s61, s62, s63, s64, s65⟩ := u
      have hq := hq.trans (un5_eq hu _)
      have e_s61 := hu
      have hP : va_P D tcl (wd_ThumbCoreModel cI cB cZ h h_memory h_reg h_kept h_pending h_active h_priorities q_size s61 s62 s63 s64 c_keptFlags c_bad c_h c_after c_entered c_mask c_asleep c_lockup c_counts c_counter c_reload c_current c_memory s65 c_kept c_pending c_active c_priorities) H := hP
      have hD : va_D A (wd_ThumbCoreModel cI cB cZ h h_memory h_reg h_kept h_pending h_active h_priorities q_size s61 s62 s63 s64 c_keptFlags c_bad c_h c_after c_entered c_mask c_asleep c_lockup c_counts c_counter c_reload c_current c_memory s65 c_kept c_pending c_active c_priorities) := hD
      refine lv_goto (tgt := 501) hx hb d_ThumbCoreModel_perform_101 (by decide) ?_
      exact RET H locs ls 501 (s61, s62, s63, s64, c_bad, c_after, c_entered, c_mask, c_asleep, c_lockup, c_current, c_memory, s65, c_pending, c_active) d_ThumbCoreModel_perform_501 hP hD hS hq
  · have hq := hq.trans (if_neg g_55)
    refine lv_aload_n hx hb d_ThumbCoreModel_perform_58 rfl (lv_at hl 5 rfl) ?_
    refine va_get (D := D) (ci := 5) (v := .ref h_reg) (C := R_ThumbCoreModel) (T := F_ThumbCoreModel) (N := 23) hx hb hts u_ThumbCoreModel hown hK hP 0 rfl rfl 2 (by decide) (hts _ wf_ThumbCoreModel_13) (fun _ h9 => h9) rfl d_ThumbCoreModel_perform_59 ?_
    refine lv_aload_n hx hb d_ThumbCoreModel_perform_62 rfl (lv_at hl 5 rfl) ?_
    refine lv_iconst (v := 0) hx hb d_ThumbCoreModel_perform_63 (by decide) ?_
    refine tc_rd (va_runV (As := [.int 0]) (rest := [.ref h_reg]) ⟨hx, hb, hml, hown, hts⟩ (c_ThumbCoreModel_field l D cI cB cZ h h_memory h_reg h_kept h_pending h_active h_priorities H.size q_size c_n c_z c_c c_v c_keptFlags c_bad c_h c_after c_entered c_mask c_asleep c_lockup c_counts c_counter c_reload c_current c_memory c_reg c_kept c_pending c_active c_priorities 0) (cwV 1 hts (tc_gV wl_ThumbCoreModel_128 wm_ThumbCoreModel_field ws_ThumbCoreModel_field wi_ThumbCoreModel wc_ThumbCoreModel_field) rfl rfl rfl (by decide +kernel) ⟨Nat.le_of_ble_eq_true rfl, Nat.le_of_ble_eq_true rfl⟩) (tc_preV hK hN hP hD [0, 1, 2, 3, 4, 5, 6] rfl (by decide) (q0 := 0) rfl rfl) rfl rfl hl.1 rfl (lv_room (Nat.le_of_ble_eq_true rfl)) d_ThumbCoreModel_perform_64 (by decide)) ?_
    refine lv_topi (fun v66 e_v66 => ?_)
    have hq := tc_nm hq e_v66
    refine lv_aload_n hx hb d_ThumbCoreModel_perform_67 rfl (lv_at hl 5 rfl) ?_
    refine lv_iload_n hx hb d_ThumbCoreModel_perform_68 rfl (lv_at hl 4 rfl) ?_
    refine lv_iload hx hb d_ThumbCoreModel_perform_69 (lv_at hl 1 rfl) ?_
    refine lv_iload_n hx hb d_ThumbCoreModel_perform_71 rfl (lv_at hl 3 rfl) ?_
    refine lv_if_ne (tgt := 84) hx hb d_ThumbCoreModel_perform_72 (by decide) (fun g_72 => ?_) (fun g_72 => ?_)
    · have hq := hq.trans (if_pos g_72)
      exact J_84 H locs ls c_n c_z c_c c_v c_bad c_after c_entered c_mask c_asleep c_lockup c_current c_memory c_reg c_pending c_active v2 v66 v1 v5 hP hD hS (lv_sub hl [3] rfl) hq (tc_enF e_v66)
    · have hq := hq.trans (if_neg (fun g => g g_72))
      refine lv_iload_n hx hb d_ThumbCoreModel_perform_75 rfl (lv_at hl 4 rfl) ?_
      refine lv_if_le (tgt := 84) hx hb d_ThumbCoreModel_perform_76 (by decide) (fun g_76 => ?_) (fun g_76 => ?_)
      · have hq := hq.trans (if_pos g_76)
        exact J_84 H locs ls c_n c_z c_c c_v c_bad c_after c_entered c_mask c_asleep c_lockup c_current c_memory c_reg c_pending c_active v2 v66 v1 v5 hP hD hS (lv_sub hl [3] rfl) hq (tc_enF e_v66)
      · have hq := hq.trans (if_neg g_76)
        refine lv_bipush (v := 32) hx hb d_ThumbCoreModel_perform_79 (by decide) ?_
        refine lv_goto (tgt := 85) hx hb d_ThumbCoreModel_perform_81 (by decide) ?_
        exact J_85 H locs ls c_n c_z c_c c_v c_bad c_after c_entered c_mask c_asleep c_lockup c_current c_memory c_reg c_pending c_active v66 v1 v5 32 hP hD hS (lv_sub hl [] rfl) hq (tc_enF e_v66)

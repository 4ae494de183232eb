def f_ThumbCoreModel_there (q_size : Int32) (x1 : Int32) (x2 : Int32) : Bool :=
  if x1 < 0 then (false)
  else if ¬ (o_irem x1 x2) = 0 then (false)
  else if (q_size - x2) < x1 then (false)
  else true
theorem tc_thT {q a n : Int32} (hm : tc_memR q) (hn : n = 1 ∨ n = 2 ∨ n = 4) (h : f_ThumbCoreModel_there q a n = true) : tc_fit q a n.toInt.toNat := by
  unfold f_ThumbCoreModel_there at h
  by_cases g1 : a < 0
  · rw [if_pos g1] at h
    cases h
  · rw [if_neg g1] at h
    split at h
    · cases h
    · split at h
      · cases h
      · rename_i g2 g3
        exact tc_pkF hm hn g1 (Int32.not_lt.mp g3)
def k_ThumbCoreModel_read_23 (q_size : Int32) (c_memory : Nat → Int32) : Nat → Bool → Int32 → Int32 → Int32 → Int32 × Bool
  | 0, c_bad, y1, y3, y4 => (0, c_bad)
  | n + 1, c_bad, y1, y3, y4 =>
  if y4 < 0 then ((y3, c_bad))
  else bd (((o_ishl y3 8) ||| ((c_memory (y1 + y4).toNatClampNeg) &&& 255)) : Int32) (fun v1 =>
  k_ThumbCoreModel_read_23 q_size c_memory n c_bad y1 v1 (y4 + (-1)))
def f_ThumbCoreModel_read (q_size : Int32) (c_memory : Nat → Int32) (c_bad : Bool) (x1 : Int32) (x2 : Int32) : Int32 × Bool :=
  bd (f_ThumbCoreModel_there q_size x1 x2 : Bool) (fun v1 =>
  if ¬ (bI v1) = 0 then (bd ((x2 - 1) : Int32) (fun v2 =>
    k_ThumbCoreModel_read_23 q_size c_memory ((Int32.toInt v2 + 1).toNat.succ) c_bad x1 0 v2))
  else (0, true))
def k_ThumbCoreModel_write_18 (q_size : Int32) : Nat → Bool → (Nat → Int32) → Int32 → Int32 → Int32 → Int32 → Bool × (Nat → Int32)
  | 0, c_bad, c_memory, y1, y2, y3, y4 => (c_bad, c_memory)
  | n + 1, c_bad, c_memory, y1, y2, y3, y4 =>
  if y3 ≤ y4 then ((c_bad, c_memory))
  else k_ThumbCoreModel_write_18 q_size n c_bad (upd c_memory (y1 + y4).toNatClampNeg (((o_ishr y2 (8 * y4)).toInt8.toInt32).toInt8.toInt32)) y1 y2 y3 (y4 + 1)
def f_ThumbCoreModel_write (q_size : Int32) (c_bad : Bool) (c_memory : Nat → Int32) (x1 : Int32) (x2 : Int32) (x3 : Int32) : Bool × (Nat → Int32) :=
  bd (f_ThumbCoreModel_there q_size x1 x3 : Bool) (fun v1 =>
  if ¬ (bI v1) = 0 then (k_ThumbCoreModel_write_18 q_size ((Int32.toInt x3).toNat.succ) c_bad c_memory x1 x2 x3 0)
  else (true, c_memory))
def k_ThumbCoreModel_poke_34 (q_size : Int32) : Nat → (Nat → Int32) → Int32 → Int32 → Int32 → Int32 → Bool × (Nat → Int32)
  | 0, c_memory, y1, y2, y3, y4 => (false, c_memory)
  | n + 1, c_memory, y1, y2, y3, y4 =>
  if y3 ≤ y4 then ((true, c_memory))
  else k_ThumbCoreModel_poke_34 q_size n (upd c_memory (y1 + y4).toNatClampNeg (((o_ishr y2 (8 * y4)).toInt8.toInt32).toInt8.toInt32)) y1 y2 y3 (y4 + 1)
def k_ThumbCoreModel_poke_15 (q_size : Int32) (c_memory : Nat → Int32) (y1 : Int32) (y2 : Int32) (y3 : Int32) : Bool × (Nat → Int32) :=
  if y1 < 0 then ((false, c_memory))
  else if y1 ≤ (q_size - y3) then (k_ThumbCoreModel_poke_34 q_size ((Int32.toInt y3).toNat.succ) c_memory y1 y2 y3 0)
  else (false, c_memory)
def f_ThumbCoreModel_poke (q_size : Int32) (c_memory : Nat → Int32) (x1 : Int32) (x2 : Int32) (x3 : Int32) : Bool × (Nat → Int32) :=
  if x3 = 1 then (k_ThumbCoreModel_poke_15 q_size c_memory x1 x2 x3)
  else if x3 = 2 then (k_ThumbCoreModel_poke_15 q_size c_memory x1 x2 x3)
  else if ¬ x3 = 4 then ((false, c_memory))
  else k_ThumbCoreModel_poke_15 q_size c_memory x1 x2 x3
def f_ThumbCoreModel_peek (q_size : Int32) (c_memory : Nat → Int32) (x1 : Int32) : Int32 :=
  if x1 < 0 then ((-1))
  else if q_size ≤ x1 then ((-1))
  else ((c_memory x1.toNatClampNeg) &&& 255)
def k_ThumbCoreModel_flags_58 (c_n : Bool) (c_z : Bool) (c_c : Bool) (c_v : Bool) (z1 : Bool) : Bool × Bool × Bool × Bool :=
  (c_n, c_z, c_c, z1)
def k_ThumbCoreModel_flags_43 (c_n : Bool) (c_z : Bool) (c_c : Bool) (c_v : Bool) (y1 : Int32) (z1 : Bool) : Bool × Bool × Bool × Bool :=
  if (y1 &&& 1) = 0 then (k_ThumbCoreModel_flags_58 c_n c_z z1 c_v false)
  else k_ThumbCoreModel_flags_58 c_n c_z z1 c_v true
def k_ThumbCoreModel_flags_28 (c_n : Bool) (c_z : Bool) (c_c : Bool) (c_v : Bool) (y1 : Int32) (z1 : Bool) : Bool × Bool × Bool × Bool :=
  if (y1 &&& 2) = 0 then (k_ThumbCoreModel_flags_43 c_n z1 c_c c_v y1 false)
  else k_ThumbCoreModel_flags_43 c_n z1 c_c c_v y1 true
def k_ThumbCoreModel_flags_13 (c_n : Bool) (c_z : Bool) (c_c : Bool) (c_v : Bool) (y1 : Int32) (z1 : Bool) : Bool × Bool × Bool × Bool :=
  if (y1 &&& 4) = 0 then (k_ThumbCoreModel_flags_28 z1 c_z c_c c_v y1 false)
  else k_ThumbCoreModel_flags_28 z1 c_z c_c c_v y1 true
def f_ThumbCoreModel_flags (c_n : Bool) (c_z : Bool) (c_c : Bool) (c_v : Bool) (x1 : Int32) : Bool × Bool × Bool × Bool :=
  if (x1 &&& 8) = 0 then (k_ThumbCoreModel_flags_13 c_n c_z c_c c_v x1 false)
  else k_ThumbCoreModel_flags_13 c_n c_z c_c c_v x1 true
def k_ThumbCoreModel_reset_2 (q_size : Int32) (c_memory : Nat → Int32) : Nat → Bool → Bool → Bool → Bool → Bool → Bool → Bool → Bool → Bool → Int32 → Int32 → Int32 → (Nat → Int32) → (Nat → Bool) → (Nat → Bool) → Int32 → Bool × Bool × Bool × Bool × Bool × Bool × Bool × Bool × Bool × Int32 × Int32 × Int32 × (Nat → Int32) × (Nat → Bool) × (Nat → Bool)
  | 0, c_n, c_z, c_c, c_v, c_bad, c_mask, c_asleep, c_lockup, c_counts, c_counter, c_reload, c_current, c_reg, c_pending, c_active, y1 => (c_n, c_z, c_c, c_v, c_bad, c_mask, c_asleep, c_lockup, c_counts, c_counter, c_reload, c_current, c_reg, c_pending, c_active)
  | n + 1, c_n, c_z, c_c, c_v, c_bad, c_mask, c_asleep, c_lockup, c_counts, c_counter, c_reload, c_current, c_reg, c_pending, c_active, y1 =>
  if 16 ≤ y1 then (un2 (f_ThumbCoreModel_read q_size c_memory c_bad 0 4) (fun r1 s2 =>
    un2 (f_ThumbCoreModel_read q_size c_memory s2 4 4) (fun r3 s4 =>
    un4 (f_ThumbCoreModel_flags c_n c_z c_c c_v 0) (fun s5 s6 s7 s8 =>
    (s5, s6, s7, s8, s4, false, false, false, false, 0, 0, 0, (upd (upd (upd c_reg (13 : Int32).toNatClampNeg (r1 &&& (-4))) (15 : Int32).toNatClampNeg (r3 &&& (-2))) (14 : Int32).toNatClampNeg (-1)), c_pending, c_active)))))
  else k_ThumbCoreModel_reset_2 q_size c_memory n c_n c_z c_c c_v c_bad c_mask c_asleep c_lockup c_counts c_counter c_reload c_current (upd c_reg y1.toNatClampNeg 0) (va_up c_pending y1.toNatClampNeg false) (va_up c_active y1.toNatClampNeg false) (y1 + 1)
def f_ThumbCoreModel_reset (q_size : Int32) (c_memory : Nat → Int32) (c_n : Bool) (c_z : Bool) (c_c : Bool) (c_v : Bool) (c_bad : Bool) (c_mask : Bool) (c_asleep : Bool) (c_lockup : Bool) (c_counts : Bool) (c_counter : Int32) (c_reload : Int32) (c_current : Int32) (c_reg : Nat → Int32) (c_pending : Nat → Bool) (c_active : Nat → Bool) : Bool × Bool × Bool × Bool × Bool × Bool × Bool × Bool × Bool × Int32 × Int32 × Int32 × (Nat → Int32) × (Nat → Bool) × (Nat → Bool) :=
  k_ThumbCoreModel_reset_2 q_size c_memory 17 c_n c_z c_c c_v c_bad c_mask c_asleep c_lockup c_counts c_counter c_reload c_current c_reg c_pending c_active 0
def k_ThumbCoreModel_bits_38 (c_n : Bool) (c_z : Bool) (c_c : Bool) (c_v : Bool) (z0 : Int32) (z1 : Int32) : Int32 :=
  if (bI c_v) = 0 then (((z0 + z1) + 0))
  else ((z0 + z1) + 1)
def k_ThumbCoreModel_bits_25 (c_n : Bool) (c_z : Bool) (c_c : Bool) (c_v : Bool) (z0 : Int32) (z1 : Int32) : Int32 :=
  if (bI c_c) = 0 then (k_ThumbCoreModel_bits_38 c_n c_z c_c c_v (z0 + z1) 0)
  else k_ThumbCoreModel_bits_38 c_n c_z c_c c_v (z0 + z1) 2
def k_ThumbCoreModel_bits_13 (c_n : Bool) (c_z : Bool) (c_c : Bool) (c_v : Bool) (z0 : Int32) : Int32 :=
  if (bI c_z) = 0 then (k_ThumbCoreModel_bits_25 c_n c_z c_c c_v z0 0)
  else k_ThumbCoreModel_bits_25 c_n c_z c_c c_v z0 4
def f_ThumbCoreModel_bits (c_n : Bool) (c_z : Bool) (c_c : Bool) (c_v : Bool) : Int32 :=
  if (bI c_n) = 0 then (k_ThumbCoreModel_bits_13 c_n c_z c_c c_v 0)
  else k_ThumbCoreModel_bits_13 c_n c_z c_c c_v 8
def f_ThumbCoreModel_status (c_n : Bool) (c_z : Bool) (c_c : Bool) (c_v : Bool) (c_current : Int32) : Int32 :=
  bd (f_ThumbCoreModel_bits c_n c_z c_c c_v : Int32) (fun v1 =>
  (((o_ishl v1 28) ||| 16777216) ||| c_current))
def k_ThumbCoreModel_shown_23 (c_n : Bool) (c_z : Bool) (y1 : Int32) (z1 : Bool) : Int32 × Bool × Bool :=
  (y1, c_n, z1)
def k_ThumbCoreModel_shown_10 (c_n : Bool) (c_z : Bool) (y1 : Int32) (z1 : Bool) : Int32 × Bool × Bool :=
  if ¬ y1 = 0 then (k_ThumbCoreModel_shown_23 z1 c_z y1 false)
  else k_ThumbCoreModel_shown_23 z1 c_z y1 true
def f_ThumbCoreModel_shown (c_n : Bool) (c_z : Bool) (x1 : Int32) : Int32 × Bool × Bool :=
  if 0 ≤ x1 then (k_ThumbCoreModel_shown_10 c_n c_z x1 false)
  else k_ThumbCoreModel_shown_10 c_n c_z x1 true
def k_ThumbCoreModel_sum_68 (c_n : Bool) (c_z : Bool) (c_c : Bool) (c_v : Bool) (y4 : Int32) (z1 : Bool) : Int32 × Bool × Bool × Bool × Bool :=
  un3 (f_ThumbCoreModel_shown c_n c_z y4) (fun r1 s2 s3 =>
  (r1, s2, s3, c_c, z1))
def k_ThumbCoreModel_sum_50 (c_n : Bool) (c_z : Bool) (c_c : Bool) (c_v : Bool) (y4 : Int32) (y7 : Int64) (z1 : Bool) : Int32 × Bool × Bool × Bool × Bool :=
  if (lg_cmp y7 y4.toInt64) = 0 then (k_ThumbCoreModel_sum_68 c_n c_z z1 c_v y4 false)
  else k_ThumbCoreModel_sum_68 c_n c_z z1 c_v y4 true
def f_ThumbCoreModel_sum (c_n : Bool) (c_z : Bool) (c_c : Bool) (c_v : Bool) (x1 : Int32) (x2 : Int32) (x3 : Int32) : Int32 × Bool × Bool × Bool × Bool :=
  bd (((x1 + x2) + x3) : Int32) (fun v1 =>
  bd ((((x1.toInt64 &&& 4294967295) + (x2.toInt64 &&& 4294967295)) + x3.toInt64) : Int64) (fun v2 =>
  bd (((x1.toInt64 + x2.toInt64) + x3.toInt64) : Int64) (fun v3 =>
  if (lg_cmp v2 4294967295) ≤ 0 then (k_ThumbCoreModel_sum_50 c_n c_z c_c c_v v1 v3 false)
  else k_ThumbCoreModel_sum_50 c_n c_z c_c c_v v1 v3 true)))
def k_ThumbCoreModel_present_39 (c_mask : Bool) (c_active : Nat → Bool) (c_priorities : Nat → Int32) (K_4 : Bool → Int32 → Int32 → Int32) (y1 : Bool) (y3 : Int32) (z0 : Int32) : Int32 :=
  K_4 y1 z0 (y3 + 1)
def k_ThumbCoreModel_present_38 (c_mask : Bool) (c_active : Nat → Bool) (c_priorities : Nat → Int32) (K_4 : Bool → Int32 → Int32 → Int32) (y1 : Bool) (y2 : Int32) (y3 : Int32) : Int32 :=
  k_ThumbCoreModel_present_39 c_mask c_active c_priorities K_4 y1 y3 y2
def k_ThumbCoreModel_present_4 (c_mask : Bool) (c_active : Nat → Bool) (c_priorities : Nat → Int32) : Nat → Bool → Int32 → Int32 → Int32
  | 0, y1, y2, y3 => 0
  | n + 1, y1, y2, y3 =>
  if 16 ≤ y3 then (if (bI y1) = 0 then (y2)
    else if (bI c_mask) = 0 then (y2)
    else if y2 ≤ 0 then (y2)
    else 0)
  else if (bI (c_active y3.toNatClampNeg)) = 0 then (k_ThumbCoreModel_present_38 c_mask c_active c_priorities (k_ThumbCoreModel_present_4 c_mask c_active c_priorities n) y1 y2 y3)
  else if y2 ≤ (c_priorities y3.toNatClampNeg) then (k_ThumbCoreModel_present_38 c_mask c_active c_priorities (k_ThumbCoreModel_present_4 c_mask c_active c_priorities n) y1 y2 y3)
  else k_ThumbCoreModel_present_39 c_mask c_active c_priorities (k_ThumbCoreModel_present_4 c_mask c_active c_priorities n) y1 y3 (c_priorities y3.toNatClampNeg)
def f_ThumbCoreModel_present (c_mask : Bool) (c_active : Nat → Bool) (c_priorities : Nat → Int32) (x1 : Bool) : Int32 :=
  k_ThumbCoreModel_present_4 c_mask c_active c_priorities 17 x1 4 0
def k_ThumbCoreModel_actives_26 (c_active : Nat → Bool) (K_4 : Int32 → Int32 → Int32) (y2 : Int32) (z0 : Int32) : Int32 :=
  K_4 z0 (y2 + 1)
def k_ThumbCoreModel_actives_4 (c_active : Nat → Bool) : Nat → Int32 → Int32 → Int32
  | 0, y1, y2 => 0
  | n + 1, y1, y2 =>
  if 16 ≤ y2 then (y1)
  else if (bI (c_active y2.toNatClampNeg)) = 0 then (k_ThumbCoreModel_actives_26 c_active (k_ThumbCoreModel_actives_4 c_active n) y2 y1)
  else k_ThumbCoreModel_actives_26 c_active (k_ThumbCoreModel_actives_4 c_active n) y2 (y1 + 1)
def f_ThumbCoreModel_actives (c_active : Nat → Bool) : Int32 :=
  k_ThumbCoreModel_actives_4 c_active 17 0 0
def k_ThumbCoreModel_waiting_64 (c_pending : Nat → Bool) (c_priorities : Nat → Int32) (K_5 : Int32 → Int32 → Int32 → Int32) (y1 : Int32) (y3 : Int32) (z0 : Int32) : Int32 :=
  K_5 y1 z0 (y3 + (-1))
def k_ThumbCoreModel_waiting_63 (c_pending : Nat → Bool) (c_priorities : Nat → Int32) (K_5 : Int32 → Int32 → Int32 → Int32) (y1 : Int32) (y2 : Int32) (y3 : Int32) : Int32 :=
  k_ThumbCoreModel_waiting_64 c_pending c_priorities K_5 y1 y3 y2
def k_ThumbCoreModel_waiting_59 (c_pending : Nat → Bool) (c_priorities : Nat → Int32) (K_5 : Int32 → Int32 → Int32 → Int32) (y1 : Int32) (y3 : Int32) : Int32 :=
  k_ThumbCoreModel_waiting_64 c_pending c_priorities K_5 y1 y3 y3
def k_ThumbCoreModel_waiting_33 (c_pending : Nat → Bool) (c_priorities : Nat → Int32) (K_5 : Int32 → Int32 → Int32 → Int32) (y1 : Int32) (y2 : Int32) (y3 : Int32) (z0 : Bool) : Int32 :=
  if (bI z0) = 0 then (k_ThumbCoreModel_waiting_63 c_pending c_priorities K_5 y1 y2 y3)
  else if y2 = 0 then (k_ThumbCoreModel_waiting_59 c_pending c_priorities K_5 y1 y3)
  else if (c_priorities y2.toNatClampNeg) < (c_priorities y3.toNatClampNeg) then (k_ThumbCoreModel_waiting_63 c_pending c_priorities K_5 y1 y2 y3)
  else k_ThumbCoreModel_waiting_59 c_pending c_priorities K_5 y1 y3
def k_ThumbCoreModel_waiting_32 (c_pending : Nat → Bool) (c_priorities : Nat → Int32) (K_5 : Int32 → Int32 → Int32 → Int32) (y1 : Int32) (y2 : Int32) (y3 : Int32) : Int32 :=
  k_ThumbCoreModel_waiting_33 c_pending c_priorities K_5 y1 y2 y3 false
def k_ThumbCoreModel_waiting_5 (c_pending : Nat → Bool) (c_priorities : Nat → Int32) : Nat → Int32 → Int32 → Int32 → Int32
  | 0, y1, y2, y3 => 0
  | n + 1, y1, y2, y3 =>
  if y3 ≤ 0 then (y2)
  else if (bI (c_pending y3.toNatClampNeg)) = 0 then (k_ThumbCoreModel_waiting_32 c_pending c_priorities (k_ThumbCoreModel_waiting_5 c_pending c_priorities n) y1 y2 y3)
  else if y1 ≤ (c_priorities y3.toNatClampNeg) then (k_ThumbCoreModel_waiting_32 c_pending c_priorities (k_ThumbCoreModel_waiting_5 c_pending c_priorities n) y1 y2 y3)
  else k_ThumbCoreModel_waiting_33 c_pending c_priorities (k_ThumbCoreModel_waiting_5 c_pending c_priorities n) y1 y2 y3 true
def f_ThumbCoreModel_waiting (c_pending : Nat → Bool) (c_priorities : Nat → Int32) (x1 : Int32) : Int32 :=
  k_ThumbCoreModel_waiting_5 c_pending c_priorities ((Int32.toInt 15 + 1).toNat.succ) x1 0 15
theorem tc_wtI (p : Nat → Bool) (pr : Nat → Int32) : ∀ (n : Nat) (u b k : Int32), vp_in b 16 → tc_ld k n → k.toInt ≤ 15 → vp_in (k_ThumbCoreModel_waiting_5 p pr n u b k) 16 := by
  intro n
  induction n with
  | zero =>
    intro u b k hb hk _
    exact (tc_ld0 hk).elim
  | succ n ih =>
    intro u b k hb hk h15
    unfold k_ThumbCoreModel_waiting_5
    by_cases g : k ≤ 0
    · rw [if_pos g]
      exact hb
    · rw [if_neg g]
      have hgd := tc_gle g
      have hk2 := tc_ldS hk (Int.le_of_lt hgd)
      have hki := tc_dIn hgd h15
      have h15' := tc_dUb hgd h15
      simp only [k_ThumbCoreModel_waiting_32, k_ThumbCoreModel_waiting_33, k_ThumbCoreModel_waiting_59, k_ThumbCoreModel_waiting_63, k_ThumbCoreModel_waiting_64]
      repeat' split
      all_goals first | exact ih _ _ _ hb hk2 h15' | exact ih _ _ _ hki hk2 h15'
theorem tc_wtIn {v u : Int32} {p : Nat → Bool} {pr : Nat → Int32} (e : v = f_ThumbCoreModel_waiting p pr u) : vp_in v 16 := by
  rw [e]
  exact tc_wtI p pr _ u 0 15 (by show ¬ (_ ∨ _); decide) (tc_ldE 15) (by decide)
def k_ThumbCoreModel_enter_245 (q_size : Int32) (c_n : Bool) (c_z : Bool) (c_c : Bool) (c_v : Bool) (c_bad : Bool) (c_lockup : Bool) (c_current : Int32) (c_memory : Nat → Int32) (c_reg : Nat → Int32) (c_pending : Nat → Bool) (c_active : Nat → Bool) (y1 : Int32) (y4 : Int32) (y6 : Int32) (z2 : Int32) : Bool × Bool × Int32 × (Nat → Int32) × (Nat → Int32) × (Nat → Bool) × (Nat → Bool) :=
  (c_bad, c_lockup, y1, c_memory, (upd (upd (upd c_reg (14 : Int32).toNatClampNeg z2) (13 : Int32).toNatClampNeg y4) (15 : Int32).toNatClampNeg (y6 &&& (-2))), (va_up c_pending y1.toNatClampNeg false), (va_up c_active y1.toNatClampNeg true))
def k_ThumbCoreModel_enter_203 (q_size : Int32) (c_n : Bool) (c_z : Bool) (c_c : Bool) (c_v : Bool) (K_121 : Bool → Bool → Int32 → (Nat → Int32) → (Nat → Int32) → (Nat → Bool) → (Nat → Bool) → Int32 → Int32 → Int32 → Int32 → Int32 → Int32 → Bool × Bool × Int32 × (Nat → Int32) × (Nat → Int32) × (Nat → Bool) × (Nat → Bool)) (c_bad : Bool) (c_lockup : Bool) (c_current : Int32) (c_memory : Nat → Int32) (c_reg : Nat → Int32) (c_pending : Nat → Bool) (c_active : Nat → Bool) (y1 : Int32) (y2 : Int32) (y3 : Int32) (y4 : Int32) (y6 : Int32) (y7 : Int32) (z0 : Int32) : Bool × Bool × Int32 × (Nat → Int32) × (Nat → Int32) × (Nat → Bool) × (Nat → Bool) :=
  un2 (f_ThumbCoreModel_write q_size c_bad c_memory (y4 + (4 * y7)) z0 4) (fun s1 s2 =>
  K_121 s1 c_lockup c_current s2 c_reg c_pending c_active y1 y2 y3 y4 y6 (y7 + 1))
def k_ThumbCoreModel_enter_202 (q_size : Int32) (c_n : Bool) (c_z : Bool) (c_c : Bool) (c_v : Bool) (K_121 : Bool → Bool → Int32 → (Nat → Int32) → (Nat → Int32) → (Nat → Bool) → (Nat → Bool) → Int32 → Int32 → Int32 → Int32 → Int32 → Int32 → Bool × Bool × Int32 × (Nat → Int32) × (Nat → Int32) × (Nat → Bool) × (Nat → Bool)) (c_bad : Bool) (c_lockup : Bool) (c_current : Int32) (c_memory : Nat → Int32) (c_reg : Nat → Int32) (c_pending : Nat → Bool) (c_active : Nat → Bool) (y1 : Int32) (y2 : Int32) (y3 : Int32) (y4 : Int32) (y6 : Int32) (y7 : Int32) (z0 : Int32) (z1 : Int32) : Bool × Bool × Int32 × (Nat → Int32) × (Nat → Int32) × (Nat → Bool) × (Nat → Bool) :=
  k_ThumbCoreModel_enter_203 q_size c_n c_z c_c c_v K_121 c_bad c_lockup c_current c_memory c_reg c_pending c_active y1 y2 y3 y4 y6 y7 (z0 ||| z1)
def k_ThumbCoreModel_enter_121 (q_size : Int32) (c_n : Bool) (c_z : Bool) (c_c : Bool) (c_v : Bool) : Nat → Bool → Bool → Int32 → (Nat → Int32) → (Nat → Int32) → (Nat → Bool) → (Nat → Bool) → Int32 → Int32 → Int32 → Int32 → Int32 → Int32 → Bool × Bool × Int32 × (Nat → Int32) × (Nat → Int32) × (Nat → Bool) × (Nat → Bool)
  | 0, c_bad, c_lockup, c_current, c_memory, c_reg, c_pending, c_active, y1, y2, y3, y4, y6, y7 => (c_bad, c_lockup, c_current, c_memory, c_reg, c_pending, c_active)
  | n + 1, c_bad, c_lockup, c_current, c_memory, c_reg, c_pending, c_active, y1, y2, y3, y4, y6, y7 =>
  if 8 ≤ y7 then (bd (f_ThumbCoreModel_actives c_active : Int32) (fun v1 =>
    if ¬ v1 = 0 then (k_ThumbCoreModel_enter_245 q_size c_n c_z c_c c_v c_bad c_lockup c_current c_memory c_reg c_pending c_active y1 y4 y6 (-15))
    else k_ThumbCoreModel_enter_245 q_size c_n c_z c_c c_v c_bad c_lockup c_current c_memory c_reg c_pending c_active y1 y4 y6 (-7)))
  else if 4 ≤ y7 then (if ¬ y7 = 4 then (if ¬ y7 = 5 then (if ¬ y7 = 6 then (bd (f_ThumbCoreModel_status c_n c_z c_c c_v c_current : Int32) (fun v2 =>
          if y3 ≤ 0 then (k_ThumbCoreModel_enter_202 q_size c_n c_z c_c c_v (k_ThumbCoreModel_enter_121 q_size c_n c_z c_c c_v n) c_bad c_lockup c_current c_memory c_reg c_pending c_active y1 y2 y3 y4 y6 y7 v2 0)
          else k_ThumbCoreModel_enter_202 q_size c_n c_z c_c c_v (k_ThumbCoreModel_enter_121 q_size c_n c_z c_c c_v n) c_bad c_lockup c_current c_memory c_reg c_pending c_active y1 y2 y3 y4 y6 y7 v2 512))
        else k_ThumbCoreModel_enter_203 q_size c_n c_z c_c c_v (k_ThumbCoreModel_enter_121 q_size c_n c_z c_c c_v n) c_bad c_lockup c_current c_memory c_reg c_pending c_active y1 y2 y3 y4 y6 y7 y2)
      else k_ThumbCoreModel_enter_203 q_size c_n c_z c_c c_v (k_ThumbCoreModel_enter_121 q_size c_n c_z c_c c_v n) c_bad c_lockup c_current c_memory c_reg c_pending c_active y1 y2 y3 y4 y6 y7 (c_reg (14 : Int32).toNatClampNeg))
    else k_ThumbCoreModel_enter_203 q_size c_n c_z c_c c_v (k_ThumbCoreModel_enter_121 q_size c_n c_z c_c c_v n) c_bad c_lockup c_current c_memory c_reg c_pending c_active y1 y2 y3 y4 y6 y7 (c_reg (12 : Int32).toNatClampNeg))
  else k_ThumbCoreModel_enter_203 q_size c_n c_z c_c c_v (k_ThumbCoreModel_enter_121 q_size c_n c_z c_c c_v n) c_bad c_lockup c_current c_memory c_reg c_pending c_active y1 y2 y3 y4 y6 y7 (c_reg y7.toNatClampNeg)
def k_ThumbCoreModel_enter_103 (q_size : Int32) (c_n : Bool) (c_z : Bool) (c_c : Bool) (c_v : Bool) (c_bad : Bool) (c_lockup : Bool) (c_current : Int32) (c_memory : Nat → Int32) (c_reg : Nat → Int32) (c_pending : Nat → Bool) (c_active : Nat → Bool) (y1 : Int32) (y2 : Int32) (y3 : Int32) (y4 : Int32) (z0 : Int32) : Bool × Bool × Int32 × (Nat → Int32) × (Nat → Int32) × (Nat → Bool) × (Nat → Bool) :=
  if ¬ (z0 &&& 1) = 0 then (k_ThumbCoreModel_enter_121 q_size c_n c_z c_c c_v 9 c_bad c_lockup c_current c_memory c_reg c_pending c_active y1 y2 y3 y4 z0 0)
  else (c_bad, true, c_current, c_memory, c_reg, c_pending, c_active)
def k_ThumbCoreModel_enter_78 (q_size : Int32) (c_n : Bool) (c_z : Bool) (c_c : Bool) (c_v : Bool) (K_46 : Bool → Bool → Int32 → (Nat → Int32) → (Nat → Int32) → (Nat → Bool) → (Nat → Bool) → Int32 → Int32 → Int32 → Int32 → Bool → Int32 → Bool × Bool × Int32 × (Nat → Int32) × (Nat → Int32) × (Nat → Bool) × (Nat → Bool)) (c_bad : Bool) (c_lockup : Bool) (c_current : Int32) (c_memory : Nat → Int32) (c_reg : Nat → Int32) (c_pending : Nat → Bool) (c_active : Nat → Bool) (y1 : Int32) (y2 : Int32) (y3 : Int32) (y4 : Int32) (y6 : Int32) (z0 : Bool) : Bool × Bool × Int32 × (Nat → Int32) × (Nat → Int32) × (Nat → Bool) × (Nat → Bool) :=
  K_46 c_bad c_lockup c_current c_memory c_reg c_pending c_active y1 y2 y3 y4 z0 (y6 + 1)
def k_ThumbCoreModel_enter_77 (q_size : Int32) (c_n : Bool) (c_z : Bool) (c_c : Bool) (c_v : Bool) (K_46 : Bool → Bool → Int32 → (Nat → Int32) → (Nat → Int32) → (Nat → Bool) → (Nat → Bool) → Int32 → Int32 → Int32 → Int32 → Bool → Int32 → Bool × Bool × Int32 × (Nat → Int32) × (Nat → Int32) × (Nat → Bool) × (Nat → Bool)) (c_bad : Bool) (c_lockup : Bool) (c_current : Int32) (c_memory : Nat → Int32) (c_reg : Nat → Int32) (c_pending : Nat → Bool) (c_active : Nat → Bool) (y1 : Int32) (y2 : Int32) (y3 : Int32) (y4 : Int32) (y6 : Int32) : Bool × Bool × Int32 × (Nat → Int32) × (Nat → Int32) × (Nat → Bool) × (Nat → Bool) :=
  k_ThumbCoreModel_enter_78 q_size c_n c_z c_c c_v K_46 c_bad c_lockup c_current c_memory c_reg c_pending c_active y1 y2 y3 y4 y6 false
def k_ThumbCoreModel_enter_46 (q_size : Int32) (c_n : Bool) (c_z : Bool) (c_c : Bool) (c_v : Bool) : Nat → Bool → Bool → Int32 → (Nat → Int32) → (Nat → Int32) → (Nat → Bool) → (Nat → Bool) → Int32 → Int32 → Int32 → Int32 → Bool → Int32 → Bool × Bool × Int32 × (Nat → Int32) × (Nat → Int32) × (Nat → Bool) × (Nat → Bool)
  | 0, c_bad, c_lockup, c_current, c_memory, c_reg, c_pending, c_active, y1, y2, y3, y4, y5, y6 => (c_bad, c_lockup, c_current, c_memory, c_reg, c_pending, c_active)
  | n + 1, c_bad, c_lockup, c_current, c_memory, c_reg, c_pending, c_active, y1, y2, y3, y4, y5, y6 =>
  if 8 ≤ y6 then (if (bI y5) = 0 then (k_ThumbCoreModel_enter_103 q_size c_n c_z c_c c_v c_bad c_lockup c_current c_memory c_reg c_pending c_active y1 y2 y3 y4 0)
    else un2 (f_ThumbCoreModel_read q_size c_memory c_bad (4 * y1) 4) (fun r1 s2 =>
    k_ThumbCoreModel_enter_103 q_size c_n c_z c_c c_v s2 c_lockup c_current c_memory c_reg c_pending c_active y1 y2 y3 y4 r1))
  else if (bI y5) = 0 then (k_ThumbCoreModel_enter_77 q_size c_n c_z c_c c_v (k_ThumbCoreModel_enter_46 q_size c_n c_z c_c c_v n) c_bad c_lockup c_current c_memory c_reg c_pending c_active y1 y2 y3 y4 y6)
  else bd (f_ThumbCoreModel_there q_size (y4 + (4 * y6)) 4 : Bool) (fun v3 =>
  if (bI v3) = 0 then (k_ThumbCoreModel_enter_77 q_size c_n c_z c_c c_v (k_ThumbCoreModel_enter_46 q_size c_n c_z c_c c_v n) c_bad c_lockup c_current c_memory c_reg c_pending c_active y1 y2 y3 y4 y6)
  else k_ThumbCoreModel_enter_78 q_size c_n c_z c_c c_v (k_ThumbCoreModel_enter_46 q_size c_n c_z c_c c_v n) c_bad c_lockup c_current c_memory c_reg c_pending c_active y1 y2 y3 y4 y6 true)
def k_ThumbCoreModel_enter_18 (q_size : Int32) (c_n : Bool) (c_z : Bool) (c_c : Bool) (c_v : Bool) (c_bad : Bool) (c_lockup : Bool) (c_current : Int32) (c_memory : Nat → Int32) (c_reg : Nat → Int32) (c_pending : Nat → Bool) (c_active : Nat → Bool) (y1 : Int32) (y2 : Int32) (z0 : Int32) : Bool × Bool × Int32 × (Nat → Int32) × (Nat → Int32) × (Nat → Bool) × (Nat → Bool) :=
  bd ((((c_reg (13 : Int32).toNatClampNeg) - 32) - z0) : Int32) (fun v1 =>
  bd (f_ThumbCoreModel_there q_size (4 * y1) 4 : Bool) (fun v2 =>
  k_ThumbCoreModel_enter_46 q_size c_n c_z c_c c_v 9 c_bad c_lockup c_current c_memory c_reg c_pending c_active y1 y2 z0 v1 v2 0))
def f_ThumbCoreModel_enter (q_size : Int32) (c_n : Bool) (c_z : Bool) (c_c : Bool) (c_v : Bool) (c_bad : Bool) (c_lockup : Bool) (c_current : Int32) (c_memory : Nat → Int32) (c_reg : Nat → Int32) (c_pending : Nat → Bool) (c_active : Nat → Bool) (x1 : Int32) (x2 : Int32) : Bool × Bool × Int32 × (Nat → Int32) × (Nat → Int32) × (Nat → Bool) × (Nat → Bool) :=
  if ((c_reg (13 : Int32).toNatClampNeg) &&& 7) = 0 then (k_ThumbCoreModel_enter_18 q_size c_n c_z c_c c_v c_bad c_lockup c_current c_memory c_reg c_pending c_active x1 x2 0)
  else k_ThumbCoreModel_enter_18 q_size c_n c_z c_c c_v c_bad c_lockup c_current c_memory c_reg c_pending c_active x1 x2 4
def f_ThumbCoreModel_fault (q_size : Int32) (c_n : Bool) (c_z : Bool) (c_c : Bool) (c_v : Bool) (c_mask : Bool) (c_priorities : Nat → Int32) (c_bad : Bool) (c_lockup : Bool) (c_current : Int32) (c_memory : Nat → Int32) (c_reg : Nat → Int32) (c_pending : Nat → Bool) (c_active : Nat → Bool) : Bool × Bool × Int32 × (Nat → Int32) × (Nat → Int32) × (Nat → Bool) × (Nat → Bool) :=
  bd (f_ThumbCoreModel_present c_mask c_active c_priorities true : Int32) (fun v1 =>
  if 0 ≤ v1 then (un7 (f_ThumbCoreModel_enter q_size c_n c_z c_c c_v c_bad c_lockup c_current c_memory c_reg c_pending c_active 3 (c_reg (15 : Int32).toNatClampNeg)) (fun s2 s3 s4 s5 s6 s7 s8 =>
    (s2, s3, s4, s5, s6, s7, s8)))
  else (c_bad, true, c_current, c_memory, c_reg, c_pending, c_active))
def k_ThumbCoreModel_comeBack_310 (q_size : Int32) (c_memory : Nat → Int32) (c_n : Bool) (c_z : Bool) (c_c : Bool) (c_v : Bool) (c_bad : Bool) (c_after : Int32) (c_current : Int32) (c_reg : Nat → Int32) (c_active : Nat → Bool) (z2 : Int32) (z3 : Int32) : Bool × Bool × Bool × Bool × Bool × Int32 × Int32 × (Nat → Int32) × (Nat → Bool) :=
  (c_n, c_z, c_c, c_v, c_bad, c_after, c_current, (upd c_reg (13 : Int32).toNatClampNeg (z2 + z3)), c_active)
def k_ThumbCoreModel_comeBack_183 (q_size : Int32) (c_memory : Nat → Int32) : Nat → Bool → Bool → Bool → Bool → Bool → Int32 → Int32 → (Nat → Int32) → (Nat → Bool) → Int32 → Int32 → Int32 → Int32 → Bool × Bool × Bool × Bool × Bool × Int32 × Int32 × (Nat → Int32) × (Nat → Bool)
  | 0, c_n, c_z, c_c, c_v, c_bad, c_after, c_current, c_reg, c_active, y2, y3, y4, y6 => (c_n, c_z, c_c, c_v, c_bad, c_after, c_current, c_reg, c_active)
  | n + 1, c_n, c_z, c_c, c_v, c_bad, c_after, c_current, c_reg, c_active, y2, y3, y4, y6 =>
  if 4 ≤ y6 then (un2 (f_ThumbCoreModel_read q_size c_memory c_bad (y2 + 16) 4) (fun r1 s2 =>
    un2 (f_ThumbCoreModel_read q_size c_memory s2 (y2 + 20) 4) (fun r3 s4 =>
    un2 (f_ThumbCoreModel_read q_size c_memory s4 (y2 + 24) 4) (fun r5 s6 =>
    un4 (f_ThumbCoreModel_flags c_n c_z c_c c_v ((o_ishr y3 28) &&& 15)) (fun s7 s8 s9 s10 =>
    if (y3 &&& 512) = 0 then (k_ThumbCoreModel_comeBack_310 q_size c_memory s7 s8 s9 s10 s6 (r5 &&& (-2)) y4 (upd (upd c_reg (12 : Int32).toNatClampNeg r1) (14 : Int32).toNatClampNeg r3) (va_up c_active c_current.toNatClampNeg false) y2 32)
    else k_ThumbCoreModel_comeBack_310 q_size c_memory s7 s8 s9 s10 s6 (r5 &&& (-2)) y4 (upd (upd c_reg (12 : Int32).toNatClampNeg r1) (14 : Int32).toNatClampNeg r3) (va_up c_active c_current.toNatClampNeg false) y2 36)))))
  else un2 (f_ThumbCoreModel_read q_size c_memory c_bad (y2 + (4 * y6)) 4) (fun r11 s12 =>
  k_ThumbCoreModel_comeBack_183 q_size c_memory n c_n c_z c_c c_v s12 c_after c_current (upd c_reg y6.toNatClampNeg r11) c_active y2 y3 y4 (y6 + 1))
def k_ThumbCoreModel_comeBack_169 (q_size : Int32) (c_memory : Nat → Int32) (c_n : Bool) (c_z : Bool) (c_c : Bool) (c_v : Bool) (c_bad : Bool) (c_after : Int32) (c_current : Int32) (c_reg : Nat → Int32) (c_active : Nat → Bool) (y2 : Int32) (y3 : Int32) (y4 : Int32) (z1 : Bool) : Bool × Bool × Bool × Bool × Bool × Int32 × Int32 × (Nat → Int32) × (Nat → Bool) :=
  if (bI z1) = 0 then (k_ThumbCoreModel_comeBack_183 q_size c_memory 5 c_n c_z c_c c_v z1 c_after c_current c_reg c_active y2 y3 y4 0)
  else (c_n, c_z, c_c, c_v, z1, c_after, c_current, c_reg, c_active)
def k_ThumbCoreModel_comeBack_164 (q_size : Int32) (c_memory : Nat → Int32) (c_n : Bool) (c_z : Bool) (c_c : Bool) (c_v : Bool) (c_bad : Bool) (c_after : Int32) (c_current : Int32) (c_reg : Nat → Int32) (c_active : Nat → Bool) (y2 : Int32) (y3 : Int32) (y4 : Int32) : Bool × Bool × Bool × Bool × Bool × Int32 × Int32 × (Nat → Int32) × (Nat → Bool) :=
  k_ThumbCoreModel_comeBack_169 q_size c_memory c_n c_z c_c c_v c_bad c_after c_current c_reg c_active y2 y3 y4 true
def k_ThumbCoreModel_comeBack_149 (q_size : Int32) (c_memory : Nat → Int32) (c_n : Bool) (c_z : Bool) (c_c : Bool) (c_v : Bool) (c_bad : Bool) (c_after : Int32) (c_current : Int32) (c_reg : Nat → Int32) (c_active : Nat → Bool) (y2 : Int32) (y3 : Int32) (y4 : Int32) (z0 : Bool) : Bool × Bool × Bool × Bool × Bool × Int32 × Int32 × (Nat → Int32) × (Nat → Bool) :=
  if ¬ (bI c_bad) = 0 then (k_ThumbCoreModel_comeBack_164 q_size c_memory c_n c_z c_c c_v c_bad c_after c_current c_reg c_active y2 y3 y4)
  else if ¬ (bI z0) = 0 then (k_ThumbCoreModel_comeBack_169 q_size c_memory c_n c_z c_c c_v c_bad c_after c_current c_reg c_active y2 y3 y4 false)
  else k_ThumbCoreModel_comeBack_164 q_size c_memory c_n c_z c_c c_v c_bad c_after c_current c_reg c_active y2 y3 y4
def k_ThumbCoreModel_comeBack_148 (q_size : Int32) (c_memory : Nat → Int32) (c_n : Bool) (c_z : Bool) (c_c : Bool) (c_v : Bool) (c_bad : Bool) (c_after : Int32) (c_current : Int32) (c_reg : Nat → Int32) (c_active : Nat → Bool) (y2 : Int32) (y3 : Int32) (y4 : Int32) : Bool × Bool × Bool × Bool × Bool × Int32 × Int32 × (Nat → Int32) × (Nat → Bool) :=
  k_ThumbCoreModel_comeBack_149 q_size c_memory c_n c_z c_c c_v c_bad c_after c_current c_reg c_active y2 y3 y4 false
def k_ThumbCoreModel_comeBack_101 (q_size : Int32) (c_memory : Nat → Int32) (c_n : Bool) (c_z : Bool) (c_c : Bool) (c_v : Bool) (c_bad : Bool) (c_after : Int32) (c_current : Int32) (c_reg : Nat → Int32) (c_active : Nat → Bool) (y2 : Int32) (y3 : Int32) (y4 : Int32) : Bool × Bool × Bool × Bool × Bool × Int32 × Int32 × (Nat → Int32) × (Nat → Bool) :=
  k_ThumbCoreModel_comeBack_149 q_size c_memory c_n c_z c_c c_v c_bad c_after c_current c_reg c_active y2 y3 y4 false
def k_ThumbCoreModel_comeBack_71 (q_size : Int32) (c_memory : Nat → Int32) (c_n : Bool) (c_z : Bool) (c_c : Bool) (c_v : Bool) (c_bad : Bool) (c_after : Int32) (c_current : Int32) (c_reg : Nat → Int32) (c_active : Nat → Bool) (y1 : Int32) (y2 : Int32) (z0 : Int32) : Bool × Bool × Bool × Bool × Bool × Int32 × Int32 × (Nat → Int32) × (Nat → Bool) :=
  bd ((z0 &&& 63) : Int32) (fun v1 =>
  if ¬ y1 = (-7) then (if 16 ≤ v1 then (k_ThumbCoreModel_comeBack_148 q_size c_memory c_n c_z c_c c_v c_bad c_after c_current c_reg c_active y2 z0 v1)
    else if v1 = c_current then (k_ThumbCoreModel_comeBack_148 q_size c_memory c_n c_z c_c c_v c_bad c_after c_current c_reg c_active y2 z0 v1)
    else if v1 ≤ 0 then (k_ThumbCoreModel_comeBack_148 q_size c_memory c_n c_z c_c c_v c_bad c_after c_current c_reg c_active y2 z0 v1)
    else if (bI (c_active v1.toNatClampNeg)) = 0 then (k_ThumbCoreModel_comeBack_148 q_size c_memory c_n c_z c_c c_v c_bad c_after c_current c_reg c_active y2 z0 v1)
    else bd (f_ThumbCoreModel_actives c_active : Int32) (fun v2 =>
    if v2 ≤ 1 then (k_ThumbCoreModel_comeBack_148 q_size c_memory c_n c_z c_c c_v c_bad c_after c_current c_reg c_active y2 z0 v1)
    else k_ThumbCoreModel_comeBack_149 q_size c_memory c_n c_z c_c c_v c_bad c_after c_current c_reg c_active y2 z0 v1 true))
  else if ¬ v1 = 0 then (k_ThumbCoreModel_comeBack_101 q_size c_memory c_n c_z c_c c_v c_bad c_after c_current c_reg c_active y2 z0 v1)
  else bd (f_ThumbCoreModel_actives c_active : Int32) (fun v3 =>
  if ¬ v3 = 1 then (k_ThumbCoreModel_comeBack_101 q_size c_memory c_n c_z c_c c_v c_bad c_after c_current c_reg c_active y2 z0 v1)
  else k_ThumbCoreModel_comeBack_149 q_size c_memory c_n c_z c_c c_v c_bad c_after c_current c_reg c_active y2 z0 v1 true))
def k_ThumbCoreModel_comeBack_42 (q_size : Int32) (c_memory : Nat → Int32) (K_10 : Bool → Bool → Bool → Bool → Bool → Int32 → Int32 → (Nat → Int32) → (Nat → Bool) → Int32 → Int32 → Int32 → Bool × Bool × Bool × Bool × Bool × Int32 × Int32 × (Nat → Int32) × (Nat → Bool)) (c_n : Bool) (c_z : Bool) (c_c : Bool) (c_v : Bool) (c_bad : Bool) (c_after : Int32) (c_current : Int32) (c_reg : Nat → Int32) (c_active : Nat → Bool) (y1 : Int32) (y2 : Int32) (y3 : Int32) (z1 : Bool) : Bool × Bool × Bool × Bool × Bool × Int32 × Int32 × (Nat → Int32) × (Nat → Bool) :=
  K_10 c_n c_z c_c c_v z1 c_after c_current c_reg c_active y1 y2 (y3 + 1)
def k_ThumbCoreModel_comeBack_37 (q_size : Int32) (c_memory : Nat → Int32) (K_10 : Bool → Bool → Bool → Bool → Bool → Int32 → Int32 → (Nat → Int32) → (Nat → Bool) → Int32 → Int32 → Int32 → Bool × Bool × Bool × Bool × Bool × Int32 × Int32 × (Nat → Int32) × (Nat → Bool)) (c_n : Bool) (c_z : Bool) (c_c : Bool) (c_v : Bool) (c_bad : Bool) (c_after : Int32) (c_current : Int32) (c_reg : Nat → Int32) (c_active : Nat → Bool) (y1 : Int32) (y2 : Int32) (y3 : Int32) : Bool × Bool × Bool × Bool × Bool × Int32 × Int32 × (Nat → Int32) × (Nat → Bool) :=
  k_ThumbCoreModel_comeBack_42 q_size c_memory K_10 c_n c_z c_c c_v c_bad c_after c_current c_reg c_active y1 y2 y3 true
def k_ThumbCoreModel_comeBack_10 (q_size : Int32) (c_memory : Nat → Int32) : Nat → Bool → Bool → Bool → Bool → Bool → Int32 → Int32 → (Nat → Int32) → (Nat → Bool) → Int32 → Int32 → Int32 → Bool × Bool × Bool × Bool × Bool × Int32 × Int32 × (Nat → Int32) × (Nat → Bool)
  | 0, c_n, c_z, c_c, c_v, c_bad, c_after, c_current, c_reg, c_active, y1, y2, y3 => (c_n, c_z, c_c, c_v, c_bad, c_after, c_current, c_reg, c_active)
  | n + 1, c_n, c_z, c_c, c_v, c_bad, c_after, c_current, c_reg, c_active, y1, y2, y3 =>
  if 8 ≤ y3 then (if (bI c_bad) = 0 then (un2 (f_ThumbCoreModel_read q_size c_memory c_bad (y2 + 28) 4) (fun r1 s2 =>
      k_ThumbCoreModel_comeBack_71 q_size c_memory c_n c_z c_c c_v s2 c_after c_current c_reg c_active y1 y2 r1))
    else k_ThumbCoreModel_comeBack_71 q_size c_memory c_n c_z c_c c_v c_bad c_after c_current c_reg c_active y1 y2 0)
  else if ¬ (bI c_bad) = 0 then (k_ThumbCoreModel_comeBack_37 q_size c_memory (k_ThumbCoreModel_comeBack_10 q_size c_memory n) c_n c_z c_c c_v c_bad c_after c_current c_reg c_active y1 y2 y3)
  else bd (f_ThumbCoreModel_there q_size (y2 + (4 * y3)) 4 : Bool) (fun v3 =>
  if ¬ (bI v3) = 0 then (k_ThumbCoreModel_comeBack_42 q_size c_memory (k_ThumbCoreModel_comeBack_10 q_size c_memory n) c_n c_z c_c c_v c_bad c_after c_current c_reg c_active y1 y2 y3 false)
  else k_ThumbCoreModel_comeBack_37 q_size c_memory (k_ThumbCoreModel_comeBack_10 q_size c_memory n) c_n c_z c_c c_v c_bad c_after c_current c_reg c_active y1 y2 y3)
def f_ThumbCoreModel_comeBack (q_size : Int32) (c_memory : Nat → Int32) (c_n : Bool) (c_z : Bool) (c_c : Bool) (c_v : Bool) (c_bad : Bool) (c_after : Int32) (c_current : Int32) (c_reg : Nat → Int32) (c_active : Nat → Bool) (x1 : Int32) : Bool × Bool × Bool × Bool × Bool × Int32 × Int32 × (Nat → Int32) × (Nat → Bool) :=
  bd ((c_reg (13 : Int32).toNatClampNeg) : Int32) (fun v1 =>
  k_ThumbCoreModel_comeBack_10 q_size c_memory 9 c_n c_z c_c c_v c_bad c_after c_current c_reg c_active x1 v1 0)
def f_ThumbCoreModel_returns (c_active : Nat → Bool) (x1 : Int32) : Bool :=
  bd (f_ThumbCoreModel_actives c_active : Int32) (fun v1 =>
  if v1 ≤ 0 then (false)
  else if x1 = (-7) then (true)
  else if ¬ x1 = (-15) then (false)
  else true)
def f_ThumbCoreModel_goTo (q_size : Int32) (c_memory : Nat → Int32) (c_n : Bool) (c_z : Bool) (c_c : Bool) (c_v : Bool) (c_bad : Bool) (c_after : Int32) (c_current : Int32) (c_reg : Nat → Int32) (c_active : Nat → Bool) (x1 : Int32) : Bool × Bool × Bool × Bool × Bool × Int32 × Int32 × (Nat → Int32) × (Nat → Bool) :=
  bd (f_ThumbCoreModel_returns c_active x1 : Bool) (fun v1 =>
  if (bI v1) = 0 then (if ¬ (x1 &&& 1) = 0 then ((c_n, c_z, c_c, c_v, c_bad, (x1 - 1), c_current, c_reg, c_active))
    else (c_n, c_z, c_c, c_v, true, c_after, c_current, c_reg, c_active))
  else un9 (f_ThumbCoreModel_comeBack q_size c_memory c_n c_z c_c c_v c_bad c_after c_current c_reg c_active x1) (fun s2 s3 s4 s5 s6 s7 s8 s9 s10 =>
  (s2, s3, s4, s5, s6, s7, s8, s9, s10)))
def k_ThumbCoreModel_moved_108 (c_n : Bool) (c_z : Bool) (c_c : Bool) (y4 : Int64) (y6 : Int32) (z1 : Bool) : Int32 × Bool × Bool × Bool :=
  un3 (f_ThumbCoreModel_shown c_n c_z ((o_lshr y4 y6).toInt32)) (fun r1 s2 s3 =>
  (r1, s2, s3, z1))
def k_ThumbCoreModel_moved_77 (c_n : Bool) (c_z : Bool) (c_c : Bool) (y7 : Int64) (z1 : Bool) : Int32 × Bool × Bool × Bool :=
  un3 (f_ThumbCoreModel_shown c_n c_z y7.toInt32) (fun r1 s2 s3 =>
  (r1, s2, s3, z1))
def k_ThumbCoreModel_moved_76 (c_n : Bool) (c_z : Bool) (c_c : Bool) (y7 : Int64) : Int32 × Bool × Bool × Bool :=
  k_ThumbCoreModel_moved_77 c_n c_z c_c y7 false
def k_ThumbCoreModel_moved_40 (c_n : Bool) (c_z : Bool) (c_c : Bool) (y1 : Int32) (y3 : Int32) (y4 : Int64) (z0 : Int32) : Int32 × Bool × Bool × Bool :=
  if ¬ y1 = 0 then (if ¬ (lg_cmp ((o_lshr y4 (z0 - 1)) &&& 1) 1) = 0 then (k_ThumbCoreModel_moved_108 c_n c_z c_c y4 z0 false)
    else k_ThumbCoreModel_moved_108 c_n c_z c_c y4 z0 true)
  else bd ((o_lshl y4 z0) : Int64) (fun v1 =>
  if 32 < y3 then (k_ThumbCoreModel_moved_76 c_n c_z c_c v1)
  else if ¬ (lg_cmp ((o_lshr v1 32) &&& 1) 1) = 0 then (k_ThumbCoreModel_moved_76 c_n c_z c_c v1)
  else k_ThumbCoreModel_moved_77 c_n c_z c_c v1 true)
def k_ThumbCoreModel_moved_26 (c_n : Bool) (c_z : Bool) (c_c : Bool) (y1 : Int32) (y3 : Int32) (z0 : Int64) : Int32 × Bool × Bool × Bool :=
  if y3 ≤ 40 then (k_ThumbCoreModel_moved_40 c_n c_z c_c y1 y3 z0 y3)
  else k_ThumbCoreModel_moved_40 c_n c_z c_c y1 y3 z0 40
def f_ThumbCoreModel_moved (c_n : Bool) (c_z : Bool) (c_c : Bool) (x1 : Int32) (x2 : Int32) (x3 : Int32) : Int32 × Bool × Bool × Bool :=
  if ¬ x3 = 0 then (if ¬ x1 = 2 then (k_ThumbCoreModel_moved_26 c_n c_z c_c x1 x3 (x2.toInt64 &&& 4294967295))
    else k_ThumbCoreModel_moved_26 c_n c_z c_c x1 x3 x2.toInt64)
  else un3 (f_ThumbCoreModel_shown c_n c_z x2) (fun r1 s2 s3 =>
  (r1, s2, s3, c_c))
def f_ThumbCoreModel_field (c_h : Int32) (x1 : Int32) : Int32 :=
  ((o_ishr c_h x1) &&& 7)
theorem tc_enF {v h k : Int32} (e : v = f_ThumbCoreModel_field h k) : vp_in v 16 := by
  rw [e]
  exact tc_in7 _
theorem tc_enW {v z h k : Int32} (e : v = f_ThumbCoreModel_field h k) (ez : z = v + 8 * (o_ishr h 7 &&& 1)) : vp_in z 16 := by
  have h1 := vp_in_iff.mp (show vp_in v 8 by rw [e]; exact pk_andIn _ (m := 7) 3 (by decide) (by decide))
  have h2 := vp_in_iff.mp (pk_andIn (o_ishr h 7) (m := 1) 1 (by decide) (by decide))
  subst ez
  generalize o_ishr h 7 &&& 1 = b at h2 ⊢
  obtain ⟨h3, h4⟩ := h2
  have h5 : (8 * b).toInt = 8 * b.toInt := tc_mulc (k := 8) (by decide) (by decide) h3 (by omega)
  refine vp_in_iff.mpr ?_
  rw [tc_add (by rw [h5]; omega) (by rw [h5]; omega), h5]
  omega
def k_ThumbCoreModel_threes_81 (c_h : Int32) (c_n : Bool) (c_z : Bool) (c_c : Bool) (c_v : Bool) (c_reg : Nat → Int32) (z1 : Int32) (z2 : Int32) : Bool × Bool × Bool × Bool × (Nat → Int32) :=
  (c_n, c_z, c_c, c_v, (upd c_reg z1.toNatClampNeg z2))
def k_ThumbCoreModel_threes_43 (c_h : Int32) (c_n : Bool) (c_z : Bool) (c_c : Bool) (c_v : Bool) (c_reg : Nat → Int32) (y1 : Int32) (y3 : Int32) (z0 : Int32) : Bool × Bool × Bool × Bool × (Nat → Int32) :=
  bd (f_ThumbCoreModel_field c_h 0 : Int32) (fun v1 =>
  if ¬ (o_irem y3 2) = 0 then (un5 (f_ThumbCoreModel_sum c_n c_z c_c c_v y1 (z0 ^^^ (-1)) 1) (fun r2 s3 s4 s5 s6 =>
    k_ThumbCoreModel_threes_81 c_h s3 s4 s5 s6 c_reg v1 r2))
  else un5 (f_ThumbCoreModel_sum c_n c_z c_c c_v y1 z0 0) (fun r7 s8 s9 s10 s11 =>
  k_ThumbCoreModel_threes_81 c_h s8 s9 s10 s11 c_reg v1 r7))
def f_ThumbCoreModel_threes (c_h : Int32) (c_n : Bool) (c_z : Bool) (c_c : Bool) (c_v : Bool) (c_reg : Nat → Int32) : Bool × Bool × Bool × Bool × (Nat → Int32) :=
  bd (f_ThumbCoreModel_field c_h 3 : Int32) (fun v1 =>
  bd ((c_reg v1.toNatClampNeg) : Int32) (fun v2 =>
  bd (f_ThumbCoreModel_field c_h 6 : Int32) (fun v3 =>
  bd (((o_ishr c_h 9) &&& 3) : Int32) (fun v4 =>
  if 2 ≤ v4 then (k_ThumbCoreModel_threes_43 c_h c_n c_z c_c c_v c_reg v2 v4 v3)
  else k_ThumbCoreModel_threes_43 c_h c_n c_z c_c c_v c_reg v2 v4 (c_reg v3.toNatClampNeg)))))
def k_ThumbCoreModel_bytes_99 (c_h : Int32) (c_n : Bool) (c_z : Bool) (c_c : Bool) (c_v : Bool) (c_reg : Nat → Int32) (z1 : Int32) (z2 : Int32) : Bool × Bool × Bool × Bool × (Nat → Int32) :=
  (c_n, c_z, c_c, c_v, (upd c_reg z1.toNatClampNeg z2))
def f_ThumbCoreModel_bytes (c_h : Int32) (c_n : Bool) (c_z : Bool) (c_c : Bool) (c_v : Bool) (c_reg : Nat → Int32) (x1 : Int32) : Bool × Bool × Bool × Bool × (Nat → Int32) :=
  bd (f_ThumbCoreModel_field c_h 8 : Int32) (fun v1 =>
  bd ((c_h &&& 255) : Int32) (fun v2 =>
  if ¬ x1 = 4 then (if ¬ x1 = 5 then (if ¬ x1 = 6 then (un5 (f_ThumbCoreModel_sum c_n c_z c_c c_v (c_reg v1.toNatClampNeg) (v2 ^^^ (-1)) 1) (fun r3 s4 s5 s6 s7 =>
        k_ThumbCoreModel_bytes_99 c_h s4 s5 s6 s7 c_reg v1 r3))
      else un5 (f_ThumbCoreModel_sum c_n c_z c_c c_v (c_reg v1.toNatClampNeg) v2 0) (fun r8 s9 s10 s11 s12 =>
      k_ThumbCoreModel_bytes_99 c_h s9 s10 s11 s12 c_reg v1 r8))
    else un5 (f_ThumbCoreModel_sum c_n c_z c_c c_v (c_reg v1.toNatClampNeg) (v2 ^^^ (-1)) 1) (fun r13 s14 s15 s16 s17 =>
    (s14, s15, s16, s17, c_reg)))
  else un3 (f_ThumbCoreModel_shown c_n c_z v2) (fun r18 s19 s20 =>
  (s19, s20, c_c, c_v, (upd c_reg v1.toNatClampNeg r18)))))
def k_ThumbCoreModel_worked_302 (c_h : Int32) (c_n : Bool) (c_z : Bool) (c_c : Bool) (c_v : Bool) (c_reg : Nat → Int32) (z1 : Bool) : Bool × Bool × Bool × Bool × (Nat → Int32) :=
  (c_n, c_z, z1, c_v, c_reg)
def k_ThumbCoreModel_worked_36 (c_h : Int32) (c_n : Bool) (c_z : Bool) (c_c : Bool) (c_v : Bool) (c_reg : Nat → Int32) (y1 : Int32) (y2 : Int32) (y3 : Int32) (z0 : Bool) : Bool × Bool × Bool × Bool × (Nat → Int32) :=
  bd ((y3 &&& 255) : Int32) (fun v1 =>
  if ((o_ishr c_h 6) &&& 15) = 0 then (un3 (f_ThumbCoreModel_shown c_n c_z (y2 &&& y3)) (fun r2 s3 s4 =>
    (s3, s4, c_c, c_v, (upd c_reg y1.toNatClampNeg r2))))
  else if ((o_ishr c_h 6) &&& 15) = 1 then (un3 (f_ThumbCoreModel_shown c_n c_z (y2 ^^^ y3)) (fun r5 s6 s7 =>
    (s6, s7, c_c, c_v, (upd c_reg y1.toNatClampNeg r5))))
  else if ((o_ishr c_h 6) &&& 15) = 2 then (un4 (f_ThumbCoreModel_moved c_n c_z c_c 0 y2 v1) (fun r8 s9 s10 s11 =>
    (s9, s10, s11, c_v, (upd c_reg y1.toNatClampNeg r8))))
  else if ((o_ishr c_h 6) &&& 15) = 3 then (un4 (f_ThumbCoreModel_moved c_n c_z c_c 1 y2 v1) (fun r12 s13 s14 s15 =>
    (s13, s14, s15, c_v, (upd c_reg y1.toNatClampNeg r12))))
  else if ((o_ishr c_h 6) &&& 15) = 4 then (un4 (f_ThumbCoreModel_moved c_n c_z c_c 2 y2 v1) (fun r16 s17 s18 s19 =>
    (s17, s18, s19, c_v, (upd c_reg y1.toNatClampNeg r16))))
  else if ((o_ishr c_h 6) &&& 15) = 5 then (un5 (f_ThumbCoreModel_sum c_n c_z c_c c_v y2 y3 (bI z0)) (fun r20 s21 s22 s23 s24 =>
    (s21, s22, s23, s24, (upd c_reg y1.toNatClampNeg r20))))
  else if ((o_ishr c_h 6) &&& 15) = 6 then (un5 (f_ThumbCoreModel_sum c_n c_z c_c c_v y2 (y3 ^^^ (-1)) (bI z0)) (fun r25 s26 s27 s28 s29 =>
    (s26, s27, s28, s29, (upd c_reg y1.toNatClampNeg r25))))
  else if ((o_ishr c_h 6) &&& 15) = 7 then (un3 (f_ThumbCoreModel_shown c_n c_z ((o_iushr y2 (v1 &&& 31)) ||| (o_ishl y2 ((32 - v1) &&& 31)))) (fun r30 s31 s32 =>
    if ¬ v1 = 0 then (if 0 ≤ ((upd c_reg y1.toNatClampNeg r30) y1.toNatClampNeg) then (k_ThumbCoreModel_worked_302 c_h s31 s32 c_c c_v (upd c_reg y1.toNatClampNeg r30) false)
      else k_ThumbCoreModel_worked_302 c_h s31 s32 c_c c_v (upd c_reg y1.toNatClampNeg r30) true)
    else k_ThumbCoreModel_worked_302 c_h s31 s32 c_c c_v (upd c_reg y1.toNatClampNeg r30) c_c))
  else if ((o_ishr c_h 6) &&& 15) = 8 then (un3 (f_ThumbCoreModel_shown c_n c_z (y2 &&& y3)) (fun r33 s34 s35 =>
    (s34, s35, c_c, c_v, c_reg)))
  else if ((o_ishr c_h 6) &&& 15) = 9 then (un5 (f_ThumbCoreModel_sum c_n c_z c_c c_v (y3 ^^^ (-1)) 0 1) (fun r36 s37 s38 s39 s40 =>
    (s37, s38, s39, s40, (upd c_reg y1.toNatClampNeg r36))))
  else if ((o_ishr c_h 6) &&& 15) = 10 then (un5 (f_ThumbCoreModel_sum c_n c_z c_c c_v y2 (y3 ^^^ (-1)) 1) (fun r41 s42 s43 s44 s45 =>
    (s42, s43, s44, s45, c_reg)))
  else if ((o_ishr c_h 6) &&& 15) = 11 then (un5 (f_ThumbCoreModel_sum c_n c_z c_c c_v y2 y3 0) (fun r46 s47 s48 s49 s50 =>
    (s47, s48, s49, s50, c_reg)))
  else if ((o_ishr c_h 6) &&& 15) = 12 then (un3 (f_ThumbCoreModel_shown c_n c_z (y2 ||| y3)) (fun r51 s52 s53 =>
    (s52, s53, c_c, c_v, (upd c_reg y1.toNatClampNeg r51))))
  else if ((o_ishr c_h 6) &&& 15) = 13 then (un3 (f_ThumbCoreModel_shown c_n c_z (y2 * y3)) (fun r54 s55 s56 =>
    (s55, s56, c_c, c_v, (upd c_reg y1.toNatClampNeg r54))))
  else if ((o_ishr c_h 6) &&& 15) = 14 then (un3 (f_ThumbCoreModel_shown c_n c_z (y2 &&& (y3 ^^^ (-1)))) (fun r57 s58 s59 =>
    (s58, s59, c_c, c_v, (upd c_reg y1.toNatClampNeg r57))))
  else un3 (f_ThumbCoreModel_shown c_n c_z (y3 ^^^ (-1))) (fun r60 s61 s62 =>
  (s61, s62, c_c, c_v, (upd c_reg y1.toNatClampNeg r60))))
def f_ThumbCoreModel_worked (c_h : Int32) (c_n : Bool) (c_z : Bool) (c_c : Bool) (c_v : Bool) (c_reg : Nat → Int32) : Bool × Bool × Bool × Bool × (Nat → Int32) :=
  bd (f_ThumbCoreModel_field c_h 0 : Int32) (fun v1 =>
  bd ((c_reg v1.toNatClampNeg) : Int32) (fun v2 =>
  bd (f_ThumbCoreModel_field c_h 3 : Int32) (fun v3 =>
  bd ((c_reg v3.toNatClampNeg) : Int32) (fun v4 =>
  if (bI c_c) = 0 then (k_ThumbCoreModel_worked_36 c_h c_n c_z c_c c_v c_reg v1 v2 v4 false)
  else k_ThumbCoreModel_worked_36 c_h c_n c_z c_c c_v c_reg v1 v2 v4 true))))
def k_ThumbCoreModel_put_36 (c_after : Int32) (c_reg : Nat → Int32) (z1 : Int32) (z2 : Int32) : Int32 × (Nat → Int32) :=
  (c_after, (upd c_reg z1.toNatClampNeg z2))
def f_ThumbCoreModel_put (c_after : Int32) (c_reg : Nat → Int32) (x1 : Int32) (x2 : Int32) : Int32 × (Nat → Int32) :=
  if ¬ x1 = 15 then (if ¬ x1 = 13 then (k_ThumbCoreModel_put_36 c_after c_reg x1 x2)
    else k_ThumbCoreModel_put_36 c_after c_reg x1 (x2 &&& (-4)))
  else ((x2 &&& (-2)), c_reg)
def k_ThumbCoreModel_wide_266 (q_size : Int32) (c_h : Int32) (c_memory : Nat → Int32) (c_n : Bool) (c_z : Bool) (c_c : Bool) (c_v : Bool) (c_bad : Bool) (c_after : Int32) (c_current : Int32) (c_reg : Nat → Int32) (c_active : Nat → Bool) (z2 : Int32) : Bool × Bool × Bool × Bool × Bool × Int32 × Int32 × (Nat → Int32) × (Nat → Bool) :=
  (c_n, c_z, c_c, c_v, c_bad, c_after, c_current, (upd c_reg (14 : Int32).toNatClampNeg z2), c_active)
def k_ThumbCoreModel_wide_220 (q_size : Int32) (c_h : Int32) (c_memory : Nat → Int32) (c_n : Bool) (c_z : Bool) (c_c : Bool) (c_v : Bool) (c_bad : Bool) (c_after : Int32) (c_current : Int32) (c_reg : Nat → Int32) (c_active : Nat → Bool) (y4 : Int32) (z0 : Bool) : Bool × Bool × Bool × Bool × Bool × Int32 × Int32 × (Nat → Int32) × (Nat → Bool) :=
  bd ((c_after + 1) : Int32) (fun v1 =>
  if ¬ (bI c_bad) = 0 then ((c_n, c_z, c_c, c_v, c_bad, c_after, c_current, c_reg, c_active))
  else un9 (f_ThumbCoreModel_goTo q_size c_memory c_n c_z c_c c_v c_bad c_after c_current c_reg c_active y4) (fun s2 s3 s4 s5 s6 s7 s8 s9 s10 =>
  if (bI z0) = 0 then (k_ThumbCoreModel_wide_266 q_size c_h c_memory s2 s3 s4 s5 s6 s7 s8 s9 s10 (s9 (14 : Int32).toNatClampNeg))
  else k_ThumbCoreModel_wide_266 q_size c_h c_memory s2 s3 s4 s5 s6 s7 s8 s9 s10 v1))
def k_ThumbCoreModel_wide_219 (q_size : Int32) (c_h : Int32) (c_memory : Nat → Int32) (c_n : Bool) (c_z : Bool) (c_c : Bool) (c_v : Bool) (c_bad : Bool) (c_after : Int32) (c_current : Int32) (c_reg : Nat → Int32) (c_active : Nat → Bool) (y4 : Int32) : Bool × Bool × Bool × Bool × Bool × Int32 × Int32 × (Nat → Int32) × (Nat → Bool) :=
  k_ThumbCoreModel_wide_220 q_size c_h c_memory c_n c_z c_c c_v c_bad c_after c_current c_reg c_active y4 false
def k_ThumbCoreModel_wide_197 (q_size : Int32) (c_h : Int32) (c_memory : Nat → Int32) (c_n : Bool) (c_z : Bool) (c_c : Bool) (c_v : Bool) (c_bad : Bool) (c_after : Int32) (c_current : Int32) (c_reg : Nat → Int32) (c_active : Nat → Bool) (y1 : Int32) (y4 : Int32) (z1 : Bool) : Bool × Bool × Bool × Bool × Bool × Int32 × Int32 × (Nat → Int32) × (Nat → Bool) :=
  if y1 ≤ 7 then (k_ThumbCoreModel_wide_219 q_size c_h c_memory c_n c_z c_c c_v z1 c_after c_current c_reg c_active y4)
  else bd (f_ThumbCoreModel_returns c_active y4 : Bool) (fun v1 =>
  if ¬ (bI v1) = 0 then (k_ThumbCoreModel_wide_219 q_size c_h c_memory c_n c_z c_c c_v z1 c_after c_current c_reg c_active y4)
  else k_ThumbCoreModel_wide_220 q_size c_h c_memory c_n c_z c_c c_v z1 c_after c_current c_reg c_active y4 true)
def k_ThumbCoreModel_wide_192 (q_size : Int32) (c_h : Int32) (c_memory : Nat → Int32) (c_n : Bool) (c_z : Bool) (c_c : Bool) (c_v : Bool) (c_bad : Bool) (c_after : Int32) (c_current : Int32) (c_reg : Nat → Int32) (c_active : Nat → Bool) (y1 : Int32) (y4 : Int32) : Bool × Bool × Bool × Bool × Bool × Int32 × Int32 × (Nat → Int32) × (Nat → Bool) :=
  k_ThumbCoreModel_wide_197 q_size c_h c_memory c_n c_z c_c c_v c_bad c_after c_current c_reg c_active y1 y4 true
def k_ThumbCoreModel_wide_144 (q_size : Int32) (c_h : Int32) (c_memory : Nat → Int32) (c_n : Bool) (c_z : Bool) (c_c : Bool) (c_v : Bool) (c_bad : Bool) (c_after : Int32) (c_current : Int32) (c_reg : Nat → Int32) (c_active : Nat → Bool) (y3 : Int32) (y4 : Int32) (z1 : Bool) : Bool × Bool × Bool × Bool × Bool × Int32 × Int32 × (Nat → Int32) × (Nat → Bool) :=
  un5 (f_ThumbCoreModel_sum c_n c_z c_c c_v y3 (y4 ^^^ (-1)) 1) (fun r1 s2 s3 s4 s5 =>
  (s2, s3, s4, s5, z1, c_after, c_current, c_reg, c_active))
def k_ThumbCoreModel_wide_139 (q_size : Int32) (c_h : Int32) (c_memory : Nat → Int32) (c_n : Bool) (c_z : Bool) (c_c : Bool) (c_v : Bool) (c_bad : Bool) (c_after : Int32) (c_current : Int32) (c_reg : Nat → Int32) (c_active : Nat → Bool) (y3 : Int32) (y4 : Int32) : Bool × Bool × Bool × Bool × Bool × Int32 × Int32 × (Nat → Int32) × (Nat → Bool) :=
  k_ThumbCoreModel_wide_144 q_size c_h c_memory c_n c_z c_c c_v c_bad c_after c_current c_reg c_active y3 y4 true
def k_ThumbCoreModel_wide_127 (q_size : Int32) (c_h : Int32) (c_memory : Nat → Int32) (c_n : Bool) (c_z : Bool) (c_c : Bool) (c_v : Bool) (c_bad : Bool) (c_after : Int32) (c_current : Int32) (c_reg : Nat → Int32) (c_active : Nat → Bool) (y1 : Int32) (y2 : Int32) (y3 : Int32) (y4 : Int32) : Bool × Bool × Bool × Bool × Bool × Int32 × Int32 × (Nat → Int32) × (Nat → Bool) :=
  if y1 = 15 then (k_ThumbCoreModel_wide_139 q_size c_h c_memory c_n c_z c_c c_v c_bad c_after c_current c_reg c_active y3 y4)
  else if ¬ y2 = 15 then (k_ThumbCoreModel_wide_144 q_size c_h c_memory c_n c_z c_c c_v c_bad c_after c_current c_reg c_active y3 y4 false)
  else k_ThumbCoreModel_wide_139 q_size c_h c_memory c_n c_z c_c c_v c_bad c_after c_current c_reg c_active y3 y4
def k_ThumbCoreModel_wide_78 (q_size : Int32) (c_h : Int32) (c_memory : Nat → Int32) (c_n : Bool) (c_z : Bool) (c_c : Bool) (c_v : Bool) (c_bad : Bool) (c_after : Int32) (c_current : Int32) (c_reg : Nat → Int32) (c_active : Nat → Bool) (y1 : Int32) (y2 : Int32) (y3 : Int32) (z0 : Int32) : Bool × Bool × Bool × Bool × Bool × Int32 × Int32 × (Nat → Int32) × (Nat → Bool) :=
  bd (((o_ishr c_h 8) &&& 3) : Int32) (fun v1 =>
  if ¬ v1 = 0 then (if ¬ v1 = 1 then (if ¬ v1 = 2 then (bd (f_ThumbCoreModel_field c_h 0 : Int32) (fun v2 =>
        if ¬ v2 = 0 then (k_ThumbCoreModel_wide_192 q_size c_h c_memory c_n c_z c_c c_v c_bad c_after c_current c_reg c_active y1 z0)
        else if ¬ y2 = 15 then (k_ThumbCoreModel_wide_197 q_size c_h c_memory c_n c_z c_c c_v c_bad c_after c_current c_reg c_active y1 z0 false)
        else k_ThumbCoreModel_wide_192 q_size c_h c_memory c_n c_z c_c c_v c_bad c_after c_current c_reg c_active y1 z0))
      else un2 (f_ThumbCoreModel_put c_after c_reg y1 z0) (fun s3 s4 =>
      (c_n, c_z, c_c, c_v, c_bad, s3, c_current, s4, c_active)))
    else if 8 ≤ y1 then (k_ThumbCoreModel_wide_127 q_size c_h c_memory c_n c_z c_c c_v c_bad c_after c_current c_reg c_active y1 y2 y3 z0)
    else if y2 < 8 then (k_ThumbCoreModel_wide_139 q_size c_h c_memory c_n c_z c_c c_v c_bad c_after c_current c_reg c_active y3 z0)
    else k_ThumbCoreModel_wide_127 q_size c_h c_memory c_n c_z c_c c_v c_bad c_after c_current c_reg c_active y1 y2 y3 z0)
  else un2 (f_ThumbCoreModel_put c_after c_reg y1 (y3 + z0)) (fun s5 s6 =>
  (c_n, c_z, c_c, c_v, c_bad, s5, c_current, s6, c_active)))
def k_ThumbCoreModel_wide_53 (q_size : Int32) (c_h : Int32) (c_memory : Nat → Int32) (c_n : Bool) (c_z : Bool) (c_c : Bool) (c_v : Bool) (c_bad : Bool) (c_after : Int32) (c_current : Int32) (c_reg : Nat → Int32) (c_active : Nat → Bool) (y1 : Int32) (y2 : Int32) (z0 : Int32) : Bool × Bool × Bool × Bool × Bool × Int32 × Int32 × (Nat → Int32) × (Nat → Bool) :=
  if ¬ y2 = 15 then (k_ThumbCoreModel_wide_78 q_size c_h c_memory c_n c_z c_c c_v c_bad c_after c_current c_reg c_active y1 y2 z0 (c_reg y2.toNatClampNeg))
  else k_ThumbCoreModel_wide_78 q_size c_h c_memory c_n c_z c_c c_v c_bad c_after c_current c_reg c_active y1 y2 z0 ((c_reg (15 : Int32).toNatClampNeg) + 4)
def f_ThumbCoreModel_wide (q_size : Int32) (c_h : Int32) (c_memory : Nat → Int32) (c_n : Bool) (c_z : Bool) (c_c : Bool) (c_v : Bool) (c_bad : Bool) (c_after : Int32) (c_current : Int32) (c_reg : Nat → Int32) (c_active : Nat → Bool) : Bool × Bool × Bool × Bool × Bool × Int32 × Int32 × (Nat → Int32) × (Nat → Bool) :=
  bd (f_ThumbCoreModel_field c_h 0 : Int32) (fun v1 =>
  bd ((v1 + (8 * ((o_ishr c_h 7) &&& 1))) : Int32) (fun v2 =>
  bd (((o_ishr c_h 3) &&& 15) : Int32) (fun v3 =>
  if ¬ v2 = 15 then (k_ThumbCoreModel_wide_53 q_size c_h c_memory c_n c_z c_c c_v c_bad c_after c_current c_reg c_active v2 v3 (c_reg v2.toNatClampNeg))
  else k_ThumbCoreModel_wide_53 q_size c_h c_memory c_n c_z c_c c_v c_bad c_after c_current c_reg c_active v2 v3 ((c_reg (15 : Int32).toNatClampNeg) + 4))))
def f_ThumbCoreModel_moves (q_size : Int32) (c_bad : Bool) (c_memory : Nat → Int32) (c_reg : Nat → Int32) (x1 : Int32) (x2 : Int32) (x3 : Int32) : Bool × (Nat → Int32) × (Nat → Int32) :=
  if x1 = 0 then (un2 (f_ThumbCoreModel_write q_size c_bad c_memory x3 (c_reg x2.toNatClampNeg) 4) (fun s1 s2 =>
    (s1, s2, c_reg)))
  else if x1 = 1 then (un2 (f_ThumbCoreModel_write q_size c_bad c_memory x3 (c_reg x2.toNatClampNeg) 2) (fun s3 s4 =>
    (s3, s4, c_reg)))
  else if x1 = 2 then (un2 (f_ThumbCoreModel_write q_size c_bad c_memory x3 (c_reg x2.toNatClampNeg) 1) (fun s5 s6 =>
    (s5, s6, c_reg)))
  else if x1 = 3 then (un2 (f_ThumbCoreModel_read q_size c_memory c_bad x3 1) (fun r7 s8 =>
    (s8, c_memory, (upd c_reg x2.toNatClampNeg r7.toInt8.toInt32))))
  else if x1 = 4 then (un2 (f_ThumbCoreModel_read q_size c_memory c_bad x3 4) (fun r9 s10 =>
    (s10, c_memory, (upd c_reg x2.toNatClampNeg r9))))
  else if x1 = 5 then (un2 (f_ThumbCoreModel_read q_size c_memory c_bad x3 2) (fun r11 s12 =>
    (s12, c_memory, (upd c_reg x2.toNatClampNeg r11))))
  else if x1 = 6 then (un2 (f_ThumbCoreModel_read q_size c_memory c_bad x3 1) (fun r13 s14 =>
    (s14, c_memory, (upd c_reg x2.toNatClampNeg r13))))
  else un2 (f_ThumbCoreModel_read q_size c_memory c_bad x3 2) (fun r15 s16 =>
  (s16, c_memory, (upd c_reg x2.toNatClampNeg r15.toInt16.toInt32)))
def k_ThumbCoreModel_listed_4 : Nat → Int32 → Int32 → Int32 → Int32
  | 0, y1, y2, y3 => 0
  | n + 1, y1, y2, y3 =>
  if 9 ≤ y3 then (y2)
  else bd ((y2 + ((o_ishr y1 y3) &&& 1)) : Int32) (fun v1 =>
  k_ThumbCoreModel_listed_4 n y1 v1 (y3 + 1))
def f_ThumbCoreModel_listed (x1 : Int32) : Int32 :=
  k_ThumbCoreModel_listed_4 10 x1 0 0
def k_ThumbCoreModel_allThere_34 (q_size : Int32) (K_5 : Int32 → Int32 → Bool → Int32 → Bool) (y1 : Int32) (y2 : Int32) (y4 : Int32) (z0 : Bool) : Bool :=
  K_5 y1 y2 z0 (y4 + 1)
def k_ThumbCoreModel_allThere_33 (q_size : Int32) (K_5 : Int32 → Int32 → Bool → Int32 → Bool) (y1 : Int32) (y2 : Int32) (y4 : Int32) : Bool :=
  k_ThumbCoreModel_allThere_34 q_size K_5 y1 y2 y4 false
def k_ThumbCoreModel_allThere_5 (q_size : Int32) : Nat → Int32 → Int32 → Bool → Int32 → Bool
  | 0, y1, y2, y3, y4 => false
  | n + 1, y1, y2, y3, y4 =>
  if y2 ≤ y4 then (y3)
  else if (bI y3) = 0 then (k_ThumbCoreModel_allThere_33 q_size (k_ThumbCoreModel_allThere_5 q_size n) y1 y2 y4)
  else bd (f_ThumbCoreModel_there q_size (y1 + (4 * y4)) 4 : Bool) (fun v1 =>
  if (bI v1) = 0 then (k_ThumbCoreModel_allThere_33 q_size (k_ThumbCoreModel_allThere_5 q_size n) y1 y2 y4)
  else k_ThumbCoreModel_allThere_34 q_size (k_ThumbCoreModel_allThere_5 q_size n) y1 y2 y4 true)
def f_ThumbCoreModel_allThere (q_size : Int32) (x1 : Int32) (x2 : Int32) : Bool :=
  k_ThumbCoreModel_allThere_5 q_size ((Int32.toInt x2).toNat.succ) x1 x2 true 0
def k_ThumbCoreModel_push_119 (q_size : Int32) (c_h : Int32) (c_bad : Bool) (c_memory : Nat → Int32) (c_reg : Nat → Int32) (y3 : Int32) : Bool × (Nat → Int32) × (Nat → Int32) :=
  (c_bad, c_memory, (upd c_reg (13 : Int32).toNatClampNeg y3))
def k_ThumbCoreModel_push_113 (q_size : Int32) (c_h : Int32) (K_55 : Bool → (Nat → Int32) → (Nat → Int32) → Int32 → Int32 → Int32 → Int32 → Bool × (Nat → Int32) × (Nat → Int32)) (c_bad : Bool) (c_memory : Nat → Int32) (c_reg : Nat → Int32) (y1 : Int32) (y3 : Int32) (y4 : Int32) (y5 : Int32) : Bool × (Nat → Int32) × (Nat → Int32) :=
  K_55 c_bad c_memory c_reg y1 y3 y4 (y5 + 1)
def k_ThumbCoreModel_push_106 (q_size : Int32) (c_h : Int32) (K_55 : Bool → (Nat → Int32) → (Nat → Int32) → Int32 → Int32 → Int32 → Int32 → Bool × (Nat → Int32) × (Nat → Int32)) (c_bad : Bool) (c_memory : Nat → Int32) (c_reg : Nat → Int32) (y1 : Int32) (y3 : Int32) (y4 : Int32) (y5 : Int32) (z1 : Int32) (z2 : Int32) : Bool × (Nat → Int32) × (Nat → Int32) :=
  un2 (f_ThumbCoreModel_write q_size c_bad c_memory z1 z2 4) (fun s1 s2 =>
  k_ThumbCoreModel_push_113 q_size c_h K_55 s1 s2 c_reg y1 y3 (y4 + 4) y5)
def k_ThumbCoreModel_push_55 (q_size : Int32) (c_h : Int32) : Nat → Bool → (Nat → Int32) → (Nat → Int32) → Int32 → Int32 → Int32 → Int32 → Bool × (Nat → Int32) × (Nat → Int32)
  | 0, c_bad, c_memory, c_reg, y1, y3, y4, y5 => (c_bad, c_memory, c_reg)
  | n + 1, c_bad, c_memory, c_reg, y1, y3, y4, y5 =>
  if 9 ≤ y5 then (k_ThumbCoreModel_push_119 q_size c_h c_bad c_memory c_reg y3)
  else if ¬ (bI c_bad) = 0 then (k_ThumbCoreModel_push_119 q_size c_h c_bad c_memory c_reg y3)
  else if ¬ ((o_ishr y1 y5) &&& 1) = 1 then (k_ThumbCoreModel_push_113 q_size c_h (k_ThumbCoreModel_push_55 q_size c_h n) c_bad c_memory c_reg y1 y3 y4 y5)
  else if ¬ y5 = 8 then (k_ThumbCoreModel_push_106 q_size c_h (k_ThumbCoreModel_push_55 q_size c_h n) c_bad c_memory c_reg y1 y3 y4 y5 y4 (c_reg y5.toNatClampNeg))
  else k_ThumbCoreModel_push_106 q_size c_h (k_ThumbCoreModel_push_55 q_size c_h n) c_bad c_memory c_reg y1 y3 y4 y5 y4 (c_reg (14 : Int32).toNatClampNeg)
def k_ThumbCoreModel_push_46 (q_size : Int32) (c_h : Int32) (c_bad : Bool) (c_memory : Nat → Int32) (c_reg : Nat → Int32) (y1 : Int32) (y3 : Int32) (z1 : Bool) : Bool × (Nat → Int32) × (Nat → Int32) :=
  k_ThumbCoreModel_push_55 q_size c_h 10 z1 c_memory c_reg y1 y3 y3 0
def k_ThumbCoreModel_push_41 (q_size : Int32) (c_h : Int32) (c_bad : Bool) (c_memory : Nat → Int32) (c_reg : Nat → Int32) (y1 : Int32) (y3 : Int32) : Bool × (Nat → Int32) × (Nat → Int32) :=
  k_ThumbCoreModel_push_46 q_size c_h c_bad c_memory c_reg y1 y3 true
def f_ThumbCoreModel_push (q_size : Int32) (c_h : Int32) (c_bad : Bool) (c_memory : Nat → Int32) (c_reg : Nat → Int32) : Bool × (Nat → Int32) × (Nat → Int32) :=
  bd ((c_h &&& 511) : Int32) (fun v1 =>
  bd (f_ThumbCoreModel_listed v1 : Int32) (fun v2 =>
  bd (((c_reg (13 : Int32).toNatClampNeg) - (4 * v2)) : Int32) (fun v3 =>
  if v2 = 0 then (k_ThumbCoreModel_push_41 q_size c_h c_bad c_memory c_reg v1 v3)
  else bd (f_ThumbCoreModel_allThere q_size v3 v2 : Bool) (fun v4 =>
  if ¬ (bI v4) = 0 then (k_ThumbCoreModel_push_46 q_size c_h c_bad c_memory c_reg v1 v3 false)
  else k_ThumbCoreModel_push_41 q_size c_h c_bad c_memory c_reg v1 v3))))
def k_ThumbCoreModel_pop_135 (q_size : Int32) (c_h : Int32) (c_memory : Nat → Int32) (c_n : Bool) (c_z : Bool) (c_c : Bool) (c_v : Bool) (c_bad : Bool) (c_after : Int32) (c_current : Int32) (c_reg : Nat → Int32) (c_active : Nat → Bool) (y3 : Int32) : Bool × Bool × Bool × Bool × Bool × Int32 × Int32 × (Nat → Int32) × (Nat → Bool) :=
  (c_n, c_z, c_c, c_v, c_bad, c_after, c_current, (upd c_reg (13 : Int32).toNatClampNeg y3), c_active)
def k_ThumbCoreModel_pop_94 (q_size : Int32) (c_h : Int32) (c_memory : Nat → Int32) (c_n : Bool) (c_z : Bool) (c_c : Bool) (c_v : Bool) (c_bad : Bool) (c_after : Int32) (c_current : Int32) (c_reg : Nat → Int32) (c_active : Nat → Bool) (y1 : Int32) (y3 : Int32) : Bool × Bool × Bool × Bool × Bool × Int32 × Int32 × (Nat → Int32) × (Nat → Bool) :=
  if ¬ (bI c_bad) = 0 then (k_ThumbCoreModel_pop_135 q_size c_h c_memory c_n c_z c_c c_v c_bad c_after c_current c_reg c_active y3)
  else if y1 ≤ 255 then (k_ThumbCoreModel_pop_135 q_size c_h c_memory c_n c_z c_c c_v c_bad c_after c_current c_reg c_active y3)
  else un2 (f_ThumbCoreModel_read q_size c_memory c_bad y3 4) (fun r1 s2 =>
  un9 (f_ThumbCoreModel_goTo q_size c_memory c_n c_z c_c c_v s2 c_after c_current (upd c_reg (13 : Int32).toNatClampNeg (y3 + 4)) c_active r1) (fun s3 s4 s5 s6 s7 s8 s9 s10 s11 =>
  (s3, s4, s5, s6, s7, s8, s9, s10, s11)))
def k_ThumbCoreModel_pop_88 (q_size : Int32) (c_h : Int32) (c_memory : Nat → Int32) (K_48 : Bool → Bool → Bool → Bool → Bool → Int32 → Int32 → (Nat → Int32) → (Nat → Bool) → Int32 → Int32 → Int32 → Bool × Bool × Bool × Bool × Bool × Int32 × Int32 × (Nat → Int32) × (Nat → Bool)) (c_n : Bool) (c_z : Bool) (c_c : Bool) (c_v : Bool) (c_bad : Bool) (c_after : Int32) (c_current : Int32) (c_reg : Nat → Int32) (c_active : Nat → Bool) (y1 : Int32) (y3 : Int32) (y4 : Int32) : Bool × Bool × Bool × Bool × Bool × Int32 × Int32 × (Nat → Int32) × (Nat → Bool) :=
  K_48 c_n c_z c_c c_v c_bad c_after c_current c_reg c_active y1 y3 (y4 + 1)
def k_ThumbCoreModel_pop_48 (q_size : Int32) (c_h : Int32) (c_memory : Nat → Int32) : Nat → Bool → Bool → Bool → Bool → Bool → Int32 → Int32 → (Nat → Int32) → (Nat → Bool) → Int32 → Int32 → Int32 → Bool × Bool × Bool × Bool × Bool × Int32 × Int32 × (Nat → Int32) × (Nat → Bool)
  | 0, c_n, c_z, c_c, c_v, c_bad, c_after, c_current, c_reg, c_active, y1, y3, y4 => (c_n, c_z, c_c, c_v, c_bad, c_after, c_current, c_reg, c_active)
  | n + 1, c_n, c_z, c_c, c_v, c_bad, c_after, c_current, c_reg, c_active, y1, y3, y4 =>
  if 8 ≤ y4 then (k_ThumbCoreModel_pop_94 q_size c_h c_memory c_n c_z c_c c_v c_bad c_after c_current c_reg c_active y1 y3)
  else if ¬ (bI c_bad) = 0 then (k_ThumbCoreModel_pop_94 q_size c_h c_memory c_n c_z c_c c_v c_bad c_after c_current c_reg c_active y1 y3)
  else if ¬ ((o_ishr y1 y4) &&& 1) = 1 then (k_ThumbCoreModel_pop_88 q_size c_h c_memory (k_ThumbCoreModel_pop_48 q_size c_h c_memory n) c_n c_z c_c c_v c_bad c_after c_current c_reg c_active y1 y3 y4)
  else un2 (f_ThumbCoreModel_read q_size c_memory c_bad y3 4) (fun r1 s2 =>
  k_ThumbCoreModel_pop_88 q_size c_h c_memory (k_ThumbCoreModel_pop_48 q_size c_h c_memory n) c_n c_z c_c c_v s2 c_after c_current (upd c_reg y4.toNatClampNeg r1) c_active y1 (y3 + 4) y4)
def k_ThumbCoreModel_pop_42 (q_size : Int32) (c_h : Int32) (c_memory : Nat → Int32) (c_n : Bool) (c_z : Bool) (c_c : Bool) (c_v : Bool) (c_bad : Bool) (c_after : Int32) (c_current : Int32) (c_reg : Nat → Int32) (c_active : Nat → Bool) (y1 : Int32) (y3 : Int32) (z1 : Bool) : Bool × Bool × Bool × Bool × Bool × Int32 × Int32 × (Nat → Int32) × (Nat → Bool) :=
  k_ThumbCoreModel_pop_48 q_size c_h c_memory 9 c_n c_z c_c c_v z1 c_after c_current c_reg c_active y1 y3 0
def k_ThumbCoreModel_pop_37 (q_size : Int32) (c_h : Int32) (c_memory : Nat → Int32) (c_n : Bool) (c_z : Bool) (c_c : Bool) (c_v : Bool) (c_bad : Bool) (c_after : Int32) (c_current : Int32) (c_reg : Nat → Int32) (c_active : Nat → Bool) (y1 : Int32) (y3 : Int32) : Bool × Bool × Bool × Bool × Bool × Int32 × Int32 × (Nat → Int32) × (Nat → Bool) :=
  k_ThumbCoreModel_pop_42 q_size c_h c_memory c_n c_z c_c c_v c_bad c_after c_current c_reg c_active y1 y3 true
def f_ThumbCoreModel_pop (q_size : Int32) (c_h : Int32) (c_memory : Nat → Int32) (c_n : Bool) (c_z : Bool) (c_c : Bool) (c_v : Bool) (c_bad : Bool) (c_after : Int32) (c_current : Int32) (c_reg : Nat → Int32) (c_active : Nat → Bool) : Bool × Bool × Bool × Bool × Bool × Int32 × Int32 × (Nat → Int32) × (Nat → Bool) :=
  bd ((c_h &&& 511) : Int32) (fun v1 =>
  bd (f_ThumbCoreModel_listed v1 : Int32) (fun v2 =>
  bd ((c_reg (13 : Int32).toNatClampNeg) : Int32) (fun v3 =>
  if v2 = 0 then (k_ThumbCoreModel_pop_37 q_size c_h c_memory c_n c_z c_c c_v c_bad c_after c_current c_reg c_active v1 v3)
  else bd (f_ThumbCoreModel_allThere q_size v3 v2 : Bool) (fun v4 =>
  if ¬ (bI v4) = 0 then (k_ThumbCoreModel_pop_42 q_size c_h c_memory c_n c_z c_c c_v c_bad c_after c_current c_reg c_active v1 v3 false)
  else k_ThumbCoreModel_pop_37 q_size c_h c_memory c_n c_z c_c c_v c_bad c_after c_current c_reg c_active v1 v3))))
def k_ThumbCoreModel_several_203 (q_size : Int32) (c_h : Int32) (c_bad : Bool) (c_memory : Nat → Int32) (c_reg : Nat → Int32) (z1 : Int32) (z2 : Int32) : Bool × (Nat → Int32) × (Nat → Int32) :=
  (c_bad, c_memory, (upd c_reg z1.toNatClampNeg z2))
def k_ThumbCoreModel_several_201 (q_size : Int32) (c_h : Int32) (c_bad : Bool) (c_memory : Nat → Int32) (c_reg : Nat → Int32) (y8 : Int32) (z1 : Int32) : Bool × (Nat → Int32) × (Nat → Int32) :=
  k_ThumbCoreModel_several_203 q_size c_h c_bad c_memory c_reg z1 y8
def k_ThumbCoreModel_several_178 (q_size : Int32) (c_h : Int32) (c_bad : Bool) (c_memory : Nat → Int32) (c_reg : Nat → Int32) (y1 : Bool) (y3 : Int32) (y6 : Bool) (y8 : Int32) : Bool × (Nat → Int32) × (Nat → Int32) :=
  if (bI y1) = 0 then (k_ThumbCoreModel_several_201 q_size c_h c_bad c_memory c_reg y8 y3)
  else if (bI y6) = 0 then (k_ThumbCoreModel_several_201 q_size c_h c_bad c_memory c_reg y8 y3)
  else k_ThumbCoreModel_several_203 q_size c_h c_bad c_memory c_reg y3 (c_reg y3.toNatClampNeg)
def k_ThumbCoreModel_several_172 (q_size : Int32) (c_h : Int32) (K_110 : Bool → (Nat → Int32) → (Nat → Int32) → Bool → Int32 → Int32 → Bool → Int32 → Int32 → Bool × (Nat → Int32) × (Nat → Int32)) (c_bad : Bool) (c_memory : Nat → Int32) (c_reg : Nat → Int32) (y1 : Bool) (y2 : Int32) (y3 : Int32) (y6 : Bool) (y8 : Int32) (y9 : Int32) : Bool × (Nat → Int32) × (Nat → Int32) :=
  K_110 c_bad c_memory c_reg y1 y2 y3 y6 y8 (y9 + 1)
def k_ThumbCoreModel_several_169 (q_size : Int32) (c_h : Int32) (K_110 : Bool → (Nat → Int32) → (Nat → Int32) → Bool → Int32 → Int32 → Bool → Int32 → Int32 → Bool × (Nat → Int32) × (Nat → Int32)) (c_bad : Bool) (c_memory : Nat → Int32) (c_reg : Nat → Int32) (y1 : Bool) (y2 : Int32) (y3 : Int32) (y6 : Bool) (y8 : Int32) (y9 : Int32) : Bool × (Nat → Int32) × (Nat → Int32) :=
  k_ThumbCoreModel_several_172 q_size c_h K_110 c_bad c_memory c_reg y1 y2 y3 y6 (y8 + 4) y9
def k_ThumbCoreModel_several_110 (q_size : Int32) (c_h : Int32) : Nat → Bool → (Nat → Int32) → (Nat → Int32) → Bool → Int32 → Int32 → Bool → Int32 → Int32 → Bool × (Nat → Int32) × (Nat → Int32)
  | 0, c_bad, c_memory, c_reg, y1, y2, y3, y6, y8, y9 => (c_bad, c_memory, c_reg)
  | n + 1, c_bad, c_memory, c_reg, y1, y2, y3, y6, y8, y9 =>
  if 8 ≤ y9 then (k_ThumbCoreModel_several_178 q_size c_h c_bad c_memory c_reg y1 y3 y6 y8)
  else if ¬ (bI c_bad) = 0 then (k_ThumbCoreModel_several_178 q_size c_h c_bad c_memory c_reg y1 y3 y6 y8)
  else if ¬ ((o_ishr y2 y9) &&& 1) = 1 then (k_ThumbCoreModel_several_172 q_size c_h (k_ThumbCoreModel_several_110 q_size c_h n) c_bad c_memory c_reg y1 y2 y3 y6 y8 y9)
  else if (bI y1) = 0 then (un2 (f_ThumbCoreModel_write q_size c_bad c_memory y8 (c_reg y9.toNatClampNeg) 4) (fun s1 s2 =>
    k_ThumbCoreModel_several_169 q_size c_h (k_ThumbCoreModel_several_110 q_size c_h n) s1 s2 c_reg y1 y2 y3 y6 y8 y9))
  else un2 (f_ThumbCoreModel_read q_size c_memory c_bad y8 4) (fun r3 s4 =>
  k_ThumbCoreModel_several_169 q_size c_h (k_ThumbCoreModel_several_110 q_size c_h n) s4 c_memory (upd c_reg y9.toNatClampNeg r3) y1 y2 y3 y6 y8 y9)
def k_ThumbCoreModel_several_100 (q_size : Int32) (c_h : Int32) (c_bad : Bool) (c_memory : Nat → Int32) (c_reg : Nat → Int32) (y1 : Bool) (y2 : Int32) (y3 : Int32) (y5 : Int32) (y6 : Bool) (z1 : Bool) : Bool × (Nat → Int32) × (Nat → Int32) :=
  k_ThumbCoreModel_several_110 q_size c_h 9 z1 c_memory c_reg y1 y2 y3 y6 y5 0
def k_ThumbCoreModel_several_95 (q_size : Int32) (c_h : Int32) (c_bad : Bool) (c_memory : Nat → Int32) (c_reg : Nat → Int32) (y1 : Bool) (y2 : Int32) (y3 : Int32) (y5 : Int32) (y6 : Bool) : Bool × (Nat → Int32) × (Nat → Int32) :=
  k_ThumbCoreModel_several_100 q_size c_h c_bad c_memory c_reg y1 y2 y3 y5 y6 true
def k_ThumbCoreModel_several_84 (q_size : Int32) (c_h : Int32) (c_bad : Bool) (c_memory : Nat → Int32) (c_reg : Nat → Int32) (y1 : Bool) (y2 : Int32) (y3 : Int32) (y4 : Int32) (y5 : Int32) (y6 : Bool) : Bool × (Nat → Int32) × (Nat → Int32) :=
  bd (f_ThumbCoreModel_allThere q_size y5 y4 : Bool) (fun v1 =>
  if ¬ (bI v1) = 0 then (k_ThumbCoreModel_several_100 q_size c_h c_bad c_memory c_reg y1 y2 y3 y5 y6 false)
  else k_ThumbCoreModel_several_95 q_size c_h c_bad c_memory c_reg y1 y2 y3 y5 y6)
def k_ThumbCoreModel_several_62 (q_size : Int32) (c_h : Int32) (c_bad : Bool) (c_memory : Nat → Int32) (c_reg : Nat → Int32) (y1 : Bool) (y2 : Int32) (y3 : Int32) (y4 : Int32) (y5 : Int32) (y6 : Bool) (z0 : Bool) : Bool × (Nat → Int32) × (Nat → Int32) :=
  if y4 = 0 then (k_ThumbCoreModel_several_95 q_size c_h c_bad c_memory c_reg y1 y2 y3 y5 y6)
  else if ¬ (bI y1) = 0 then (k_ThumbCoreModel_several_84 q_size c_h c_bad c_memory c_reg y1 y2 y3 y4 y5 y6)
  else if (bI y6) = 0 then (k_ThumbCoreModel_several_84 q_size c_h c_bad c_memory c_reg y1 y2 y3 y4 y5 y6)
  else if (bI z0) = 0 then (k_ThumbCoreModel_several_95 q_size c_h c_bad c_memory c_reg y1 y2 y3 y5 y6)
  else k_ThumbCoreModel_several_84 q_size c_h c_bad c_memory c_reg y1 y2 y3 y4 y5 y6
def k_ThumbCoreModel_several_45 (q_size : Int32) (c_h : Int32) (c_bad : Bool) (c_memory : Nat → Int32) (c_reg : Nat → Int32) (y1 : Bool) (y2 : Int32) (y3 : Int32) (y4 : Int32) (y5 : Int32) (z0 : Bool) : Bool × (Nat → Int32) × (Nat → Int32) :=
  if ¬ (y2 &&& ((o_ishl 1 y3) - 1)) = 0 then (k_ThumbCoreModel_several_62 q_size c_h c_bad c_memory c_reg y1 y2 y3 y4 y5 z0 false)
  else k_ThumbCoreModel_several_62 q_size c_h c_bad c_memory c_reg y1 y2 y3 y4 y5 z0 true
def f_ThumbCoreModel_several (q_size : Int32) (c_h : Int32) (c_bad : Bool) (c_memory : Nat → Int32) (c_reg : Nat → Int32) (x1 : Bool) : Bool × (Nat → Int32) × (Nat → Int32) :=
  bd ((c_h &&& 255) : Int32) (fun v1 =>
  bd (f_ThumbCoreModel_field c_h 8 : Int32) (fun v2 =>
  bd (f_ThumbCoreModel_listed v1 : Int32) (fun v3 =>
  bd ((c_reg v2.toNatClampNeg) : Int32) (fun v4 =>
  if ¬ ((o_ishr v1 v2) &&& 1) = 1 then (k_ThumbCoreModel_several_45 q_size c_h c_bad c_memory c_reg x1 v1 v2 v3 v4 false)
  else k_ThumbCoreModel_several_45 q_size c_h c_bad c_memory c_reg x1 v1 v2 v3 v4 true))))
def f_ThumbCoreModel_turned (x1 : Int32) : Int32 :=
  ((((o_ishl x1 24) ||| (o_ishl (x1 &&& 65280) 8)) ||| ((o_iushr x1 8) &&& 65280)) ||| (o_iushr x1 24))
def k_ThumbCoreModel_kinds_415 (q_size : Int32) (c_h : Int32) (c_n : Bool) (c_z : Bool) (c_c : Bool) (c_v : Bool) (c_bad : Bool) (c_after : Int32) (c_mask : Bool) (c_asleep : Bool) (c_current : Int32) (c_memory : Nat → Int32) (c_reg : Nat → Int32) (c_active : Nat → Bool) (y1 : Int32) (y2 : Int32) (y3 : Int32) : Bool × Bool × Bool × Bool × Bool × Int32 × Bool × Bool × Int32 × (Nat → Int32) × (Nat → Int32) × (Nat → Bool) :=
  if ¬ (bI c_bad) = 0 then ((c_n, c_z, c_c, c_v, c_bad, c_after, c_mask, c_asleep, c_current, c_memory, c_reg, c_active))
  else if ¬ ((o_ishr c_h 8) &&& 15) = 10 then ((c_n, c_z, c_c, c_v, c_bad, c_after, c_mask, c_asleep, c_current, c_memory, c_reg, c_active))
  else if ¬ y3 = 3 then ((c_n, c_z, c_c, c_v, c_bad, c_after, c_mask, c_asleep, c_current, c_memory, c_reg, c_active))
  else (c_n, c_z, c_c, c_v, c_bad, c_after, c_mask, c_asleep, c_current, c_memory, (upd c_reg y1.toNatClampNeg (((o_ishl y2 8) ||| ((o_ishr y2 8) &&& 255)).toInt16.toInt32)), c_active)
def k_ThumbCoreModel_kinds_157 (q_size : Int32) (c_h : Int32) (c_n : Bool) (c_z : Bool) (c_c : Bool) (c_v : Bool) (c_bad : Bool) (c_after : Int32) (c_mask : Bool) (c_asleep : Bool) (c_current : Int32) (c_memory : Nat → Int32) (c_reg : Nat → Int32) (c_active : Nat → Bool) (y1 : Int32) (y2 : Int32) (y3 : Int32) (z2 : Int32) (z3 : Int32) : Bool × Bool × Bool × Bool × Bool × Int32 × Bool × Bool × Int32 × (Nat → Int32) × (Nat → Int32) × (Nat → Bool) :=
  k_ThumbCoreModel_kinds_415 q_size c_h c_n c_z c_c c_v c_bad c_after c_mask c_asleep c_current c_memory (upd c_reg (13 : Int32).toNatClampNeg (z2 + z3)) c_active y1 y2 y3
def k_ThumbCoreModel_kinds_203 (q_size : Int32) (c_h : Int32) (c_n : Bool) (c_z : Bool) (c_c : Bool) (c_v : Bool) (c_bad : Bool) (c_after : Int32) (c_mask : Bool) (c_asleep : Bool) (c_current : Int32) (c_memory : Nat → Int32) (c_reg : Nat → Int32) (c_active : Nat → Bool) (y1 : Int32) (y2 : Int32) (y3 : Int32) (z1 : Int32) (z2 : Int32) : Bool × Bool × Bool × Bool × Bool × Int32 × Bool × Bool × Int32 × (Nat → Int32) × (Nat → Int32) × (Nat → Bool) :=
  k_ThumbCoreModel_kinds_415 q_size c_h c_n c_z c_c c_v c_bad c_after c_mask c_asleep c_current c_memory (upd c_reg z1.toNatClampNeg z2) c_active y1 y2 y3
def k_ThumbCoreModel_kinds_270 (q_size : Int32) (c_h : Int32) (c_n : Bool) (c_z : Bool) (c_c : Bool) (c_v : Bool) (c_bad : Bool) (c_after : Int32) (c_mask : Bool) (c_asleep : Bool) (c_current : Int32) (c_memory : Nat → Int32) (c_reg : Nat → Int32) (c_active : Nat → Bool) (y1 : Int32) (y2 : Int32) (y3 : Int32) (z1 : Bool) : Bool × Bool × Bool × Bool × Bool × Int32 × Bool × Bool × Int32 × (Nat → Int32) × (Nat → Int32) × (Nat → Bool) :=
  k_ThumbCoreModel_kinds_415 q_size c_h c_n c_z c_c c_v c_bad c_after z1 c_asleep c_current c_memory c_reg c_active y1 y2 y3
def k_ThumbCoreModel_kinds_238 (q_size : Int32) (c_h : Int32) (c_n : Bool) (c_z : Bool) (c_c : Bool) (c_v : Bool) (c_bad : Bool) (c_after : Int32) (c_mask : Bool) (c_asleep : Bool) (c_current : Int32) (c_memory : Nat → Int32) (c_reg : Nat → Int32) (c_active : Nat → Bool) (y1 : Int32) (y2 : Int32) (y3 : Int32) (z1 : Bool) : Bool × Bool × Bool × Bool × Bool × Int32 × Bool × Bool × Int32 × (Nat → Int32) × (Nat → Int32) × (Nat → Bool) :=
  if (bI z1) = 0 then (if ¬ c_h = 46706 then (k_ThumbCoreModel_kinds_270 q_size c_h c_n c_z c_c c_v z1 c_after c_mask c_asleep c_current c_memory c_reg c_active y1 y2 y3 false)
    else k_ThumbCoreModel_kinds_270 q_size c_h c_n c_z c_c c_v z1 c_after c_mask c_asleep c_current c_memory c_reg c_active y1 y2 y3 true)
  else k_ThumbCoreModel_kinds_270 q_size c_h c_n c_z c_c c_v z1 c_after c_mask c_asleep c_current c_memory c_reg c_active y1 y2 y3 c_mask
def k_ThumbCoreModel_kinds_237 (q_size : Int32) (c_h : Int32) (c_n : Bool) (c_z : Bool) (c_c : Bool) (c_v : Bool) (c_bad : Bool) (c_after : Int32) (c_mask : Bool) (c_asleep : Bool) (c_current : Int32) (c_memory : Nat → Int32) (c_reg : Nat → Int32) (c_active : Nat → Bool) (y1 : Int32) (y2 : Int32) (y3 : Int32) : Bool × Bool × Bool × Bool × Bool × Int32 × Bool × Bool × Int32 × (Nat → Int32) × (Nat → Int32) × (Nat → Bool) :=
  k_ThumbCoreModel_kinds_238 q_size c_h c_n c_z c_c c_v c_bad c_after c_mask c_asleep c_current c_memory c_reg c_active y1 y2 y3 false
def k_ThumbCoreModel_kinds_350 (q_size : Int32) (c_h : Int32) (c_n : Bool) (c_z : Bool) (c_c : Bool) (c_v : Bool) (c_bad : Bool) (c_after : Int32) (c_mask : Bool) (c_asleep : Bool) (c_current : Int32) (c_memory : Nat → Int32) (c_reg : Nat → Int32) (c_active : Nat → Bool) (y1 : Int32) (y2 : Int32) (y3 : Int32) (z1 : Int32) (z2 : Int32) : Bool × Bool × Bool × Bool × Bool × Int32 × Bool × Bool × Int32 × (Nat → Int32) × (Nat → Int32) × (Nat → Bool) :=
  k_ThumbCoreModel_kinds_415 q_size c_h c_n c_z c_c c_v c_bad c_after c_mask c_asleep c_current c_memory (upd c_reg z1.toNatClampNeg z2) c_active y1 y2 y3
def k_ThumbCoreModel_kinds_287 (q_size : Int32) (c_h : Int32) (c_n : Bool) (c_z : Bool) (c_c : Bool) (c_v : Bool) (c_bad : Bool) (c_after : Int32) (c_mask : Bool) (c_asleep : Bool) (c_current : Int32) (c_memory : Nat → Int32) (c_reg : Nat → Int32) (c_active : Nat → Bool) (y1 : Int32) (y2 : Int32) (y3 : Int32) (z1 : Bool) : Bool × Bool × Bool × Bool × Bool × Int32 × Bool × Bool × Int32 × (Nat → Int32) × (Nat → Int32) × (Nat → Bool) :=
  bd (f_ThumbCoreModel_turned y2 : Int32) (fun v1 =>
  if (bI z1) = 0 then (if ¬ y3 = 0 then (if ¬ y3 = 1 then (k_ThumbCoreModel_kinds_350 q_size c_h c_n c_z c_c c_v z1 c_after c_mask c_asleep c_current c_memory c_reg c_active y1 y2 y3 y1 (o_ishr v1 16))
      else k_ThumbCoreModel_kinds_350 q_size c_h c_n c_z c_c c_v z1 c_after c_mask c_asleep c_current c_memory c_reg c_active y1 y2 y3 y1 ((o_ishl v1 16) ||| (o_iushr v1 16)))
    else k_ThumbCoreModel_kinds_350 q_size c_h c_n c_z c_c c_v z1 c_after c_mask c_asleep c_current c_memory c_reg c_active y1 y2 y3 y1 v1)
  else k_ThumbCoreModel_kinds_350 q_size c_h c_n c_z c_c c_v z1 c_after c_mask c_asleep c_current c_memory c_reg c_active y1 y2 y3 y1 (c_reg y1.toNatClampNeg))
def k_ThumbCoreModel_kinds_404 (q_size : Int32) (c_h : Int32) (c_n : Bool) (c_z : Bool) (c_c : Bool) (c_v : Bool) (c_bad : Bool) (c_after : Int32) (c_mask : Bool) (c_asleep : Bool) (c_current : Int32) (c_memory : Nat → Int32) (c_reg : Nat → Int32) (c_active : Nat → Bool) (y1 : Int32) (y2 : Int32) (y3 : Int32) (z1 : Bool) : Bool × Bool × Bool × Bool × Bool × Int32 × Bool × Bool × Int32 × (Nat → Int32) × (Nat → Int32) × (Nat → Bool) :=
  k_ThumbCoreModel_kinds_415 q_size c_h c_n c_z c_c c_v c_bad c_after c_mask z1 c_current c_memory c_reg c_active y1 y2 y3
def k_ThumbCoreModel_kinds_386 (q_size : Int32) (c_h : Int32) (c_n : Bool) (c_z : Bool) (c_c : Bool) (c_v : Bool) (c_bad : Bool) (c_after : Int32) (c_mask : Bool) (c_asleep : Bool) (c_current : Int32) (c_memory : Nat → Int32) (c_reg : Nat → Int32) (c_active : Nat → Bool) (y1 : Int32) (y2 : Int32) (y3 : Int32) (z1 : Bool) : Bool × Bool × Bool × Bool × Bool × Int32 × Bool × Bool × Int32 × (Nat → Int32) × (Nat → Int32) × (Nat → Bool) :=
  if ¬ c_h = 48944 then (k_ThumbCoreModel_kinds_404 q_size c_h c_n c_z c_c c_v z1 c_after c_mask c_asleep c_current c_memory c_reg c_active y1 y2 y3 false)
  else k_ThumbCoreModel_kinds_404 q_size c_h c_n c_z c_c c_v z1 c_after c_mask c_asleep c_current c_memory c_reg c_active y1 y2 y3 true
def k_ThumbCoreModel_kinds_385 (q_size : Int32) (c_h : Int32) (c_n : Bool) (c_z : Bool) (c_c : Bool) (c_v : Bool) (c_bad : Bool) (c_after : Int32) (c_mask : Bool) (c_asleep : Bool) (c_current : Int32) (c_memory : Nat → Int32) (c_reg : Nat → Int32) (c_active : Nat → Bool) (y1 : Int32) (y2 : Int32) (y3 : Int32) : Bool × Bool × Bool × Bool × Bool × Int32 × Bool × Bool × Int32 × (Nat → Int32) × (Nat → Int32) × (Nat → Bool) :=
  k_ThumbCoreModel_kinds_386 q_size c_h c_n c_z c_c c_v c_bad c_after c_mask c_asleep c_current c_memory c_reg c_active y1 y2 y3 false
def f_ThumbCoreModel_kinds (q_size : Int32) (c_h : Int32) (c_n : Bool) (c_z : Bool) (c_c : Bool) (c_v : Bool) (c_bad : Bool) (c_after : Int32) (c_mask : Bool) (c_asleep : Bool) (c_current : Int32) (c_memory : Nat → Int32) (c_reg : Nat → Int32) (c_active : Nat → Bool) : Bool × Bool × Bool × Bool × Bool × Int32 × Bool × Bool × Int32 × (Nat → Int32) × (Nat → Int32) × (Nat → Bool) :=
  bd (f_ThumbCoreModel_field c_h 0 : Int32) (fun v1 =>
  bd (f_ThumbCoreModel_field c_h 3 : Int32) (fun v2 =>
  bd ((c_reg v2.toNatClampNeg) : Int32) (fun v3 =>
  bd (((o_ishr c_h 6) &&& 3) : Int32) (fun v4 =>
  if ((o_ishr c_h 8) &&& 15) = 0 then (if ¬ (c_h &&& 128) = 0 then (k_ThumbCoreModel_kinds_157 q_size c_h c_n c_z c_c c_v c_bad c_after c_mask c_asleep c_current c_memory c_reg c_active v1 v3 v4 (c_reg (13 : Int32).toNatClampNeg) ((-4) * (c_h &&& 127)))
    else k_ThumbCoreModel_kinds_157 q_size c_h c_n c_z c_c c_v c_bad c_after c_mask c_asleep c_current c_memory c_reg c_active v1 v3 v4 (c_reg (13 : Int32).toNatClampNeg) (4 * (c_h &&& 127)))
  else if ((o_ishr c_h 8) &&& 15) = 2 then (if ¬ v4 = 0 then (if ¬ v4 = 1 then (if ¬ v4 = 2 then (k_ThumbCoreModel_kinds_203 q_size c_h c_n c_z c_c c_v c_bad c_after c_mask c_asleep c_current c_memory c_reg c_active v1 v3 v4 v1 (v3 &&& 255))
        else k_ThumbCoreModel_kinds_203 q_size c_h c_n c_z c_c c_v c_bad c_after c_mask c_asleep c_current c_memory c_reg c_active v1 v3 v4 v1 (v3 &&& 65535))
      else k_ThumbCoreModel_kinds_203 q_size c_h c_n c_z c_c c_v c_bad c_after c_mask c_asleep c_current c_memory c_reg c_active v1 v3 v4 v1 v3.toInt8.toInt32)
    else k_ThumbCoreModel_kinds_203 q_size c_h c_n c_z c_c c_v c_bad c_after c_mask c_asleep c_current c_memory c_reg c_active v1 v3 v4 v1 v3.toInt16.toInt32)
  else if ((o_ishr c_h 8) &&& 15) = 4 then (un3 (f_ThumbCoreModel_push q_size c_h c_bad c_memory c_reg) (fun s5 s6 s7 =>
    k_ThumbCoreModel_kinds_415 q_size c_h c_n c_z c_c c_v s5 c_after c_mask c_asleep c_current s6 s7 c_active v1 v3 v4))
  else if ((o_ishr c_h 8) &&& 15) = 5 then (un3 (f_ThumbCoreModel_push q_size c_h c_bad c_memory c_reg) (fun s8 s9 s10 =>
    k_ThumbCoreModel_kinds_415 q_size c_h c_n c_z c_c c_v s8 c_after c_mask c_asleep c_current s9 s10 c_active v1 v3 v4))
  else if ((o_ishr c_h 8) &&& 15) = 6 then (if c_h = 46690 then (k_ThumbCoreModel_kinds_237 q_size c_h c_n c_z c_c c_v c_bad c_after c_mask c_asleep c_current c_memory c_reg c_active v1 v3 v4)
    else if c_h = 46706 then (k_ThumbCoreModel_kinds_237 q_size c_h c_n c_z c_c c_v c_bad c_after c_mask c_asleep c_current c_memory c_reg c_active v1 v3 v4)
    else k_ThumbCoreModel_kinds_238 q_size c_h c_n c_z c_c c_v c_bad c_after c_mask c_asleep c_current c_memory c_reg c_active v1 v3 v4 true)
  else if ((o_ishr c_h 8) &&& 15) = 10 then (if ¬ v4 = 2 then (k_ThumbCoreModel_kinds_287 q_size c_h c_n c_z c_c c_v c_bad c_after c_mask c_asleep c_current c_memory c_reg c_active v1 v3 v4 false)
    else k_ThumbCoreModel_kinds_287 q_size c_h c_n c_z c_c c_v c_bad c_after c_mask c_asleep c_current c_memory c_reg c_active v1 v3 v4 true)
  else if ((o_ishr c_h 8) &&& 15) = 12 then (un9 (f_ThumbCoreModel_pop q_size c_h c_memory c_n c_z c_c c_v c_bad c_after c_current c_reg c_active) (fun s11 s12 s13 s14 s15 s16 s17 s18 s19 =>
    k_ThumbCoreModel_kinds_415 q_size c_h s11 s12 s13 s14 s15 s16 c_mask c_asleep s17 c_memory s18 s19 v1 v3 v4))
  else if ((o_ishr c_h 8) &&& 15) = 13 then (un9 (f_ThumbCoreModel_pop q_size c_h c_memory c_n c_z c_c c_v c_bad c_after c_current c_reg c_active) (fun s20 s21 s22 s23 s24 s25 s26 s27 s28 =>
    k_ThumbCoreModel_kinds_415 q_size c_h s20 s21 s22 s23 s24 s25 c_mask c_asleep s26 c_memory s27 s28 v1 v3 v4))
  else if ((o_ishr c_h 8) &&& 15) = 15 then (if c_h = 48944 then (k_ThumbCoreModel_kinds_385 q_size c_h c_n c_z c_c c_v c_bad c_after c_mask c_asleep c_current c_memory c_reg c_active v1 v3 v4)
    else if (o_irem c_h 16) = 0 then (k_ThumbCoreModel_kinds_385 q_size c_h c_n c_z c_c c_v c_bad c_after c_mask c_asleep c_current c_memory c_reg c_active v1 v3 v4)
    else k_ThumbCoreModel_kinds_386 q_size c_h c_n c_z c_c c_v c_bad c_after c_mask c_asleep c_current c_memory c_reg c_active v1 v3 v4 true)
  else k_ThumbCoreModel_kinds_415 q_size c_h c_n c_z c_c c_v true c_after c_mask c_asleep c_current c_memory c_reg c_active v1 v3 v4))))
def k_ThumbCoreModel_meets_139 (c_n : Bool) (c_z : Bool) (c_c : Bool) (c_v : Bool) (z0 : Bool) (z1 : Bool) : Bool :=
  if ¬ (bI z0) = (bI z1) then (false)
  else true
def k_ThumbCoreModel_meets_126 (c_n : Bool) (c_z : Bool) (c_c : Bool) (c_v : Bool) (y1 : Int32) (z0 : Bool) : Bool :=
  if ¬ (o_irem y1 2) = 0 then (k_ThumbCoreModel_meets_139 c_n c_z c_c c_v z0 false)
  else k_ThumbCoreModel_meets_139 c_n c_z c_c c_v z0 true
def k_ThumbCoreModel_meets_125 (c_n : Bool) (c_z : Bool) (c_c : Bool) (c_v : Bool) (y1 : Int32) : Bool :=
  k_ThumbCoreModel_meets_126 c_n c_z c_c c_v y1 false
def k_ThumbCoreModel_meets_74 (c_n : Bool) (c_z : Bool) (c_c : Bool) (c_v : Bool) (y1 : Int32) : Bool :=
  k_ThumbCoreModel_meets_126 c_n c_z c_c c_v y1 false
def f_ThumbCoreModel_meets (c_n : Bool) (c_z : Bool) (c_c : Bool) (c_v : Bool) (x1 : Int32) : Bool :=
  if 2 ≤ x1 then (if 4 ≤ x1 then (if 6 ≤ x1 then (if 8 ≤ x1 then (if 10 ≤ x1 then (if 12 ≤ x1 then (if ¬ (bI c_z) = 0 then (k_ThumbCoreModel_meets_125 c_n c_z c_c c_v x1)
              else if ¬ (bI c_n) = (bI c_v) then (k_ThumbCoreModel_meets_125 c_n c_z c_c c_v x1)
              else k_ThumbCoreModel_meets_126 c_n c_z c_c c_v x1 true)
            else if ¬ (bI c_n) = (bI c_v) then (k_ThumbCoreModel_meets_126 c_n c_z c_c c_v x1 false)
            else k_ThumbCoreModel_meets_126 c_n c_z c_c c_v x1 true)
          else if (bI c_c) = 0 then (k_ThumbCoreModel_meets_74 c_n c_z c_c c_v x1)
          else if ¬ (bI c_z) = 0 then (k_ThumbCoreModel_meets_74 c_n c_z c_c c_v x1)
          else k_ThumbCoreModel_meets_126 c_n c_z c_c c_v x1 true)
        else k_ThumbCoreModel_meets_126 c_n c_z c_c c_v x1 c_v)
      else k_ThumbCoreModel_meets_126 c_n c_z c_c c_v x1 c_n)
    else k_ThumbCoreModel_meets_126 c_n c_z c_c c_v x1 c_c)
  else k_ThumbCoreModel_meets_126 c_n c_z c_c c_v x1 c_z
def k_ThumbCoreModel_branch_83 (q_size : Int32) (c_n : Bool) (c_z : Bool) (c_c : Bool) (c_v : Bool) (c_h : Int32) (c_mask : Bool) (c_priorities : Nat → Int32) (c_bad : Bool) (c_after : Int32) (c_entered : Bool) (c_lockup : Bool) (c_current : Int32) (c_memory : Nat → Int32) (c_reg : Nat → Int32) (c_pending : Nat → Bool) (c_active : Nat → Bool) (z1 : Bool) : Bool × Int32 × Bool × Bool × Int32 × (Nat → Int32) × (Nat → Int32) × (Nat → Bool) × (Nat → Bool) :=
  if ¬ (bI z1) = 0 then ((z1, c_after, c_entered, c_lockup, c_current, c_memory, c_reg, c_pending, c_active))
  else un7 (f_ThumbCoreModel_enter q_size c_n c_z c_c c_v z1 c_lockup c_current c_memory c_reg c_pending c_active 11 c_after) (fun s1 s2 s3 s4 s5 s6 s7 =>
  (s1, c_after, true, s2, s3, s4, s5, s6, s7))
def k_ThumbCoreModel_branch_78 (q_size : Int32) (c_n : Bool) (c_z : Bool) (c_c : Bool) (c_v : Bool) (c_h : Int32) (c_mask : Bool) (c_priorities : Nat → Int32) (c_bad : Bool) (c_after : Int32) (c_entered : Bool) (c_lockup : Bool) (c_current : Int32) (c_memory : Nat → Int32) (c_reg : Nat → Int32) (c_pending : Nat → Bool) (c_active : Nat → Bool) : Bool × Int32 × Bool × Bool × Int32 × (Nat → Int32) × (Nat → Int32) × (Nat → Bool) × (Nat → Bool) :=
  k_ThumbCoreModel_branch_83 q_size c_n c_z c_c c_v c_h c_mask c_priorities c_bad c_after c_entered c_lockup c_current c_memory c_reg c_pending c_active true
def k_ThumbCoreModel_branch_50 (q_size : Int32) (c_n : Bool) (c_z : Bool) (c_c : Bool) (c_v : Bool) (c_h : Int32) (c_mask : Bool) (c_priorities : Nat → Int32) (c_bad : Bool) (c_after : Int32) (c_entered : Bool) (c_lockup : Bool) (c_current : Int32) (c_memory : Nat → Int32) (c_reg : Nat → Int32) (c_pending : Nat → Bool) (c_active : Nat → Bool) (z1 : Int32) : Bool × Int32 × Bool × Bool × Int32 × (Nat → Int32) × (Nat → Int32) × (Nat → Bool) × (Nat → Bool) :=
  (c_bad, z1, c_entered, c_lockup, c_current, c_memory, c_reg, c_pending, c_active)
def f_ThumbCoreModel_branch (q_size : Int32) (c_n : Bool) (c_z : Bool) (c_c : Bool) (c_v : Bool) (c_h : Int32) (c_mask : Bool) (c_priorities : Nat → Int32) (c_bad : Bool) (c_after : Int32) (c_entered : Bool) (c_lockup : Bool) (c_current : Int32) (c_memory : Nat → Int32) (c_reg : Nat → Int32) (c_pending : Nat → Bool) (c_active : Nat → Bool) : Bool × Int32 × Bool × Bool × Int32 × (Nat → Int32) × (Nat → Int32) × (Nat → Bool) × (Nat → Bool) :=
  bd (((o_ishr c_h 8) &&& 15) : Int32) (fun v1 =>
  if 14 ≤ v1 then (if v1 = 14 then (k_ThumbCoreModel_branch_78 q_size c_n c_z c_c c_v c_h c_mask c_priorities c_bad c_after c_entered c_lockup c_current c_memory c_reg c_pending c_active)
    else bd (f_ThumbCoreModel_present c_mask c_active c_priorities true : Int32) (fun v2 =>
    if (c_priorities (11 : Int32).toNatClampNeg) < v2 then (k_ThumbCoreModel_branch_83 q_size c_n c_z c_c c_v c_h c_mask c_priorities c_bad c_after c_entered c_lockup c_current c_memory c_reg c_pending c_active false)
    else k_ThumbCoreModel_branch_78 q_size c_n c_z c_c c_v c_h c_mask c_priorities c_bad c_after c_entered c_lockup c_current c_memory c_reg c_pending c_active))
  else bd (f_ThumbCoreModel_meets c_n c_z c_c c_v v1 : Bool) (fun v3 =>
  if (bI v3) = 0 then (k_ThumbCoreModel_branch_50 q_size c_n c_z c_c c_v c_h c_mask c_priorities c_bad c_after c_entered c_lockup c_current c_memory c_reg c_pending c_active c_after)
  else k_ThumbCoreModel_branch_50 q_size c_n c_z c_c c_v c_h c_mask c_priorities c_bad c_after c_entered c_lockup c_current c_memory c_reg c_pending c_active (((c_reg (15 : Int32).toNatClampNeg) + 4) + (2 * c_h.toInt8.toInt32))))
def k_ThumbCoreModel_far_87 (q_size : Int32) (c_h : Int32) (c_memory : Nat → Int32) (c_bad : Bool) (c_after : Int32) (c_reg : Nat → Int32) (y1 : Int32) (y2 : Int32) (y3 : Bool) (z0 : Bool) : Bool × Int32 × (Nat → Int32) :=
  bd ((((((o_ishl y2 24) ||| (o_ishl (bI y3) 23)) ||| (o_ishl (bI z0) 22)) ||| (o_ishl (c_h &&& 1023) 12)) ||| (o_ishl (y1 &&& 2047) 1)) : Int32) (fun v1 =>
  bd ((o_ishr (o_ishl v1 7) 7) : Int32) (fun v2 =>
  if ¬ (bI c_bad) = 0 then ((c_bad, c_after, c_reg))
  else bd (((((upd c_reg (14 : Int32).toNatClampNeg ((c_reg (15 : Int32).toNatClampNeg) + 5)) (15 : Int32).toNatClampNeg) + 4) + v2) : Int32) (fun v3 =>
  (c_bad, v3, (upd c_reg (14 : Int32).toNatClampNeg ((c_reg (15 : Int32).toNatClampNeg) + 5))))))
def k_ThumbCoreModel_far_71 (q_size : Int32) (c_h : Int32) (c_memory : Nat → Int32) (c_bad : Bool) (c_after : Int32) (c_reg : Nat → Int32) (y1 : Int32) (y2 : Int32) (z0 : Bool) : Bool × Int32 × (Nat → Int32) :=
  if ¬ ((o_ishr y1 11) &&& 1) = y2 then (k_ThumbCoreModel_far_87 q_size c_h c_memory c_bad c_after c_reg y1 y2 z0 false)
  else k_ThumbCoreModel_far_87 q_size c_h c_memory c_bad c_after c_reg y1 y2 z0 true
def k_ThumbCoreModel_far_43 (q_size : Int32) (c_h : Int32) (c_memory : Nat → Int32) (c_bad : Bool) (c_after : Int32) (c_reg : Nat → Int32) (y1 : Int32) (z1 : Bool) : Bool × Int32 × (Nat → Int32) :=
  bd (((o_ishr c_h 10) &&& 1) : Int32) (fun v1 =>
  if ¬ ((o_ishr y1 13) &&& 1) = v1 then (k_ThumbCoreModel_far_71 q_size c_h c_memory z1 c_after c_reg y1 v1 false)
  else k_ThumbCoreModel_far_71 q_size c_h c_memory z1 c_after c_reg y1 v1 true)
def k_ThumbCoreModel_far_38 (q_size : Int32) (c_h : Int32) (c_memory : Nat → Int32) (c_bad : Bool) (c_after : Int32) (c_reg : Nat → Int32) (y1 : Int32) : Bool × Int32 × (Nat → Int32) :=
  k_ThumbCoreModel_far_43 q_size c_h c_memory c_bad c_after c_reg y1 true
def f_ThumbCoreModel_far (q_size : Int32) (c_h : Int32) (c_memory : Nat → Int32) (c_bad : Bool) (c_after : Int32) (c_reg : Nat → Int32) : Bool × Int32 × (Nat → Int32) :=
  un2 (f_ThumbCoreModel_read q_size c_memory c_bad ((c_reg (15 : Int32).toNatClampNeg) + 2) 2) (fun r1 s2 =>
  if ¬ (bI s2) = 0 then (k_ThumbCoreModel_far_38 q_size c_h c_memory s2 c_after c_reg r1)
  else if r1 < 49152 then (k_ThumbCoreModel_far_38 q_size c_h c_memory s2 c_after c_reg r1)
  else if ¬ ((o_ishr r1 12) &&& 1) = 0 then (k_ThumbCoreModel_far_43 q_size c_h c_memory s2 c_after c_reg r1 false)
  else k_ThumbCoreModel_far_38 q_size c_h c_memory s2 c_after c_reg r1)
def k_ThumbCoreModel_perform_437 (q_size : Int32) (c_h : Int32) (c_priorities : Nat → Int32) (c_n : Bool) (c_z : Bool) (c_c : Bool) (c_v : Bool) (c_bad : Bool) (c_after : Int32) (c_entered : Bool) (c_mask : Bool) (c_asleep : Bool) (c_lockup : Bool) (c_current : Int32) (c_memory : Nat → Int32) (c_reg : Nat → Int32) (c_pending : Nat → Bool) (c_active : Nat → Bool) (z1 : Bool) : Bool × Bool × Bool × Bool × Bool × Int32 × Bool × Bool × Bool × Bool × Int32 × (Nat → Int32) × (Nat → Int32) × (Nat → Bool) × (Nat → Bool) :=
  un3 (f_ThumbCoreModel_several q_size c_h c_bad c_memory c_reg z1) (fun s1 s2 s3 =>
  (c_n, c_z, c_c, c_v, s1, c_after, c_entered, c_mask, c_asleep, c_lockup, c_current, s2, s3, c_pending, c_active))
def k_ThumbCoreModel_perform_399 (q_size : Int32) (c_h : Int32) (c_priorities : Nat → Int32) (c_n : Bool) (c_z : Bool) (c_c : Bool) (c_v : Bool) (c_bad : Bool) (c_after : Int32) (c_entered : Bool) (c_mask : Bool) (c_asleep : Bool) (c_lockup : Bool) (c_current : Int32) (c_memory : Nat → Int32) (c_reg : Nat → Int32) (c_pending : Nat → Bool) (c_active : Nat → Bool) (y5 : Int32) (z1 : Int32) (z2 : Int32) : Bool × Bool × Bool × Bool × Bool × Int32 × Bool × Bool × Bool × Bool × Int32 × (Nat → Int32) × (Nat → Int32) × (Nat → Bool) × (Nat → Bool) :=
  (c_n, c_z, c_c, c_v, c_bad, c_after, c_entered, c_mask, c_asleep, c_lockup, c_current, c_memory, (upd c_reg z1.toNatClampNeg (z2 + y5)), c_pending, c_active)
def k_ThumbCoreModel_perform_341 (q_size : Int32) (c_h : Int32) (c_priorities : Nat → Int32) (c_n : Bool) (c_z : Bool) (c_c : Bool) (c_v : Bool) (c_bad : Bool) (c_after : Int32) (c_entered : Bool) (c_mask : Bool) (c_asleep : Bool) (c_lockup : Bool) (c_current : Int32) (c_memory : Nat → Int32) (c_reg : Nat → Int32) (c_pending : Nat → Bool) (c_active : Nat → Bool) (y5 : Int32) (z1 : Int32) : Bool × Bool × Bool × Bool × Bool × Int32 × Bool × Bool × Bool × Bool × Int32 × (Nat → Int32) × (Nat → Int32) × (Nat → Bool) × (Nat → Bool) :=
  bd (f_ThumbCoreModel_field c_h 8 : Int32) (fun v1 =>
  un3 (f_ThumbCoreModel_moves q_size c_bad c_memory c_reg z1 v1 ((c_reg (13 : Int32).toNatClampNeg) + y5)) (fun s2 s3 s4 =>
  (c_n, c_z, c_c, c_v, s2, c_after, c_entered, c_mask, c_asleep, c_lockup, c_current, s3, s4, c_pending, c_active)))
def k_ThumbCoreModel_perform_306 (q_size : Int32) (c_h : Int32) (c_priorities : Nat → Int32) (c_n : Bool) (c_z : Bool) (c_c : Bool) (c_v : Bool) (c_bad : Bool) (c_after : Int32) (c_entered : Bool) (c_mask : Bool) (c_asleep : Bool) (c_lockup : Bool) (c_current : Int32) (c_memory : Nat → Int32) (c_reg : Nat → Int32) (c_pending : Nat → Bool) (c_active : Nat → Bool) (y2 : Int32) (y4 : Int32) (z1 : Int32) : Bool × Bool × Bool × Bool × Bool × Int32 × Bool × Bool × Bool × Bool × Int32 × (Nat → Int32) × (Nat → Int32) × (Nat → Bool) × (Nat → Bool) :=
  bd (f_ThumbCoreModel_field c_h 0 : Int32) (fun v1 =>
  un3 (f_ThumbCoreModel_moves q_size c_bad c_memory c_reg z1 v1 (y4 + (2 * y2))) (fun s2 s3 s4 =>
  (c_n, c_z, c_c, c_v, s2, c_after, c_entered, c_mask, c_asleep, c_lockup, c_current, s3, s4, c_pending, c_active)))
def k_ThumbCoreModel_perform_273 (q_size : Int32) (c_h : Int32) (c_priorities : Nat → Int32) (c_n : Bool) (c_z : Bool) (c_c : Bool) (c_v : Bool) (c_bad : Bool) (c_after : Int32) (c_entered : Bool) (c_mask : Bool) (c_asleep : Bool) (c_lockup : Bool) (c_current : Int32) (c_memory : Nat → Int32) (c_reg : Nat → Int32) (c_pending : Nat → Bool) (c_active : Nat → Bool) (y2 : Int32) (y4 : Int32) (z1 : Int32) : Bool × Bool × Bool × Bool × Bool × Int32 × Bool × Bool × Bool × Bool × Int32 × (Nat → Int32) × (Nat → Int32) × (Nat → Bool) × (Nat → Bool) :=
  bd (f_ThumbCoreModel_field c_h 0 : Int32) (fun v1 =>
  un3 (f_ThumbCoreModel_moves q_size c_bad c_memory c_reg z1 v1 (y4 + y2)) (fun s2 s3 s4 =>
  (c_n, c_z, c_c, c_v, s2, c_after, c_entered, c_mask, c_asleep, c_lockup, c_current, s3, s4, c_pending, c_active)))
def k_ThumbCoreModel_perform_237 (q_size : Int32) (c_h : Int32) (c_priorities : Nat → Int32) (c_n : Bool) (c_z : Bool) (c_c : Bool) (c_v : Bool) (c_bad : Bool) (c_after : Int32) (c_entered : Bool) (c_mask : Bool) (c_asleep : Bool) (c_lockup : Bool) (c_current : Int32) (c_memory : Nat → Int32) (c_reg : Nat → Int32) (c_pending : Nat → Bool) (c_active : Nat → Bool) (y2 : Int32) (y4 : Int32) (z1 : Int32) : Bool × Bool × Bool × Bool × Bool × Int32 × Bool × Bool × Bool × Bool × Int32 × (Nat → Int32) × (Nat → Int32) × (Nat → Bool) × (Nat → Bool) :=
  bd (f_ThumbCoreModel_field c_h 0 : Int32) (fun v1 =>
  un3 (f_ThumbCoreModel_moves q_size c_bad c_memory c_reg z1 v1 (y4 + (4 * y2))) (fun s2 s3 s4 =>
  (c_n, c_z, c_c, c_v, s2, c_after, c_entered, c_mask, c_asleep, c_lockup, c_current, s3, s4, c_pending, c_active)))
def k_ThumbCoreModel_perform_85 (q_size : Int32) (c_h : Int32) (c_priorities : Nat → Int32) (c_n : Bool) (c_z : Bool) (c_c : Bool) (c_v : Bool) (c_bad : Bool) (c_after : Int32) (c_entered : Bool) (c_mask : Bool) (c_asleep : Bool) (c_lockup : Bool) (c_current : Int32) (c_memory : Nat → Int32) (c_reg : Nat → Int32) (c_pending : Nat → Bool) (c_active : Nat → Bool) (z1 : Int32) (z3 : Int32) (z4 : Int32) (z5 : Int32) : Bool × Bool × Bool × Bool × Bool × Int32 × Bool × Bool × Bool × Bool × Int32 × (Nat → Int32) × (Nat → Int32) × (Nat → Bool) × (Nat → Bool) :=
  un4 (f_ThumbCoreModel_moved c_n c_z c_c z3 z4 z5) (fun r1 s2 s3 s4 =>
  (s2, s3, s4, c_v, c_bad, c_after, c_entered, c_mask, c_asleep, c_lockup, c_current, c_memory, (upd c_reg z1.toNatClampNeg r1), c_pending, c_active))
def k_ThumbCoreModel_perform_84 (q_size : Int32) (c_h : Int32) (c_priorities : Nat → Int32) (c_n : Bool) (c_z : Bool) (c_c : Bool) (c_v : Bool) (c_bad : Bool) (c_after : Int32) (c_entered : Bool) (c_mask : Bool) (c_asleep : Bool) (c_lockup : Bool) (c_current : Int32) (c_memory : Nat → Int32) (c_reg : Nat → Int32) (c_pending : Nat → Bool) (c_active : Nat → Bool) (y2 : Int32) (z1 : Int32) (z3 : Int32) (z4 : Int32) : Bool × Bool × Bool × Bool × Bool × Int32 × Bool × Bool × Bool × Bool × Int32 × (Nat → Int32) × (Nat → Int32) × (Nat → Bool) × (Nat → Bool) :=
  k_ThumbCoreModel_perform_85 q_size c_h c_priorities c_n c_z c_c c_v c_bad c_after c_entered c_mask c_asleep c_lockup c_current c_memory c_reg c_pending c_active z1 z3 z4 y2
def f_ThumbCoreModel_perform (q_size : Int32) (c_h : Int32) (c_priorities : Nat → Int32) (c_n : Bool) (c_z : Bool) (c_c : Bool) (c_v : Bool) (c_bad : Bool) (c_after : Int32) (c_entered : Bool) (c_mask : Bool) (c_asleep : Bool) (c_lockup : Bool) (c_current : Int32) (c_memory : Nat → Int32) (c_reg : Nat → Int32) (c_pending : Nat → Bool) (c_active : Nat → Bool) : Bool × Bool × Bool × Bool × Bool × Int32 × Bool × Bool × Bool × Bool × Int32 × (Nat → Int32) × (Nat → Int32) × (Nat → Bool) × (Nat → Bool) :=
  bd ((o_ishr c_h 11) : Int32) (fun v1 =>
  bd (((o_ishr c_h 6) &&& 31) : Int32) (fun v2 =>
  bd (((c_reg (15 : Int32).toNatClampNeg) + 4) : Int32) (fun v3 =>
  bd (f_ThumbCoreModel_field c_h 3 : Int32) (fun v4 =>
  bd ((c_reg v4.toNatClampNeg) : Int32) (fun v5 =>
  bd ((4 * (c_h &&& 255)) : Int32) (fun v6 =>
  if 3 ≤ v1 then (if ¬ v1 = 3 then (if 8 ≤ v1 then (if ¬ v1 = 8 then (if ¬ v1 = 9 then (if 12 ≤ v1 then (if 14 ≤ v1 then (if 16 ≤ v1 then (if 18 ≤ v1 then (if 20 ≤ v1 then (if 22 ≤ v1 then (if 24 ≤ v1 then (if 26 ≤ v1 then (if 28 ≤ v1 then (if ¬ v1 = 28 then (if ¬ v1 = 30 then ((c_n, c_z, c_c, c_v, true, c_after, c_entered, c_mask, c_asleep, c_lockup, c_current, c_memory, c_reg, c_pending, c_active))
                                else un3 (f_ThumbCoreModel_far q_size c_h c_memory c_bad c_after c_reg) (fun s7 s8 s9 =>
                                (c_n, c_z, c_c, c_v, s7, s8, c_entered, c_mask, c_asleep, c_lockup, c_current, c_memory, s9, c_pending, c_active)))
                              else bd ((v3 + (2 * (o_ishr (o_ishl c_h 21) 21))) : Int32) (fun v10 =>
                              (c_n, c_z, c_c, c_v, c_bad, v10, c_entered, c_mask, c_asleep, c_lockup, c_current, c_memory, c_reg, c_pending, c_active)))
                            else un9 (f_ThumbCoreModel_branch q_size c_n c_z c_c c_v c_h c_mask c_priorities c_bad c_after c_entered c_lockup c_current c_memory c_reg c_pending c_active) (fun s11 s12 s13 s14 s15 s16 s17 s18 s19 =>
                            (c_n, c_z, c_c, c_v, s11, s12, s13, c_mask, c_asleep, s14, s15, s16, s17, s18, s19)))
                          else if ¬ v1 = 25 then (k_ThumbCoreModel_perform_437 q_size c_h c_priorities c_n c_z c_c c_v c_bad c_after c_entered c_mask c_asleep c_lockup c_current c_memory c_reg c_pending c_active false)
                          else k_ThumbCoreModel_perform_437 q_size c_h c_priorities c_n c_z c_c c_v c_bad c_after c_entered c_mask c_asleep c_lockup c_current c_memory c_reg c_pending c_active true)
                        else un12 (f_ThumbCoreModel_kinds q_size c_h c_n c_z c_c c_v c_bad c_after c_mask c_asleep c_current c_memory c_reg c_active) (fun s20 s21 s22 s23 s24 s25 s26 s27 s28 s29 s30 s31 =>
                        (s20, s21, s22, s23, s24, s25, c_entered, s26, s27, c_lockup, s28, s29, s30, c_pending, s31)))
                      else bd (f_ThumbCoreModel_field c_h 8 : Int32) (fun v32 =>
                      if ¬ v1 = 20 then (k_ThumbCoreModel_perform_399 q_size c_h c_priorities c_n c_z c_c c_v c_bad c_after c_entered c_mask c_asleep c_lockup c_current c_memory c_reg c_pending c_active v6 v32 (c_reg (13 : Int32).toNatClampNeg))
                      else k_ThumbCoreModel_perform_399 q_size c_h c_priorities c_n c_z c_c c_v c_bad c_after c_entered c_mask c_asleep c_lockup c_current c_memory c_reg c_pending c_active v6 v32 (v3 &&& (-4))))
                    else if ¬ v1 = 18 then (k_ThumbCoreModel_perform_341 q_size c_h c_priorities c_n c_z c_c c_v c_bad c_after c_entered c_mask c_asleep c_lockup c_current c_memory c_reg c_pending c_active v6 4)
                    else k_ThumbCoreModel_perform_341 q_size c_h c_priorities c_n c_z c_c c_v c_bad c_after c_entered c_mask c_asleep c_lockup c_current c_memory c_reg c_pending c_active v6 0)
                  else if ¬ v1 = 16 then (k_ThumbCoreModel_perform_306 q_size c_h c_priorities c_n c_z c_c c_v c_bad c_after c_entered c_mask c_asleep c_lockup c_current c_memory c_reg c_pending c_active v2 v5 5)
                  else k_ThumbCoreModel_perform_306 q_size c_h c_priorities c_n c_z c_c c_v c_bad c_after c_entered c_mask c_asleep c_lockup c_current c_memory c_reg c_pending c_active v2 v5 1)
                else if ¬ v1 = 14 then (k_ThumbCoreModel_perform_273 q_size c_h c_priorities c_n c_z c_c c_v c_bad c_after c_entered c_mask c_asleep c_lockup c_current c_memory c_reg c_pending c_active v2 v5 6)
                else k_ThumbCoreModel_perform_273 q_size c_h c_priorities c_n c_z c_c c_v c_bad c_after c_entered c_mask c_asleep c_lockup c_current c_memory c_reg c_pending c_active v2 v5 2)
              else if ¬ v1 = 12 then (k_ThumbCoreModel_perform_237 q_size c_h c_priorities c_n c_z c_c c_v c_bad c_after c_entered c_mask c_asleep c_lockup c_current c_memory c_reg c_pending c_active v2 v5 4)
              else k_ThumbCoreModel_perform_237 q_size c_h c_priorities c_n c_z c_c c_v c_bad c_after c_entered c_mask c_asleep c_lockup c_current c_memory c_reg c_pending c_active v2 v5 0)
            else bd (f_ThumbCoreModel_field c_h 0 : Int32) (fun v33 =>
            bd (f_ThumbCoreModel_field c_h 6 : Int32) (fun v34 =>
            un3 (f_ThumbCoreModel_moves q_size c_bad c_memory c_reg ((o_ishr c_h 9) &&& 7) v33 (v5 + (c_reg v34.toNatClampNeg))) (fun s35 s36 s37 =>
            (c_n, c_z, c_c, c_v, s35, c_after, c_entered, c_mask, c_asleep, c_lockup, c_current, s36, s37, c_pending, c_active)))))
          else bd (f_ThumbCoreModel_field c_h 8 : Int32) (fun v38 =>
          un3 (f_ThumbCoreModel_moves q_size c_bad c_memory c_reg 4 v38 ((v3 &&& (-4)) + v6)) (fun s39 s40 s41 =>
          (c_n, c_z, c_c, c_v, s39, c_after, c_entered, c_mask, c_asleep, c_lockup, c_current, s40, s41, c_pending, c_active))))
        else if ¬ (o_ishr c_h 10) = 16 then (un9 (f_ThumbCoreModel_wide q_size c_h c_memory c_n c_z c_c c_v c_bad c_after c_current c_reg c_active) (fun s42 s43 s44 s45 s46 s47 s48 s49 s50 =>
          (s42, s43, s44, s45, s46, s47, c_entered, c_mask, c_asleep, c_lockup, s48, c_memory, s49, c_pending, s50)))
        else un5 (f_ThumbCoreModel_worked c_h c_n c_z c_c c_v c_reg) (fun s51 s52 s53 s54 s55 =>
        (s51, s52, s53, s54, c_bad, c_after, c_entered, c_mask, c_asleep, c_lockup, c_current, c_memory, s55, c_pending, c_active)))
      else un5 (f_ThumbCoreModel_bytes c_h c_n c_z c_c c_v c_reg v1) (fun s56 s57 s58 s59 s60 =>
      (s56, s57, s58, s59, c_bad, c_after, c_entered, c_mask, c_asleep, c_lockup, c_current, c_memory, s60, c_pending, c_active)))
    else un5 (f_ThumbCoreModel_threes c_h c_n c_z c_c c_v c_reg) (fun s61 s62 s63 s64 s65 =>
    (s61, s62, s63, s64, c_bad, c_after, c_entered, c_mask, c_asleep, c_lockup, c_current, c_memory, s65, c_pending, c_active)))
  else bd (f_ThumbCoreModel_field c_h 0 : Int32) (fun v66 =>
  if ¬ v2 = 0 then (k_ThumbCoreModel_perform_84 q_size c_h c_priorities c_n c_z c_c c_v c_bad c_after c_entered c_mask c_asleep c_lockup c_current c_memory c_reg c_pending c_active v2 v66 v1 v5)
  else if v1 ≤ 0 then (k_ThumbCoreModel_perform_84 q_size c_h c_priorities c_n c_z c_c c_v c_bad c_after c_entered c_mask c_asleep c_lockup c_current c_memory c_reg c_pending c_active v2 v66 v1 v5)
  else k_ThumbCoreModel_perform_85 q_size c_h c_priorities c_n c_z c_c c_v c_bad c_after c_entered c_mask c_asleep c_lockup c_current c_memory c_reg c_pending c_active v66 v1 v5 32)))))))
def k_ThumbCoreModel_instruct_93 (q_size : Int32) (c_priorities : Nat → Int32) : Nat → Bool → Bool → Bool → Bool → Int32 → Bool → Int32 → Int32 → Bool → Bool → Bool → Bool → Int32 → (Nat → Int32) → (Nat → Int32) → (Nat → Int32) → (Nat → Bool) → (Nat → Bool) → Int32 → Bool × Bool × Bool × Bool × Int32 × Bool × Int32 × Int32 × Bool × Bool × Bool × Bool × Int32 × (Nat → Int32) × (Nat → Int32) × (Nat → Int32) × (Nat → Bool) × (Nat → Bool)
  | 0, c_n, c_z, c_c, c_v, c_keptFlags, c_bad, c_h, c_after, c_entered, c_mask, c_asleep, c_lockup, c_current, c_memory, c_reg, c_kept, c_pending, c_active, y1 => (c_n, c_z, c_c, c_v, c_keptFlags, c_bad, c_h, c_after, c_entered, c_mask, c_asleep, c_lockup, c_current, c_memory, c_reg, c_kept, c_pending, c_active)
  | n + 1, c_n, c_z, c_c, c_v, c_keptFlags, c_bad, c_h, c_after, c_entered, c_mask, c_asleep, c_lockup, c_current, c_memory, c_reg, c_kept, c_pending, c_active, y1 =>
  if 16 ≤ y1 then (un4 (f_ThumbCoreModel_flags c_n c_z c_c c_v c_keptFlags) (fun s1 s2 s3 s4 =>
    un7 (f_ThumbCoreModel_fault q_size s1 s2 s3 s4 c_mask c_priorities c_bad c_lockup c_current c_memory c_reg c_pending c_active) (fun s5 s6 s7 s8 s9 s10 s11 =>
    (s1, s2, s3, s4, c_keptFlags, s5, c_h, c_after, c_entered, c_mask, c_asleep, s6, s7, s8, s9, c_kept, s10, s11))))
  else k_ThumbCoreModel_instruct_93 q_size c_priorities n c_n c_z c_c c_v c_keptFlags c_bad c_h c_after c_entered c_mask c_asleep c_lockup c_current c_memory (upd c_reg y1.toNatClampNeg (c_kept y1.toNatClampNeg)) c_kept c_pending c_active (y1 + 1)
def k_ThumbCoreModel_instruct_84 (q_size : Int32) (c_priorities : Nat → Int32) (c_n : Bool) (c_z : Bool) (c_c : Bool) (c_v : Bool) (c_keptFlags : Int32) (c_bad : Bool) (c_h : Int32) (c_after : Int32) (c_entered : Bool) (c_mask : Bool) (c_asleep : Bool) (c_lockup : Bool) (c_current : Int32) (c_memory : Nat → Int32) (c_reg : Nat → Int32) (c_kept : Nat → Int32) (c_pending : Nat → Bool) (c_active : Nat → Bool) : Bool × Bool × Bool × Bool × Int32 × Bool × Int32 × Int32 × Bool × Bool × Bool × Bool × Int32 × (Nat → Int32) × (Nat → Int32) × (Nat → Int32) × (Nat → Bool) × (Nat → Bool) :=
  if (bI c_bad) = 0 then (if ¬ (bI c_entered) = 0 then ((c_n, c_z, c_c, c_v, c_keptFlags, c_bad, c_h, c_after, c_entered, c_mask, c_asleep, c_lockup, c_current, c_memory, c_reg, c_kept, c_pending, c_active))
    else (c_n, c_z, c_c, c_v, c_keptFlags, c_bad, c_h, c_after, c_entered, c_mask, c_asleep, c_lockup, c_current, c_memory, (upd c_reg (15 : Int32).toNatClampNeg c_after), c_kept, c_pending, c_active))
  else k_ThumbCoreModel_instruct_93 q_size c_priorities 17 c_n c_z c_c c_v c_keptFlags c_bad c_h c_after c_entered c_mask c_asleep c_lockup c_current c_memory c_reg c_kept c_pending c_active 0
def k_ThumbCoreModel_instruct_2 (q_size : Int32) (c_priorities : Nat → Int32) : Nat → Bool → Bool → Bool → Bool → Int32 → Bool → Int32 → Int32 → Bool → Bool → Bool → Bool → Int32 → (Nat → Int32) → (Nat → Int32) → (Nat → Int32) → (Nat → Bool) → (Nat → Bool) → Int32 → Bool × Bool × Bool × Bool × Int32 × Bool × Int32 × Int32 × Bool × Bool × Bool × Bool × Int32 × (Nat → Int32) × (Nat → Int32) × (Nat → Int32) × (Nat → Bool) × (Nat → Bool)
  | 0, c_n, c_z, c_c, c_v, c_keptFlags, c_bad, c_h, c_after, c_entered, c_mask, c_asleep, c_lockup, c_current, c_memory, c_reg, c_kept, c_pending, c_active, y1 => (c_n, c_z, c_c, c_v, c_keptFlags, c_bad, c_h, c_after, c_entered, c_mask, c_asleep, c_lockup, c_current, c_memory, c_reg, c_kept, c_pending, c_active)
  | n + 1, c_n, c_z, c_c, c_v, c_keptFlags, c_bad, c_h, c_after, c_entered, c_mask, c_asleep, c_lockup, c_current, c_memory, c_reg, c_kept, c_pending, c_active, y1 =>
  if 16 ≤ y1 then (bd (f_ThumbCoreModel_bits c_n c_z c_c c_v : Int32) (fun v1 =>
    un2 (f_ThumbCoreModel_read q_size c_memory false (c_reg (15 : Int32).toNatClampNeg) 2) (fun r2 s3 =>
    bd (((c_reg (15 : Int32).toNatClampNeg) + 2) : Int32) (fun v4 =>
    if ¬ (bI s3) = 0 then (k_ThumbCoreModel_instruct_84 q_size c_priorities c_n c_z c_c c_v v1 s3 r2 v4 false c_mask c_asleep c_lockup c_current c_memory c_reg c_kept c_pending c_active)
    else un15 (f_ThumbCoreModel_perform q_size r2 c_priorities c_n c_z c_c c_v s3 v4 false c_mask c_asleep c_lockup c_current c_memory c_reg c_pending c_active) (fun s5 s6 s7 s8 s9 s10 s11 s12 s13 s14 s15 s16 s17 s18 s19 =>
    k_ThumbCoreModel_instruct_84 q_size c_priorities s5 s6 s7 s8 v1 s9 r2 s10 s11 s12 s13 s14 s15 s16 s17 c_kept s18 s19)))))
  else k_ThumbCoreModel_instruct_2 q_size c_priorities n c_n c_z c_c c_v c_keptFlags c_bad c_h c_after c_entered c_mask c_asleep c_lockup c_current c_memory c_reg (upd c_kept y1.toNatClampNeg (c_reg y1.toNatClampNeg)) c_pending c_active (y1 + 1)
def f_ThumbCoreModel_instruct (q_size : Int32) (c_priorities : Nat → Int32) (c_n : Bool) (c_z : Bool) (c_c : Bool) (c_v : Bool) (c_keptFlags : Int32) (c_bad : Bool) (c_h : Int32) (c_after : Int32) (c_entered : Bool) (c_mask : Bool) (c_asleep : Bool) (c_lockup : Bool) (c_current : Int32) (c_memory : Nat → Int32) (c_reg : Nat → Int32) (c_kept : Nat → Int32) (c_pending : Nat → Bool) (c_active : Nat → Bool) : Bool × Bool × Bool × Bool × Int32 × Bool × Int32 × Int32 × Bool × Bool × Bool × Bool × Int32 × (Nat → Int32) × (Nat → Int32) × (Nat → Int32) × (Nat → Bool) × (Nat → Bool) :=
  k_ThumbCoreModel_instruct_2 q_size c_priorities 17 c_n c_z c_c c_v c_keptFlags c_bad c_h c_after c_entered c_mask c_asleep c_lockup c_current c_memory c_reg c_kept c_pending c_active 0
def k_ThumbCoreModel_tickOnce_74 (c_counts : Bool) (c_reload : Int32) (c_counter : Int32) (c_pending : Nat → Bool) (z2 : Bool) : Int32 × (Nat → Bool) :=
  (c_counter, (va_up c_pending (15 : Int32).toNatClampNeg z2))
def k_ThumbCoreModel_tickOnce_69 (c_counts : Bool) (c_reload : Int32) (c_counter : Int32) (c_pending : Nat → Bool) : Int32 × (Nat → Bool) :=
  k_ThumbCoreModel_tickOnce_74 c_counts c_reload c_counter c_pending true
def k_ThumbCoreModel_tickOnce_73 (c_counts : Bool) (c_reload : Int32) (c_counter : Int32) (c_pending : Nat → Bool) : Int32 × (Nat → Bool) :=
  k_ThumbCoreModel_tickOnce_74 c_counts c_reload c_counter c_pending false
def k_ThumbCoreModel_tickOnce_39 (c_counts : Bool) (c_reload : Int32) (c_counter : Int32) (c_pending : Nat → Bool) (y1 : Bool) (z1 : Int32) : Int32 × (Nat → Bool) :=
  if ¬ (bI (c_pending (15 : Int32).toNatClampNeg)) = 0 then (k_ThumbCoreModel_tickOnce_69 c_counts c_reload z1 c_pending)
  else if ¬ (bI y1) = 0 then (k_ThumbCoreModel_tickOnce_73 c_counts c_reload z1 c_pending)
  else if ¬ z1 = 0 then (k_ThumbCoreModel_tickOnce_73 c_counts c_reload z1 c_pending)
  else k_ThumbCoreModel_tickOnce_69 c_counts c_reload z1 c_pending
def k_ThumbCoreModel_tickOnce_20 (c_counts : Bool) (c_reload : Int32) (c_counter : Int32) (c_pending : Nat → Bool) (z0 : Bool) : Int32 × (Nat → Bool) :=
  if (bI z0) = 0 then (k_ThumbCoreModel_tickOnce_39 c_counts c_reload c_counter c_pending z0 (c_counter - 1))
  else k_ThumbCoreModel_tickOnce_39 c_counts c_reload c_counter c_pending z0 c_reload
def f_ThumbCoreModel_tickOnce (c_counts : Bool) (c_reload : Int32) (c_counter : Int32) (c_pending : Nat → Bool) : Int32 × (Nat → Bool) :=
  if ¬ (bI c_counts) = 0 then (if ¬ c_counter = 0 then (k_ThumbCoreModel_tickOnce_20 c_counts c_reload c_counter c_pending false)
    else k_ThumbCoreModel_tickOnce_20 c_counts c_reload c_counter c_pending true)
  else (c_counter, c_pending)
def k_ThumbCoreModel_step_72 (q_size : Int32) (c_counts : Bool) (c_reload : Int32) (c_priorities : Nat → Int32) (c_n : Bool) (c_z : Bool) (c_c : Bool) (c_v : Bool) (c_keptFlags : Int32) (c_bad : Bool) (c_h : Int32) (c_after : Int32) (c_entered : Bool) (c_mask : Bool) (c_asleep : Bool) (c_lockup : Bool) (c_counter : Int32) (c_current : Int32) (c_memory : Nat → Int32) (c_reg : Nat → Int32) (c_kept : Nat → Int32) (c_pending : Nat → Bool) (c_active : Nat → Bool) (y1 : Int32) : Int32 × Bool × Bool × Bool × Bool × Int32 × Bool × Int32 × Int32 × Bool × Bool × Bool × Bool × Int32 × Int32 × (Nat → Int32) × (Nat → Int32) × (Nat → Int32) × (Nat → Bool) × (Nat → Bool) :=
  if (bI c_lockup) = 0 then (if y1 ≤ 0 then ((0, c_n, c_z, c_c, c_v, c_keptFlags, c_bad, c_h, c_after, c_entered, c_mask, c_asleep, c_lockup, c_counter, c_current, c_memory, c_reg, c_kept, c_pending, c_active))
    else (1, c_n, c_z, c_c, c_v, c_keptFlags, c_bad, c_h, c_after, c_entered, c_mask, c_asleep, c_lockup, c_counter, c_current, c_memory, c_reg, c_kept, c_pending, c_active))
  else (3, c_n, c_z, c_c, c_v, c_keptFlags, c_bad, c_h, c_after, c_entered, c_mask, c_asleep, c_lockup, c_counter, c_current, c_memory, c_reg, c_kept, c_pending, c_active)
def k_ThumbCoreModel_step_34 (q_size : Int32) (c_counts : Bool) (c_reload : Int32) (c_priorities : Nat → Int32) (c_n : Bool) (c_z : Bool) (c_c : Bool) (c_v : Bool) (c_keptFlags : Int32) (c_bad : Bool) (c_h : Int32) (c_after : Int32) (c_entered : Bool) (c_mask : Bool) (c_asleep : Bool) (c_lockup : Bool) (c_counter : Int32) (c_current : Int32) (c_memory : Nat → Int32) (c_reg : Nat → Int32) (c_kept : Nat → Int32) (c_pending : Nat → Bool) (c_active : Nat → Bool) : Int32 × Bool × Bool × Bool × Bool × Int32 × Bool × Int32 × Int32 × Bool × Bool × Bool × Bool × Int32 × Int32 × (Nat → Int32) × (Nat → Int32) × (Nat → Int32) × (Nat → Bool) × (Nat → Bool) :=
  bd (f_ThumbCoreModel_present c_mask c_active c_priorities true : Int32) (fun v1 =>
  bd (f_ThumbCoreModel_waiting c_pending c_priorities v1 : Int32) (fun v2 =>
  if v2 ≤ 0 then (un18 (f_ThumbCoreModel_instruct q_size c_priorities c_n c_z c_c c_v c_keptFlags c_bad c_h c_after c_entered c_mask false c_lockup c_current c_memory c_reg c_kept c_pending c_active) (fun s3 s4 s5 s6 s7 s8 s9 s10 s11 s12 s13 s14 s15 s16 s17 s18 s19 s20 =>
    k_ThumbCoreModel_step_72 q_size c_counts c_reload c_priorities s3 s4 s5 s6 s7 s8 s9 s10 s11 s12 s13 s14 c_counter s15 s16 s17 s18 s19 s20 v2))
  else un7 (f_ThumbCoreModel_enter q_size c_n c_z c_c c_v c_bad c_lockup c_current c_memory c_reg c_pending c_active v2 (c_reg (15 : Int32).toNatClampNeg)) (fun s21 s22 s23 s24 s25 s26 s27 =>
  k_ThumbCoreModel_step_72 q_size c_counts c_reload c_priorities c_n c_z c_c c_v c_keptFlags s21 c_h c_after c_entered c_mask false s22 c_counter s23 s24 s25 c_kept s26 s27 v2)))
def f_ThumbCoreModel_step (q_size : Int32) (c_counts : Bool) (c_reload : Int32) (c_priorities : Nat → Int32) (c_n : Bool) (c_z : Bool) (c_c : Bool) (c_v : Bool) (c_keptFlags : Int32) (c_bad : Bool) (c_h : Int32) (c_after : Int32) (c_entered : Bool) (c_mask : Bool) (c_asleep : Bool) (c_lockup : Bool) (c_counter : Int32) (c_current : Int32) (c_memory : Nat → Int32) (c_reg : Nat → Int32) (c_kept : Nat → Int32) (c_pending : Nat → Bool) (c_active : Nat → Bool) : Int32 × Bool × Bool × Bool × Bool × Int32 × Bool × Int32 × Int32 × Bool × Bool × Bool × Bool × Int32 × Int32 × (Nat → Int32) × (Nat → Int32) × (Nat → Int32) × (Nat → Bool) × (Nat → Bool) :=
  if (bI c_lockup) = 0 then (un2 (f_ThumbCoreModel_tickOnce c_counts c_reload c_counter c_pending) (fun s1 s2 =>
    if (bI c_asleep) = 0 then (k_ThumbCoreModel_step_34 q_size c_counts c_reload c_priorities c_n c_z c_c c_v c_keptFlags c_bad c_h c_after c_entered c_mask c_asleep c_lockup s1 c_current c_memory c_reg c_kept s2 c_active)
    else bd (f_ThumbCoreModel_present c_mask c_active c_priorities false : Int32) (fun v3 =>
    bd (f_ThumbCoreModel_waiting s2 c_priorities v3 : Int32) (fun v4 =>
    if ¬ v4 = 0 then (k_ThumbCoreModel_step_34 q_size c_counts c_reload c_priorities c_n c_z c_c c_v c_keptFlags c_bad c_h c_after c_entered c_mask c_asleep c_lockup s1 c_current c_memory c_reg c_kept s2 c_active)
    else (2, c_n, c_z, c_c, c_v, c_keptFlags, c_bad, c_h, c_after, c_entered, c_mask, c_asleep, c_lockup, s1, c_current, c_memory, c_reg, c_kept, s2, c_active)))))
  else (3, c_n, c_z, c_c, c_v, c_keptFlags, c_bad, c_h, c_after, c_entered, c_mask, c_asleep, c_lockup, c_counter, c_current, c_memory, c_reg, c_kept, c_pending, c_active)
def k_ThumbCoreModel_run_54 (q_size : Int32) (c_counts : Bool) (c_reload : Int32) (c_priorities : Nat → Int32) (K_19 : Bool → Bool → Bool → Bool → Int32 → Bool → Int32 → Int32 → Bool → Bool → Bool → Bool → Int32 → Int32 → (Nat → Int32) → (Nat → Int32) → (Nat → Int32) → (Nat → Bool) → (Nat → Bool) → Int32 → Int32 → Bool → Int32 → Int32 × Bool × Bool × Bool × Bool × Int32 × Bool × Int32 × Int32 × Bool × Bool × Bool × Bool × Int32 × Int32 × (Nat → Int32) × (Nat → Int32) × (Nat → Int32) × (Nat → Bool) × (Nat → Bool)) (c_n : Bool) (c_z : Bool) (c_c : Bool) (c_v : Bool) (c_keptFlags : Int32) (c_bad : Bool) (c_h : Int32) (c_after : Int32) (c_entered : Bool) (c_mask : Bool) (c_asleep : Bool) (c_lockup : Bool) (c_counter : Int32) (c_current : Int32) (c_memory : Nat → Int32) (c_reg : Nat → Int32) (c_kept : Nat → Int32) (c_pending : Nat → Bool) (c_active : Nat → Bool) (y1 : Int32) (y3 : Bool) (y4 : Int32) (z0 : Int32) : Int32 × Bool × Bool × Bool × Bool × Int32 × Bool × Int32 × Int32 × Bool × Bool × Bool × Bool × Int32 × Int32 × (Nat → Int32) × (Nat → Int32) × (Nat → Int32) × (Nat → Bool) × (Nat → Bool) :=
  K_19 c_n c_z c_c c_v c_keptFlags c_bad c_h c_after c_entered c_mask c_asleep c_lockup c_counter c_current c_memory c_reg c_kept c_pending c_active y1 z0 y3 (y4 + 1)
def k_ThumbCoreModel_run_42 (q_size : Int32) (c_counts : Bool) (c_reload : Int32) (c_priorities : Nat → Int32) (K_19 : Bool → Bool → Bool → Bool → Int32 → Bool → Int32 → Int32 → Bool → Bool → Bool → Bool → Int32 → Int32 → (Nat → Int32) → (Nat → Int32) → (Nat → Int32) → (Nat → Bool) → (Nat → Bool) → Int32 → Int32 → Bool → Int32 → Int32 × Bool × Bool × Bool × Bool × Int32 × Bool × Int32 × Int32 × Bool × Bool × Bool × Bool × Int32 × Int32 × (Nat → Int32) × (Nat → Int32) × (Nat → Int32) × (Nat → Bool) × (Nat → Bool)) (c_n : Bool) (c_z : Bool) (c_c : Bool) (c_v : Bool) (c_keptFlags : Int32) (c_bad : Bool) (c_h : Int32) (c_after : Int32) (c_entered : Bool) (c_mask : Bool) (c_asleep : Bool) (c_lockup : Bool) (c_counter : Int32) (c_current : Int32) (c_memory : Nat → Int32) (c_reg : Nat → Int32) (c_kept : Nat → Int32) (c_pending : Nat → Bool) (c_active : Nat → Bool) (y1 : Int32) (y2 : Int32) (y4 : Int32) (z0 : Bool) : Int32 × Bool × Bool × Bool × Bool × Int32 × Bool × Int32 × Int32 × Bool × Bool × Bool × Bool × Int32 × Int32 × (Nat → Int32) × (Nat → Int32) × (Nat → Int32) × (Nat → Bool) × (Nat → Bool) :=
  if (bI z0) = 0 then (k_ThumbCoreModel_run_54 q_size c_counts c_reload c_priorities K_19 c_n c_z c_c c_v c_keptFlags c_bad c_h c_after c_entered c_mask c_asleep c_lockup c_counter c_current c_memory c_reg c_kept c_pending c_active y1 z0 y4 y2)
  else k_ThumbCoreModel_run_54 q_size c_counts c_reload c_priorities K_19 c_n c_z c_c c_v c_keptFlags c_bad c_h c_after c_entered c_mask c_asleep c_lockup c_counter c_current c_memory c_reg c_kept c_pending c_active y1 z0 y4 (y2 + 1)
def k_ThumbCoreModel_run_19 (q_size : Int32) (c_counts : Bool) (c_reload : Int32) (c_priorities : Nat → Int32) : Nat → Bool → Bool → Bool → Bool → Int32 → Bool → Int32 → Int32 → Bool → Bool → Bool → Bool → Int32 → Int32 → (Nat → Int32) → (Nat → Int32) → (Nat → Int32) → (Nat → Bool) → (Nat → Bool) → Int32 → Int32 → Bool → Int32 → Int32 × Bool × Bool × Bool × Bool × Int32 × Bool × Int32 × Int32 × Bool × Bool × Bool × Bool × Int32 × Int32 × (Nat → Int32) × (Nat → Int32) × (Nat → Int32) × (Nat → Bool) × (Nat → Bool)
  | 0, c_n, c_z, c_c, c_v, c_keptFlags, c_bad, c_h, c_after, c_entered, c_mask, c_asleep, c_lockup, c_counter, c_current, c_memory, c_reg, c_kept, c_pending, c_active, y1, y2, y3, y4 => (0, c_n, c_z, c_c, c_v, c_keptFlags, c_bad, c_h, c_after, c_entered, c_mask, c_asleep, c_lockup, c_counter, c_current, c_memory, c_reg, c_kept, c_pending, c_active)
  | n + 1, c_n, c_z, c_c, c_v, c_keptFlags, c_bad, c_h, c_after, c_entered, c_mask, c_asleep, c_lockup, c_counter, c_current, c_memory, c_reg, c_kept, c_pending, c_active, y1, y2, y3, y4 =>
  if y1 ≤ y4 then ((y2, c_n, c_z, c_c, c_v, c_keptFlags, c_bad, c_h, c_after, c_entered, c_mask, c_asleep, c_lockup, c_counter, c_current, c_memory, c_reg, c_kept, c_pending, c_active))
  else if (bI y3) = 0 then ((y2, c_n, c_z, c_c, c_v, c_keptFlags, c_bad, c_h, c_after, c_entered, c_mask, c_asleep, c_lockup, c_counter, c_current, c_memory, c_reg, c_kept, c_pending, c_active))
  else un20 (f_ThumbCoreModel_step q_size c_counts c_reload c_priorities c_n c_z c_c c_v c_keptFlags c_bad c_h c_after c_entered c_mask c_asleep c_lockup c_counter c_current c_memory c_reg c_kept c_pending c_active) (fun r1 s2 s3 s4 s5 s6 s7 s8 s9 s10 s11 s12 s13 s14 s15 s16 s17 s18 s19 s20 =>
  if 2 ≤ r1 then (k_ThumbCoreModel_run_42 q_size c_counts c_reload c_priorities (k_ThumbCoreModel_run_19 q_size c_counts c_reload c_priorities n) s2 s3 s4 s5 s6 s7 s8 s9 s10 s11 s12 s13 s14 s15 s16 s17 s18 s19 s20 y1 y2 y4 false)
  else k_ThumbCoreModel_run_42 q_size c_counts c_reload c_priorities (k_ThumbCoreModel_run_19 q_size c_counts c_reload c_priorities n) s2 s3 s4 s5 s6 s7 s8 s9 s10 s11 s12 s13 s14 s15 s16 s17 s18 s19 s20 y1 y2 y4 true)
def f_ThumbCoreModel_run (q_size : Int32) (c_counts : Bool) (c_reload : Int32) (c_priorities : Nat → Int32) (c_n : Bool) (c_z : Bool) (c_c : Bool) (c_v : Bool) (c_keptFlags : Int32) (c_bad : Bool) (c_h : Int32) (c_after : Int32) (c_entered : Bool) (c_mask : Bool) (c_asleep : Bool) (c_lockup : Bool) (c_counter : Int32) (c_current : Int32) (c_memory : Nat → Int32) (c_reg : Nat → Int32) (c_kept : Nat → Int32) (c_pending : Nat → Bool) (c_active : Nat → Bool) (x1 : Int32) : Int32 × Bool × Bool × Bool × Bool × Int32 × Bool × Int32 × Int32 × Bool × Bool × Bool × Bool × Int32 × Int32 × (Nat → Int32) × (Nat → Int32) × (Nat → Int32) × (Nat → Bool) × (Nat → Bool) :=
  if x1 < 0 then (((-1), c_n, c_z, c_c, c_v, c_keptFlags, c_bad, c_h, c_after, c_entered, c_mask, c_asleep, c_lockup, c_counter, c_current, c_memory, c_reg, c_kept, c_pending, c_active))
  else if x1 ≤ 100 then (k_ThumbCoreModel_run_19 q_size c_counts c_reload c_priorities ((Int32.toInt x1).toNat.succ) c_n c_z c_c c_v c_keptFlags c_bad c_h c_after c_entered c_mask c_asleep c_lockup c_counter c_current c_memory c_reg c_kept c_pending c_active x1 0 true 0)
  else ((-1), c_n, c_z, c_c, c_v, c_keptFlags, c_bad, c_h, c_after, c_entered, c_mask, c_asleep, c_lockup, c_counter, c_current, c_memory, c_reg, c_kept, c_pending, c_active)
def f_ThumbCoreModel_register (c_reg : Nat → Int32) (x1 : Int32) : Int32 :=
  if x1 < 0 then (0)
  else if 16 ≤ x1 then (0)
  else (c_reg x1.toNatClampNeg)
def k_ThumbCoreModel_set_44 (c_reg : Nat → Int32) (z1 : Int32) (z2 : Int32) : Bool × (Nat → Int32) :=
  (true, (upd c_reg z1.toNatClampNeg z2))
def f_ThumbCoreModel_set (c_reg : Nat → Int32) (x1 : Int32) (x2 : Int32) : Bool × (Nat → Int32) :=
  if x1 < 0 then ((false, c_reg))
  else if x1 ≤ 15 then (if ¬ x1 = 13 then (if ¬ x1 = 15 then (k_ThumbCoreModel_set_44 c_reg x1 x2)
      else k_ThumbCoreModel_set_44 c_reg x1 (x2 &&& (-2)))
    else k_ThumbCoreModel_set_44 c_reg x1 (x2 &&& (-4)))
  else (false, c_reg)
def f_ThumbCoreModel_about (c_mask : Bool) (c_asleep : Bool) (c_lockup : Bool) (c_counter : Int32) (c_current : Int32) (c_active : Nat → Bool) (c_priorities : Nat → Int32) (x1 : Int32) : Int32 :=
  if x1 = 0 then (c_current)
  else if x1 = 1 then (bd (f_ThumbCoreModel_actives c_active : Int32) (fun v1 =>
    v1))
  else if x1 = 2 then (if (bI c_mask) = 0 then (0)
    else 1)
  else if x1 = 3 then (if (bI c_asleep) = 0 then (0)
    else 1)
  else if x1 = 4 then (if (bI c_lockup) = 0 then (0)
    else 1)
  else if x1 = 5 then (c_counter)
  else if x1 = 6 then (bd (f_ThumbCoreModel_present c_mask c_active c_priorities true : Int32) (fun v2 =>
    v2))
  else (-1)
def f_ThumbCoreModel_canWait (x1 : Int32) : Bool :=
  if x1 = 2 then (true)
  else if x1 = 14 then (true)
  else if ¬ x1 = 15 then (false)
  else true
theorem tc_cwIn {x : Int32} (h : f_ThumbCoreModel_canWait x = true) : vp_in x 16 := by
  unfold f_ThumbCoreModel_canWait at h
  by_cases g1 : x = 2
  · exact tc_eqin g1 (by show ¬ (_ ∨ _); decide)
  by_cases g2 : x = 14
  · exact tc_eqin g2 (by show ¬ (_ ∨ _); decide)
  by_cases g3 : x = 15
  · exact tc_eqin g3 (by show ¬ (_ ∨ _); decide)
  · simp [g1, g2, g3] at h
def f_ThumbCoreModel_pend (c_pending : Nat → Bool) (x1 : Int32) : Bool × (Nat → Bool) :=
  bd (f_ThumbCoreModel_canWait x1 : Bool) (fun v1 =>
  if ¬ (bI v1) = 0 then ((true, (va_up c_pending x1.toNatClampNeg true)))
  else (false, c_pending))
def k_ThumbCoreModel_exception_28 (c_pending : Nat → Bool) (c_active : Nat → Bool) (y1 : Int32) (z0 : Bool) : Int32 :=
  if (bI (c_active y1.toNatClampNeg)) = 0 then (((bI z0) + 0))
  else ((bI z0) + 2)
def f_ThumbCoreModel_exception (c_pending : Nat → Bool) (c_active : Nat → Bool) (x1 : Int32) : Int32 :=
  if x1 < 0 then (0)
  else if x1 ≤ 15 then (if (bI (c_pending x1.toNatClampNeg)) = 0 then (k_ThumbCoreModel_exception_28 c_pending c_active x1 false)
    else k_ThumbCoreModel_exception_28 c_pending c_active x1 true)
  else 0
def k_ThumbCoreModel_priority_18 (c_priorities : Nat → Int32) (y1 : Int32) (y2 : Int32) : Bool × (Nat → Int32) :=
  if y2 < 0 then ((false, c_priorities))
  else if y2 ≤ 3 then ((true, (upd c_priorities y1.toNatClampNeg y2)))
  else (false, c_priorities)
def f_ThumbCoreModel_priority (c_priorities : Nat → Int32) (x1 : Int32) (x2 : Int32) : Bool × (Nat → Int32) :=
  if x1 = 11 then (k_ThumbCoreModel_priority_18 c_priorities x1 x2)
  else if x1 = 14 then (k_ThumbCoreModel_priority_18 c_priorities x1 x2)
  else if ¬ x1 = 15 then ((false, c_priorities))
  else k_ThumbCoreModel_priority_18 c_priorities x1 x2
def f_ThumbCoreModel_tick (c_counts : Bool) (c_counter : Int32) (c_reload : Int32) (x1 : Int32) (x2 : Bool) : Bool × Bool × Int32 × Int32 :=
  if x1 < 0 then ((false, c_counts, c_counter, c_reload))
  else if x1 ≤ 1000 then ((true, x2, 0, x1))
  else (false, c_counts, c_counter, c_reload)

def f_Integer_bitCount (x1 : Int32) : Int32 :=
  bd ((x1 - ((o_iushr x1 1) &&& 1431655765)) : Int32) (fun v1 =>
  bd (((v1 &&& 858993459) + ((o_iushr v1 2) &&& 858993459)) : Int32) (fun v2 =>
  bd (((v2 + (o_iushr v2 4)) &&& 252645135) : Int32) (fun v3 =>
  bd ((v3 + (o_iushr v3 8)) : Int32) (fun v4 =>
  bd ((v4 + (o_iushr v4 16)) : Int32) (fun v5 =>
  (v5 &&& 63))))))
def f_Counter_begin (c_number : Int32) (c_reload : Int32) (c_on : Bool) (x1 : Int32) (x2 : Bool) : Int32 × Int32 × Bool :=
  (0, x1, x2)
def f_Counter_moves (c_reload : Int32) (c_on : Bool) (c_number : Int32) : Bool × Int32 :=
  if ¬ (bI c_on) = 0 then (if ¬ c_number = 0 then (if ¬ (c_number - 1) = 0 then ((false, (c_number - 1)))
      else (true, (c_number - 1)))
    else (false, c_reload))
  else (false, c_number)
def f_Exceptions_clear (c_pending : Int32) (c_active : Int32) (c_current : Int32) (c_masked : Bool) : Int32 × Int32 × Int32 × Bool :=
  (0, 0, 0, false)
def f_Exceptions_await (c_pending : Int32) (x1 : Int32) : Int32 :=
  bd ((c_pending ||| (o_ishl 1 x1)) : Int32) (fun v1 =>
  v1)
def f_Exceptions_isPending (c_pending : Int32) (x1 : Int32) : Bool :=
  if x1 < 0 then (false)
  else if 15 < x1 then (false)
  else if ¬ ((o_iushr c_pending x1) &&& 1) = 1 then (false)
  else true
def f_Exceptions_isActive (c_active : Int32) (x1 : Int32) : Bool :=
  if x1 < 0 then (false)
  else if 15 < x1 then (false)
  else if ¬ ((o_iushr c_active x1) &&& 1) = 1 then (false)
  else true
def k_Exceptions_presentUnmasked_33 (c_active : Int32) (c_priorities : Nat → Int32) (K_4 : Int32 → Int32 → Int32) (y1 : Int32) (y2 : Int32) : Int32 :=
  K_4 y1 (y2 + 1)
def k_Exceptions_presentUnmasked_4 (c_active : Int32) (c_priorities : Nat → Int32) : Nat → Int32 → Int32 → Int32
  | 0, y1, y2 => 0
  | n + 1, y1, y2 =>
  if 15 < y2 then (y1)
  else if ¬ ((o_iushr c_active y2) &&& 1) = 1 then (k_Exceptions_presentUnmasked_33 c_active c_priorities (k_Exceptions_presentUnmasked_4 c_active c_priorities n) y1 y2)
  else bd ((o_min y1 (c_priorities y2.toNatClampNeg)) : Int32) (fun v1 =>
  k_Exceptions_presentUnmasked_33 c_active c_priorities (k_Exceptions_presentUnmasked_4 c_active c_priorities n) v1 y2)
def f_Exceptions_presentUnmasked (c_active : Int32) (c_priorities : Nat → Int32) : Int32 :=
  k_Exceptions_presentUnmasked_4 c_active c_priorities 17 4 0
def f_Exceptions_present (c_active : Int32) (c_masked : Bool) (c_priorities : Nat → Int32) : Int32 :=
  bd (f_Exceptions_presentUnmasked c_active c_priorities : Int32) (fun v1 =>
  if (bI c_masked) = 0 then (v1)
  else (o_min v1 0))
def k_Exceptions_mostUrgent_49 (c_pending : Int32) (c_priorities : Nat → Int32) (K_7 : Int32 → Int32 → Int32 → Int32) (y2 : Int32) (y3 : Int32) (y4 : Int32) : Int32 :=
  K_7 y2 y3 (y4 + 1)
def k_Exceptions_mostUrgent_7 (c_pending : Int32) (c_priorities : Nat → Int32) : Nat → Int32 → Int32 → Int32 → Int32
  | 0, y2, y3, y4 => 0
  | n + 1, y2, y3, y4 =>
  if 15 < y4 then (y2)
  else if ¬ ((o_iushr c_pending y4) &&& 1) = 1 then (k_Exceptions_mostUrgent_49 c_pending c_priorities (k_Exceptions_mostUrgent_7 c_pending c_priorities n) y2 y3 y4)
  else if y3 ≤ (c_priorities y4.toNatClampNeg) then (k_Exceptions_mostUrgent_49 c_pending c_priorities (k_Exceptions_mostUrgent_7 c_pending c_priorities n) y2 y3 y4)
  else bd ((c_priorities y4.toNatClampNeg) : Int32) (fun v1 =>
  k_Exceptions_mostUrgent_49 c_pending c_priorities (k_Exceptions_mostUrgent_7 c_pending c_priorities n) y4 v1 y4)
def f_Exceptions_mostUrgent (c_pending : Int32) (c_priorities : Nat → Int32) (x1 : Int32) : Int32 :=
  k_Exceptions_mostUrgent_7 c_pending c_priorities 17 0 x1 0
theorem tc_muI (p : Int32) (pr : Nat → Int32) : ∀ (n : Nat) (b u k : Int32), vp_in b 16 → tc_lp k 16 n → vp_in (k_Exceptions_mostUrgent_7 p pr n b u k) 16 := by
  intro n
  induction n with
  | zero =>
    intro b u k hb hk
    exact (tc_lp0 hk).elim
  | succ n ih =>
    intro b u k hb hk
    unfold k_Exceptions_mostUrgent_7
    by_cases g : 15 < k
    · rw [if_pos g]
      exact hb
    · rw [if_neg g]
      have hgd : k.toInt < ((16 : Nat) : Int) := tc_ggt g (by decide)
      have hk2 := tc_lpS hk hgd (by decide)
      have hki : vp_in k 16 := tc_lpI hk hgd (by decide)
      unfold k_Exceptions_mostUrgent_49 bd
      split
      · exact ih _ _ _ hb hk2
      · split
        · exact ih _ _ _ hb hk2
        · exact ih _ _ _ hki hk2
theorem tc_muIn {v p u : Int32} {pr : Nat → Int32} (e : v = f_Exceptions_mostUrgent p pr u) : vp_in v 16 := by
  rw [e]
  exact tc_muI p pr 17 0 u 0 (by show ¬ (_ ∨ _); decide) (tc_lpE 16)
def f_Exceptions_begin (c_pending : Int32) (c_active : Int32) (c_current : Int32) (x1 : Int32) : Int32 × Int32 × Int32 :=
  bd ((c_pending &&& ((o_ishl 1 x1) ^^^ (-1))) : Int32) (fun v1 =>
  bd ((c_active ||| (o_ishl 1 x1)) : Int32) (fun v2 =>
  (v1, v2, x1)))
def f_Exceptions_mayEndLast (c_active : Int32) (x1 : Int32) : Bool :=
  if ¬ x1 = 0 then (false)
  else bd (f_Integer_bitCount c_active : Int32) (fun v1 =>
  if ¬ v1 = 1 then (false)
  else true)
def f_Exceptions_mayEndFor (c_active : Int32) (c_current : Int32) (x1 : Int32) : Bool :=
  if x1 = c_current then (false)
  else bd (f_Exceptions_isActive c_active x1 : Bool) (fun v1 =>
  if (bI v1) = 0 then (false)
  else bd (f_Integer_bitCount c_active : Int32) (fun v2 =>
  if v2 ≤ 1 then (false)
  else true))
def f_Exceptions_endFor (c_active : Int32) (c_current : Int32) (x1 : Int32) : Int32 × Int32 :=
  bd ((c_active &&& ((o_ishl 1 c_current) ^^^ (-1))) : Int32) (fun v1 =>
  (v1, x1))
def k_Flags_bits_40 (c_negative : Bool) (c_zero : Bool) (c_carry : Bool) (c_overflow : Bool) (z0 : Int32) (z1 : Int32) : Int32 :=
  if (bI c_overflow) = 0 then (((z0 ||| z1) ||| 0))
  else ((z0 ||| z1) ||| 268435456)
def k_Flags_bits_26 (c_negative : Bool) (c_zero : Bool) (c_carry : Bool) (c_overflow : Bool) (z0 : Int32) (z1 : Int32) : Int32 :=
  if (bI c_carry) = 0 then (k_Flags_bits_40 c_negative c_zero c_carry c_overflow (z0 ||| z1) 0)
  else k_Flags_bits_40 c_negative c_zero c_carry c_overflow (z0 ||| z1) 536870912
def k_Flags_bits_13 (c_negative : Bool) (c_zero : Bool) (c_carry : Bool) (c_overflow : Bool) (z0 : Int32) : Int32 :=
  if (bI c_zero) = 0 then (k_Flags_bits_26 c_negative c_zero c_carry c_overflow z0 0)
  else k_Flags_bits_26 c_negative c_zero c_carry c_overflow z0 1073741824
def f_Flags_bits (c_negative : Bool) (c_zero : Bool) (c_carry : Bool) (c_overflow : Bool) : Int32 :=
  if (bI c_negative) = 0 then (k_Flags_bits_13 c_negative c_zero c_carry c_overflow 0)
  else k_Flags_bits_13 c_negative c_zero c_carry c_overflow (-2147483648)
def k_Flags_take_67 (c_negative : Bool) (c_zero : Bool) (c_carry : Bool) (c_overflow : Bool) (z1 : Bool) : Bool × Bool × Bool × Bool :=
  (c_negative, c_zero, c_carry, z1)
def k_Flags_take_48 (c_negative : Bool) (c_zero : Bool) (c_carry : Bool) (c_overflow : Bool) (y1 : Int32) (z1 : Bool) : Bool × Bool × Bool × Bool :=
  if ¬ ((o_iushr y1 28) &&& 1) = 1 then (k_Flags_take_67 c_negative c_zero z1 c_overflow false)
  else k_Flags_take_67 c_negative c_zero z1 c_overflow true
def k_Flags_take_29 (c_negative : Bool) (c_zero : Bool) (c_carry : Bool) (c_overflow : Bool) (y1 : Int32) (z1 : Bool) : Bool × Bool × Bool × Bool :=
  if ¬ ((o_iushr y1 29) &&& 1) = 1 then (k_Flags_take_48 c_negative z1 c_carry c_overflow y1 false)
  else k_Flags_take_48 c_negative z1 c_carry c_overflow y1 true
def k_Flags_take_10 (c_negative : Bool) (c_zero : Bool) (c_carry : Bool) (c_overflow : Bool) (y1 : Int32) (z1 : Bool) : Bool × Bool × Bool × Bool :=
  if ¬ ((o_iushr y1 30) &&& 1) = 1 then (k_Flags_take_29 z1 c_zero c_carry c_overflow y1 false)
  else k_Flags_take_29 z1 c_zero c_carry c_overflow y1 true
def f_Flags_take (c_negative : Bool) (c_zero : Bool) (c_carry : Bool) (c_overflow : Bool) (x1 : Int32) : Bool × Bool × Bool × Bool :=
  if 0 ≤ x1 then (k_Flags_take_10 c_negative c_zero c_carry c_overflow x1 false)
  else k_Flags_take_10 c_negative c_zero c_carry c_overflow x1 true
def k_Flags_mark_23 (c_negative : Bool) (c_zero : Bool) (y1 : Int32) (z1 : Bool) : Int32 × Bool × Bool :=
  (y1, c_negative, z1)
def k_Flags_mark_10 (c_negative : Bool) (c_zero : Bool) (y1 : Int32) (z1 : Bool) : Int32 × Bool × Bool :=
  if ¬ y1 = 0 then (k_Flags_mark_23 z1 c_zero y1 false)
  else k_Flags_mark_23 z1 c_zero y1 true
def f_Flags_mark (c_negative : Bool) (c_zero : Bool) (x1 : Int32) : Int32 × Bool × Bool :=
  if 0 ≤ x1 then (k_Flags_mark_10 c_negative c_zero x1 false)
  else k_Flags_mark_10 c_negative c_zero x1 true
def k_Flags_add_67 (c_negative : Bool) (c_zero : Bool) (c_carry : Bool) (c_overflow : Bool) (y8 : Int32) (z1 : Bool) : Int32 × Bool × Bool × Bool × Bool :=
  un3 (f_Flags_mark c_negative c_zero y8) (fun r1 s2 s3 =>
  (r1, s2, s3, c_carry, z1))
def k_Flags_add_49 (c_negative : Bool) (c_zero : Bool) (c_carry : Bool) (c_overflow : Bool) (y6 : Int64) (y8 : Int32) (z1 : Bool) : Int32 × Bool × Bool × Bool × Bool :=
  if (lg_cmp y6 y8.toInt64) = 0 then (k_Flags_add_67 c_negative c_zero z1 c_overflow y8 false)
  else k_Flags_add_67 c_negative c_zero z1 c_overflow y8 true
def f_Flags_add (c_negative : Bool) (c_zero : Bool) (c_carry : Bool) (c_overflow : Bool) (x1 : Int32) (x2 : Int32) (x3 : Int32) : Int32 × Bool × Bool × Bool × Bool :=
  bd ((((x1.toInt64 &&& 4294967295) + (x2.toInt64 &&& 4294967295)) + x3.toInt64) : Int64) (fun v1 =>
  bd (((x1.toInt64 + x2.toInt64) + x3.toInt64) : Int64) (fun v2 =>
  if (lg_cmp (o_lushr v1 32) 0) = 0 then (k_Flags_add_49 c_negative c_zero c_carry c_overflow v2 v1.toInt32 false)
  else k_Flags_add_49 c_negative c_zero c_carry c_overflow v2 v1.toInt32 true))
def k_Flags_moveUp_45 (c_negative : Bool) (c_zero : Bool) (c_carry : Bool) (z1 : Int32) : Int32 × Bool × Bool × Bool :=
  un3 (f_Flags_mark c_negative c_zero z1) (fun r1 s2 s3 =>
  (r1, s2, s3, c_carry))
def k_Flags_moveUp_31 (c_negative : Bool) (c_zero : Bool) (c_carry : Bool) (y1 : Int32) (y2 : Int32) : Int32 × Bool × Bool × Bool :=
  if 32 ≤ y2 then (k_Flags_moveUp_45 c_negative c_zero c_carry 0)
  else k_Flags_moveUp_45 c_negative c_zero c_carry (o_ishl y1 y2)
def k_Flags_moveUp_28 (c_negative : Bool) (c_zero : Bool) (c_carry : Bool) (y1 : Int32) (y2 : Int32) (z1 : Bool) : Int32 × Bool × Bool × Bool :=
  k_Flags_moveUp_31 c_negative c_zero z1 y1 y2
def k_Flags_moveUp_27 (c_negative : Bool) (c_zero : Bool) (c_carry : Bool) (y1 : Int32) (y2 : Int32) : Int32 × Bool × Bool × Bool :=
  k_Flags_moveUp_28 c_negative c_zero c_carry y1 y2 false
def f_Flags_moveUp (c_negative : Bool) (c_zero : Bool) (c_carry : Bool) (x1 : Int32) (x2 : Int32) : Int32 × Bool × Bool × Bool :=
  if x2 = 0 then (k_Flags_moveUp_31 c_negative c_zero c_carry x1 x2)
  else if 32 < x2 then (k_Flags_moveUp_27 c_negative c_zero c_carry x1 x2)
  else if ¬ ((o_iushr x1 (32 - x2)) &&& 1) = 1 then (k_Flags_moveUp_27 c_negative c_zero c_carry x1 x2)
  else k_Flags_moveUp_28 c_negative c_zero c_carry x1 x2 true
def k_Flags_moveDown_44 (c_negative : Bool) (c_zero : Bool) (c_carry : Bool) (z1 : Int32) : Int32 × Bool × Bool × Bool :=
  un3 (f_Flags_mark c_negative c_zero z1) (fun r1 s2 s3 =>
  (r1, s2, s3, c_carry))
def k_Flags_moveDown_30 (c_negative : Bool) (c_zero : Bool) (c_carry : Bool) (y1 : Int32) (y2 : Int32) : Int32 × Bool × Bool × Bool :=
  if 32 ≤ y2 then (k_Flags_moveDown_44 c_negative c_zero c_carry 0)
  else k_Flags_moveDown_44 c_negative c_zero c_carry (o_iushr y1 y2)
def k_Flags_moveDown_27 (c_negative : Bool) (c_zero : Bool) (c_carry : Bool) (y1 : Int32) (y2 : Int32) (z1 : Bool) : Int32 × Bool × Bool × Bool :=
  k_Flags_moveDown_30 c_negative c_zero z1 y1 y2
def k_Flags_moveDown_26 (c_negative : Bool) (c_zero : Bool) (c_carry : Bool) (y1 : Int32) (y2 : Int32) : Int32 × Bool × Bool × Bool :=
  k_Flags_moveDown_27 c_negative c_zero c_carry y1 y2 false
def f_Flags_moveDown (c_negative : Bool) (c_zero : Bool) (c_carry : Bool) (x1 : Int32) (x2 : Int32) : Int32 × Bool × Bool × Bool :=
  if x2 = 0 then (k_Flags_moveDown_30 c_negative c_zero c_carry x1 x2)
  else if 32 < x2 then (k_Flags_moveDown_26 c_negative c_zero c_carry x1 x2)
  else if ¬ ((o_iushr x1 (x2 - 1)) &&& 1) = 1 then (k_Flags_moveDown_26 c_negative c_zero c_carry x1 x2)
  else k_Flags_moveDown_27 c_negative c_zero c_carry x1 x2 true
def k_Flags_moveDownSigned_29 (c_negative : Bool) (c_zero : Bool) (c_carry : Bool) (y1 : Int32) (y2 : Int32) : Int32 × Bool × Bool × Bool :=
  un3 (f_Flags_mark c_negative c_zero (o_ishr y1 (o_min y2 31))) (fun r1 s2 s3 =>
  (r1, s2, s3, c_carry))
def k_Flags_moveDownSigned_26 (c_negative : Bool) (c_zero : Bool) (c_carry : Bool) (y1 : Int32) (y2 : Int32) (z1 : Bool) : Int32 × Bool × Bool × Bool :=
  k_Flags_moveDownSigned_29 c_negative c_zero z1 y1 y2
def f_Flags_moveDownSigned (c_negative : Bool) (c_zero : Bool) (c_carry : Bool) (x1 : Int32) (x2 : Int32) : Int32 × Bool × Bool × Bool :=
  if x2 = 0 then (k_Flags_moveDownSigned_29 c_negative c_zero c_carry x1 x2)
  else if ¬ ((o_ishr x1 (o_min (x2 - 1) 31)) &&& 1) = 1 then (k_Flags_moveDownSigned_26 c_negative c_zero c_carry x1 x2 false)
  else k_Flags_moveDownSigned_26 c_negative c_zero c_carry x1 x2 true
def k_Flags_turnRound_43 (c_negative : Bool) (c_zero : Bool) (c_carry : Bool) (y4 : Int32) : Int32 × Bool × Bool × Bool :=
  un3 (f_Flags_mark c_negative c_zero y4) (fun r1 s2 s3 =>
  (r1, s2, s3, c_carry))
def k_Flags_turnRound_40 (c_negative : Bool) (c_zero : Bool) (c_carry : Bool) (y4 : Int32) (z1 : Bool) : Int32 × Bool × Bool × Bool :=
  k_Flags_turnRound_43 c_negative c_zero z1 y4
def k_Flags_turnRound_23 (c_negative : Bool) (c_zero : Bool) (c_carry : Bool) (y2 : Int32) (z0 : Int32) : Int32 × Bool × Bool × Bool :=
  if y2 = 0 then (k_Flags_turnRound_43 c_negative c_zero c_carry z0)
  else if 0 ≤ z0 then (k_Flags_turnRound_40 c_negative c_zero c_carry z0 false)
  else k_Flags_turnRound_40 c_negative c_zero c_carry z0 true
def f_Flags_turnRound (c_negative : Bool) (c_zero : Bool) (c_carry : Bool) (x1 : Int32) (x2 : Int32) : Int32 × Bool × Bool × Bool :=
  bd ((x2 &&& 31) : Int32) (fun v1 =>
  if ¬ v1 = 0 then (k_Flags_turnRound_23 c_negative c_zero c_carry x2 ((o_iushr x1 v1) ||| (o_ishl x1 (32 - v1))))
  else k_Flags_turnRound_23 c_negative c_zero c_carry x2 x1)
def f_Flags_even (c_negative : Bool) (c_zero : Bool) (c_carry : Bool) (c_overflow : Bool) (x1 : Int32) : Bool :=
  if x1 = 0 then (c_zero)
  else if x1 = 1 then (c_carry)
  else if x1 = 2 then (c_negative)
  else if x1 = 3 then (c_overflow)
  else if x1 = 4 then (if (bI c_carry) = 0 then (false)
    else if ¬ (bI c_zero) = 0 then (false)
    else true)
  else if x1 = 5 then (if ¬ (bI c_negative) = (bI c_overflow) then (false)
    else true)
  else if ¬ (bI c_zero) = 0 then (false)
  else if ¬ (bI c_negative) = (bI c_overflow) then (false)
  else true
def k_Flags_meet_19 (c_negative : Bool) (c_zero : Bool) (c_carry : Bool) (c_overflow : Bool) (z0 : Bool) (z1 : Bool) : Bool :=
  if (bI z0) = (bI z1) then (false)
  else true
def f_Flags_meet (c_negative : Bool) (c_zero : Bool) (c_carry : Bool) (c_overflow : Bool) (x1 : Int32) : Bool :=
  bd (f_Flags_even c_negative c_zero c_carry c_overflow (o_iushr x1 1) : Bool) (fun v1 =>
  if ¬ (x1 &&& 1) = 1 then (k_Flags_meet_19 c_negative c_zero c_carry c_overflow v1 false)
  else k_Flags_meet_19 c_negative c_zero c_carry c_overflow v1 true)
def f_Memory_holds (q_size : Int32) (x1 : Int32) (x2 : Int32) : Bool :=
  if x1 < 0 then (false)
  else if (q_size - x2) < x1 then (false)
  else true
def f_Memory_isThere (q_size : Int32) (x1 : Int32) (x2 : Int32) : Bool :=
  if ¬ (x1 &&& (x2 - 1)) = 0 then (false)
  else bd (f_Memory_holds q_size x1 x2 : Bool) (fun v1 =>
  if (bI v1) = 0 then (false)
  else true)
def f_Memory_areThere (q_size : Int32) (x1 : Int32) (x2 : Int32) : Bool :=
  if ¬ (x1 &&& 3) = 0 then (false)
  else if x1 < 0 then (false)
  else if (q_size - (4 * x2)) < x1 then (false)
  else true
def f_Memory_word (c_words : Nat → Int32) (x1 : Int32) : Int32 :=
  (c_words (o_iushr x1 2).toNatClampNeg)
def f_Memory_putWord (c_words : Nat → Int32) (x1 : Int32) (x2 : Int32) : (Nat → Int32) :=
  (upd c_words (o_iushr x1 2).toNatClampNeg x2)
def f_Memory_lowest (x1 : Int32) : Int32 :=
  if ¬ x1 = 4 then (((o_ishl 1 (8 * x1)) - 1))
  else (-1)
def f_Memory_read (c_words : Nat → Int32) (x1 : Int32) (x2 : Int32) : Int32 :=
  bd (f_Memory_lowest x2 : Int32) (fun v1 =>
  ((o_iushr (c_words (o_iushr x1 2).toNatClampNeg) (8 * (x1 &&& 3))) &&& v1))
def f_Memory_write (c_words : Nat → Int32) (x1 : Int32) (x2 : Int32) (x3 : Int32) : (Nat → Int32) :=
  bd ((8 * (x1 &&& 3)) : Int32) (fun v1 =>
  bd (f_Memory_lowest x3 : Int32) (fun v2 =>
  bd ((o_ishl v2 v1) : Int32) (fun v3 =>
  (upd c_words (o_iushr x1 2).toNatClampNeg (((c_words (o_iushr x1 2).toNatClampNeg) &&& (v3 ^^^ (-1))) ||| ((o_ishl x2 v1) &&& v3))))))
